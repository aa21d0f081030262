/-! ===== methods ===== -/
set_option maxHeartbeats 0 in
/-- LentNamesModel.look(II)I -/
theorem c223_75 {sc : Nat × Nat} {d a1 a2 : Nat} {h : xh} (hJ : J h) (ba1 : 0 ≤ a1 ∧ a1 ≤ 4294967295) (ba2 : 0 ≤ a2 ∧ a2 ≤ 4294967295) (hW : WT 76 h) : X sc 223 (d + 5) (xI fun r h' => J h' ∧ Fr 135291600897 h h' ∧ (0 ≤ r ∧ r ≤ 4294967295)) 0 0 0 [x_r 75, iv_c a1, iv_c a2] [] h := by
  have la1 : a1 < 4294967296 := by first | decide | omega
  have la2 : a2 < 4294967296 := by first | decide | omega
  have hF := Fr.refl 135291600897 h
  refine x_aload (np := 1) (x := 0) (by decide +kernel) rfl (x_nc_le (by decide)) ?_
  refine x_const (np := 2) (x := 9223372039002259456) (a := 2147483648) (by decide +kernel) (by decide) (by decide) ?_
  refine x_putI (np := 5) (x := 704) (f := 0) (by decide +kernel) (by decide +kernel) (by decide) (Or.inl (by decide)) ?_
  have j2 := jU (e := 0) (v := 2147483648) 0 hJ rg_75_0_0_1 (by first | decide | omega) (by first | decide | omega) (by first | decide | omega)
  have f4 := jF (e := 0) (v := 2147483648) 0 hF rg_75_0_0_1 (by first | decide | omega) (by first | decide | omega) (by decide)
  generalize e3 : x_up h 75 0 2147483648 = h1 at j2 f4 ⊢
  refine x_aload (np := 6) (x := 0) (by decide +kernel) rfl (x_nc_le (by decide)) ?_
  refine x_aload (np := 7) (x := 0) (by decide +kernel) rfl (x_nc_le (by decide)) ?_
  refine x_iload (np := 8) (x := 1) (by decide +kernel) rfl la1 ?_
  refine x_const (np := 9) (x := 9223372047592194050) (a := 2147483650) (by decide +kernel) (by decide) (by decide) ?_
  refine x_nI (t := 6) (mj := 158) (n := 3) (rc := 12) (ml := 3) (nr := 1) (np := 12) (as := [x_r 75, iv_c a1, iv_c 2147483650]) (rest := [x_r 75]) (lo1 := [x_r 75, iv_c a1, iv_c 2147483650]) (by decide +kernel) (by decide) (by decide +kernel) (x_rb_of (by decide +kernel)) rfl rfl (x_wr (by decide) (x_wi la1 (x_wi (by decide) x_wn))) (x_wr (by decide) x_wn) (by decide) rfl ?_
  refine x_iload (np := 1) (x := 1) (by decide +kernel) rfl la1 ?_
  refine x_const (np := 2) (x := 9223372039002259456) (a := 2147483648) (by decide +kernel) (by decide) (by decide) ?_
  refine x_aload (np := 3) (x := 0) (by decide +kernel) rfl (x_nc_le (by decide)) ?_
  have q5 : h1 75 1 = 76 := by have z := jB (e := 1) 0 j2 rg_75_1_0_1 (by decide) (by decide); omega
  refine x_getR (np := 6) (x := 705) (f := 1) (q := 76) (by decide +kernel) (by decide) (by decide +kernel) q5 ?_
  refine x_iload (np := 7) (x := 2) (by decide +kernel) rfl (by decide) ?_
  have q6 : h1 76 2 = h 76 2 := by rw [← e3]; exact x_up_k (by decide)
  have b7 := jB (e := 2) 0 hJ rg_76_2_0_1 (by first | decide | omega) (by first | decide | omega)
  refine x_aldC (np := 8) (x := 0) (n := 1952) (i := 2) (q := (h 76 2)) (by decide +kernel) (by decide +kernel) (by first | decide | omega) (by first | decide | omega) (by decide) q6 (fun l8 => ?_)
  refine x_const (np := 9) (x := 9223372043297226753) (a := 2147483649) (by decide +kernel) (by decide) (by decide) ?_
  obtain ⟨v9, q10⟩ : ∃ z, z + 2147483649 = (h 76 2) + 2147483648 := ⟨(h 76 2) + 2147483648 - 2147483649, by first | decide | omega⟩
  refine x_isub (np := 10) (x := 0) (v := v9) (by decide +kernel) l8 (by decide) (by first | decide | omega) (by first | decide | omega) ?_
  refine x_nI (t := 0) (mj := 153) (n := 3) (rc := 0) (ml := 3) (nr := 0) (np := 13) (as := [iv_c a1, iv_c 2147483648, iv_c v9]) (rest := []) (lo1 := [iv_c a1, iv_c 2147483648, iv_c v9]) (by decide +kernel) (by decide) (by decide +kernel) (Or.inl rfl) rfl rfl (x_wi la1 (x_wi (by decide) (x_wi (by first | decide | omega) x_wn))) x_wn (by decide) rfl ?_
  refine x_iload (np := 1) (x := 0) (by decide +kernel) rfl la1 ?_
  refine x_iload (np := 2) (x := 1) (by decide +kernel) rfl (by decide) ?_
  refine x_icmp (k := 2) (tg := 14) (np := 5) (by decide +kernel) (by decide) la1 (by decide) (fun q11 => ?_) (fun q12 => ?_)
  · have q11 : a1 < 2147483648 := q11
    refine x_const (np := 15) (x := 9223372039002259456) (a := 2147483648) (by decide +kernel) (by decide) (by decide) ?_
    refine x_retI (np := 16) (x := 0) (by decide +kernel) (by decide) (Or.inr ⟨by decide +kernel, by first | decide | omega, by first | decide | omega⟩) ⟨_, rfl, (by decide), ?_⟩
    refine x_ifz (k := 1) (tg := 20) (np := 16) (by decide +kernel) (by decide) (by decide) (fun q13 => ?_) (fun q14 => ?_)
    · have q13 : 2147483648 ≠ 2147483648 := q13
      exfalso; omega
    have q14 : ¬ (2147483648 ≠ 2147483648) := q14
    refine x_const (np := 17) (x := 9223372043297226753) (a := 2147483649) (by decide +kernel) (by decide) (by decide) ?_
    refine x_goto (np := 20) (x := 21) (by decide +kernel) ?_
    refine x_retI (np := 22) (x := 0) (by decide +kernel) (by decide) (Or.inr ⟨by decide +kernel, by first | decide | omega, by first | decide | omega⟩) ⟨_, rfl, (by decide), ?_⟩
    refine x_const (np := 13) (x := 9223372043297226753) (a := 2147483649) (by decide +kernel) (by decide) (by decide) ?_
    refine x_nI (t := 6) (mj := 152) (n := 3) (rc := 12) (ml := 3) (nr := 0) (np := 16) (as := [x_r 75, iv_c 2147483649, iv_c 2147483649]) (rest := []) (lo1 := [x_r 75, iv_c 2147483649, iv_c 2147483649]) (by decide +kernel) (by decide) (by decide +kernel) (x_rb_of (by decide +kernel)) rfl rfl (x_wr (by decide) (x_wi (by decide) (x_wi (by decide) x_wn))) x_wn (by decide) rfl ?_
    refine x_iload (np := 1) (x := 1) (by decide +kernel) rfl (by decide) ?_
    refine x_ifz (k := 0) (tg := 9) (np := 4) (by decide +kernel) (by decide) (by decide) (fun q15 => ?_) (fun q16 => ?_)
    · have q15 : 2147483649 = 2147483648 := q15
      exfalso; omega
    have q16 : ¬ (2147483649 = 2147483648) := q16
    refine x_aload (np := 5) (x := 0) (by decide +kernel) rfl (x_nc_le (by decide)) ?_
    refine x_iload (np := 6) (x := 2) (by decide +kernel) rfl (by decide) ?_
    refine x_putI (np := 9) (x := 704) (f := 0) (by decide +kernel) (by decide +kernel) (by decide) (Or.inl (by decide)) ?_
    have j18 := jU (e := 0) (v := 2147483649) 0 j2 rg_75_0_0_1 (by first | decide | omega) (by first | decide | omega) (by first | decide | omega)
    have f20 := jF (e := 0) (v := 2147483649) 0 f4 rg_75_0_0_1 (by first | decide | omega) (by first | decide | omega) (by decide)
    generalize e19 : x_up h1 75 0 2147483649 = h17 at j18 f20 ⊢
    refine x_iload (np := 10) (x := 1) (by decide +kernel) rfl (by decide) ?_
    refine x_retI (np := 11) (x := 0) (by decide +kernel) (by decide) (Or.inr ⟨by decide +kernel, by first | decide | omega, by first | decide | omega⟩) ⟨_, rfl, (by decide), ?_⟩
    refine x_ifz (k := 1) (tg := 42) (np := 19) (by decide +kernel) (by decide) (by decide) (fun q21 => ?_) (fun q22 => ?_)
    · have q21 : 2147483649 ≠ 2147483648 := q21
      refine x_const (np := 43) (x := 9223372039002259456) (a := 2147483648) (by decide +kernel) (by decide) (by decide) ?_
      refine x_retI (np := 44) (x := 0) (by decide +kernel) (by decide) (Or.inl (by decide +kernel)) ⟨_, rfl, (by decide), ?_⟩
      exact ⟨j18, f20, (by first | decide | omega)⟩
    have q22 : ¬ (2147483649 ≠ 2147483648) := q22
    exfalso; omega
  have q12 : ¬ (a1 < 2147483648) := q12
  refine x_iload (np := 6) (x := 0) (by decide +kernel) rfl la1 ?_
  refine x_iload (np := 7) (x := 2) (by decide +kernel) rfl (by first | decide | omega) ?_
  refine x_icmp (k := 4) (tg := 14) (np := 10) (by decide +kernel) (by decide) la1 (by first | decide | omega) (fun q23 => ?_) (fun q24 => ?_)
  · have q23 : v9 < a1 := q23
    refine x_const (np := 15) (x := 9223372039002259456) (a := 2147483648) (by decide +kernel) (by decide) (by decide) ?_
    refine x_retI (np := 16) (x := 0) (by decide +kernel) (by decide) (Or.inr ⟨by decide +kernel, by first | decide | omega, by first | decide | omega⟩) ⟨_, rfl, (by decide), ?_⟩
    refine x_ifz (k := 1) (tg := 20) (np := 16) (by decide +kernel) (by decide) (by decide) (fun q25 => ?_) (fun q26 => ?_)
    · have q25 : 2147483648 ≠ 2147483648 := q25
      exfalso; omega
    have q26 : ¬ (2147483648 ≠ 2147483648) := q26
    refine x_const (np := 17) (x := 9223372043297226753) (a := 2147483649) (by decide +kernel) (by decide) (by decide) ?_
    refine x_goto (np := 20) (x := 21) (by decide +kernel) ?_
    refine x_retI (np := 22) (x := 0) (by decide +kernel) (by decide) (Or.inr ⟨by decide +kernel, by first | decide | omega, by first | decide | omega⟩) ⟨_, rfl, (by decide), ?_⟩
    refine x_const (np := 13) (x := 9223372043297226753) (a := 2147483649) (by decide +kernel) (by decide) (by decide) ?_
    refine x_nI (t := 6) (mj := 152) (n := 3) (rc := 12) (ml := 3) (nr := 0) (np := 16) (as := [x_r 75, iv_c 2147483649, iv_c 2147483649]) (rest := []) (lo1 := [x_r 75, iv_c 2147483649, iv_c 2147483649]) (by decide +kernel) (by decide) (by decide +kernel) (x_rb_of (by decide +kernel)) rfl rfl (x_wr (by decide) (x_wi (by decide) (x_wi (by decide) x_wn))) x_wn (by decide) rfl ?_
    refine x_iload (np := 1) (x := 1) (by decide +kernel) rfl (by decide) ?_
    refine x_ifz (k := 0) (tg := 9) (np := 4) (by decide +kernel) (by decide) (by decide) (fun q27 => ?_) (fun q28 => ?_)
    · have q27 : 2147483649 = 2147483648 := q27
      exfalso; omega
    have q28 : ¬ (2147483649 = 2147483648) := q28
    refine x_aload (np := 5) (x := 0) (by decide +kernel) rfl (x_nc_le (by decide)) ?_
    refine x_iload (np := 6) (x := 2) (by decide +kernel) rfl (by decide) ?_
    refine x_putI (np := 9) (x := 704) (f := 0) (by decide +kernel) (by decide +kernel) (by decide) (Or.inl (by decide)) ?_
    have j30 := jU (e := 0) (v := 2147483649) 0 j2 rg_75_0_0_1 (by first | decide | omega) (by first | decide | omega) (by first | decide | omega)
    have f32 := jF (e := 0) (v := 2147483649) 0 f4 rg_75_0_0_1 (by first | decide | omega) (by first | decide | omega) (by decide)
    generalize e31 : x_up h1 75 0 2147483649 = h29 at j30 f32 ⊢
    refine x_iload (np := 10) (x := 1) (by decide +kernel) rfl (by decide) ?_
    refine x_retI (np := 11) (x := 0) (by decide +kernel) (by decide) (Or.inr ⟨by decide +kernel, by first | decide | omega, by first | decide | omega⟩) ⟨_, rfl, (by decide), ?_⟩
    refine x_ifz (k := 1) (tg := 42) (np := 19) (by decide +kernel) (by decide) (by decide) (fun q33 => ?_) (fun q34 => ?_)
    · have q33 : 2147483649 ≠ 2147483648 := q33
      refine x_const (np := 43) (x := 9223372039002259456) (a := 2147483648) (by decide +kernel) (by decide) (by decide) ?_
      refine x_retI (np := 44) (x := 0) (by decide +kernel) (by decide) (Or.inl (by decide +kernel)) ⟨_, rfl, (by decide), ?_⟩
      exact ⟨j30, f32, (by first | decide | omega)⟩
    have q34 : ¬ (2147483649 ≠ 2147483648) := q34
    exfalso; omega
  have q24 : ¬ (v9 < a1) := q24
  refine x_const (np := 11) (x := 9223372043297226753) (a := 2147483649) (by decide +kernel) (by decide) (by decide) ?_
  refine x_goto (np := 14) (x := 15) (by decide +kernel) ?_
  refine x_retI (np := 16) (x := 0) (by decide +kernel) (by decide) (Or.inr ⟨by decide +kernel, by first | decide | omega, by first | decide | omega⟩) ⟨_, rfl, (by decide), ?_⟩
  refine x_ifz (k := 1) (tg := 20) (np := 16) (by decide +kernel) (by decide) (by decide) (fun q35 => ?_) (fun q36 => ?_)
  · have q35 : 2147483649 ≠ 2147483648 := q35
    refine x_const (np := 21) (x := 9223372039002259456) (a := 2147483648) (by decide +kernel) (by decide) (by decide) ?_
    refine x_retI (np := 22) (x := 0) (by decide +kernel) (by decide) (Or.inr ⟨by decide +kernel, by first | decide | omega, by first | decide | omega⟩) ⟨_, rfl, (by decide), ?_⟩
    refine x_const (np := 13) (x := 9223372043297226753) (a := 2147483649) (by decide +kernel) (by decide) (by decide) ?_
    refine x_nI (t := 6) (mj := 152) (n := 3) (rc := 12) (ml := 3) (nr := 0) (np := 16) (as := [x_r 75, iv_c 2147483648, iv_c 2147483649]) (rest := []) (lo1 := [x_r 75, iv_c 2147483648, iv_c 2147483649]) (by decide +kernel) (by decide) (by decide +kernel) (x_rb_of (by decide +kernel)) rfl rfl (x_wr (by decide) (x_wi (by decide) (x_wi (by decide) x_wn))) x_wn (by decide) rfl ?_
    refine x_iload (np := 1) (x := 1) (by decide +kernel) rfl (by decide) ?_
    refine x_ifz (k := 0) (tg := 9) (np := 4) (by decide +kernel) (by decide) (by decide) (fun q37 => ?_) (fun q38 => ?_)
    · have q37 : 2147483648 = 2147483648 := q37
      refine x_iload (np := 10) (x := 1) (by decide +kernel) rfl (by decide) ?_
      refine x_retI (np := 11) (x := 0) (by decide +kernel) (by decide) (Or.inr ⟨by decide +kernel, by first | decide | omega, by first | decide | omega⟩) ⟨_, rfl, (by decide), ?_⟩
      refine x_ifz (k := 1) (tg := 42) (np := 19) (by decide +kernel) (by decide) (by decide) (fun q39 => ?_) (fun q40 => ?_)
      · have q39 : 2147483648 ≠ 2147483648 := q39
        exfalso; omega
      have q40 : ¬ (2147483648 ≠ 2147483648) := q40
      refine x_aload (np := 20) (x := 0) (by decide +kernel) rfl (x_nc_le (by decide)) ?_
      refine x_iload (np := 21) (x := 2) (by decide +kernel) rfl la2 ?_
      refine x_const (np := 22) (x := 9223372039002259456) (a := 2147483648) (by decide +kernel) (by decide) (by decide) ?_
      refine x_const (np := 24) (x := 9223372069067030535) (a := 2147483655) (by decide +kernel) (by decide) (by decide) ?_
      refine x_nI (t := 0) (mj := 153) (n := 3) (rc := 0) (ml := 3) (nr := 1) (np := 27) (as := [iv_c a2, iv_c 2147483648, iv_c 2147483655]) (rest := [x_r 75]) (lo1 := [iv_c a2, iv_c 2147483648, iv_c 2147483655]) (by decide +kernel) (by decide) (by decide +kernel) (Or.inl rfl) rfl rfl (x_wi la2 (x_wi (by decide) (x_wi (by decide) x_wn))) (x_wr (by decide) x_wn) (by decide) rfl ?_
      refine x_iload (np := 1) (x := 0) (by decide +kernel) rfl la2 ?_
      refine x_iload (np := 2) (x := 1) (by decide +kernel) rfl (by decide) ?_
      refine x_icmp (k := 2) (tg := 14) (np := 5) (by decide +kernel) (by decide) la2 (by decide) (fun q41 => ?_) (fun q42 => ?_)
      · have q41 : a2 < 2147483648 := q41
        refine x_const (np := 15) (x := 9223372039002259456) (a := 2147483648) (by decide +kernel) (by decide) (by decide) ?_
        refine x_retI (np := 16) (x := 0) (by decide +kernel) (by decide) (Or.inr ⟨by decide +kernel, by first | decide | omega, by first | decide | omega⟩) ⟨_, rfl, (by decide), ?_⟩
        refine x_ifz (k := 1) (tg := 34) (np := 30) (by decide +kernel) (by decide) (by decide) (fun q43 => ?_) (fun q44 => ?_)
        · have q43 : 2147483648 ≠ 2147483648 := q43
          exfalso; omega
        have q44 : ¬ (2147483648 ≠ 2147483648) := q44
        refine x_const (np := 31) (x := 9223372043297226753) (a := 2147483649) (by decide +kernel) (by decide) (by decide) ?_
        refine x_goto (np := 34) (x := 35) (by decide +kernel) ?_
        refine x_const (np := 36) (x := 9223372047592194050) (a := 2147483650) (by decide +kernel) (by decide) (by decide) ?_
        refine x_nI (t := 6) (mj := 152) (n := 3) (rc := 12) (ml := 3) (nr := 0) (np := 39) (as := [x_r 75, iv_c 2147483649, iv_c 2147483650]) (rest := []) (lo1 := [x_r 75, iv_c 2147483649, iv_c 2147483650]) (by decide +kernel) (by decide) (by decide +kernel) (x_rb_of (by decide +kernel)) rfl rfl (x_wr (by decide) (x_wi (by decide) (x_wi (by decide) x_wn))) x_wn (by decide) rfl ?_
        refine x_iload (np := 1) (x := 1) (by decide +kernel) rfl (by decide) ?_
        refine x_ifz (k := 0) (tg := 9) (np := 4) (by decide +kernel) (by decide) (by decide) (fun q45 => ?_) (fun q46 => ?_)
        · have q45 : 2147483649 = 2147483648 := q45
          exfalso; omega
        have q46 : ¬ (2147483649 = 2147483648) := q46
        refine x_aload (np := 5) (x := 0) (by decide +kernel) rfl (x_nc_le (by decide)) ?_
        refine x_iload (np := 6) (x := 2) (by decide +kernel) rfl (by decide) ?_
        refine x_putI (np := 9) (x := 704) (f := 0) (by decide +kernel) (by decide +kernel) (by decide) (Or.inl (by decide)) ?_
        have j48 := jU (e := 0) (v := 2147483650) 0 j2 rg_75_0_0_1 (by first | decide | omega) (by first | decide | omega) (by first | decide | omega)
        have f50 := jF (e := 0) (v := 2147483650) 0 f4 rg_75_0_0_1 (by first | decide | omega) (by first | decide | omega) (by decide)
        generalize e49 : x_up h1 75 0 2147483650 = h47 at j48 f50 ⊢
        refine x_iload (np := 10) (x := 1) (by decide +kernel) rfl (by decide) ?_
        refine x_retI (np := 11) (x := 0) (by decide +kernel) (by decide) (Or.inr ⟨by decide +kernel, by first | decide | omega, by first | decide | omega⟩) ⟨_, rfl, (by decide), ?_⟩
        refine x_ifz (k := 0) (tg := 44) (np := 42) (by decide +kernel) (by decide) (by decide) (fun q51 => ?_) (fun q52 => ?_)
        · have q51 : 2147483649 = 2147483648 := q51
          exfalso; omega
        have q52 : ¬ (2147483649 = 2147483648) := q52
        refine x_const (np := 43) (x := 9223372039002259456) (a := 2147483648) (by decide +kernel) (by decide) (by decide) ?_
        refine x_retI (np := 44) (x := 0) (by decide +kernel) (by decide) (Or.inl (by decide +kernel)) ⟨_, rfl, (by decide), ?_⟩
        exact ⟨j48, f50, (by first | decide | omega)⟩
      have q42 : ¬ (a2 < 2147483648) := q42
      refine x_iload (np := 6) (x := 0) (by decide +kernel) rfl la2 ?_
      refine x_iload (np := 7) (x := 2) (by decide +kernel) rfl (by decide) ?_
      refine x_icmp (k := 4) (tg := 14) (np := 10) (by decide +kernel) (by decide) la2 (by decide) (fun q53 => ?_) (fun q54 => ?_)
      · have q53 : 2147483655 < a2 := q53
        refine x_const (np := 15) (x := 9223372039002259456) (a := 2147483648) (by decide +kernel) (by decide) (by decide) ?_
        refine x_retI (np := 16) (x := 0) (by decide +kernel) (by decide) (Or.inr ⟨by decide +kernel, by first | decide | omega, by first | decide | omega⟩) ⟨_, rfl, (by decide), ?_⟩
        refine x_ifz (k := 1) (tg := 34) (np := 30) (by decide +kernel) (by decide) (by decide) (fun q55 => ?_) (fun q56 => ?_)
        · have q55 : 2147483648 ≠ 2147483648 := q55
          exfalso; omega
        have q56 : ¬ (2147483648 ≠ 2147483648) := q56
        refine x_const (np := 31) (x := 9223372043297226753) (a := 2147483649) (by decide +kernel) (by decide) (by decide) ?_
        refine x_goto (np := 34) (x := 35) (by decide +kernel) ?_
        refine x_const (np := 36) (x := 9223372047592194050) (a := 2147483650) (by decide +kernel) (by decide) (by decide) ?_
        refine x_nI (t := 6) (mj := 152) (n := 3) (rc := 12) (ml := 3) (nr := 0) (np := 39) (as := [x_r 75, iv_c 2147483649, iv_c 2147483650]) (rest := []) (lo1 := [x_r 75, iv_c 2147483649, iv_c 2147483650]) (by decide +kernel) (by decide) (by decide +kernel) (x_rb_of (by decide +kernel)) rfl rfl (x_wr (by decide) (x_wi (by decide) (x_wi (by decide) x_wn))) x_wn (by decide) rfl ?_
        refine x_iload (np := 1) (x := 1) (by decide +kernel) rfl (by decide) ?_
        refine x_ifz (k := 0) (tg := 9) (np := 4) (by decide +kernel) (by decide) (by decide) (fun q57 => ?_) (fun q58 => ?_)
        · have q57 : 2147483649 = 2147483648 := q57
          exfalso; omega
        have q58 : ¬ (2147483649 = 2147483648) := q58
        refine x_aload (np := 5) (x := 0) (by decide +kernel) rfl (x_nc_le (by decide)) ?_
        refine x_iload (np := 6) (x := 2) (by decide +kernel) rfl (by decide) ?_
        refine x_putI (np := 9) (x := 704) (f := 0) (by decide +kernel) (by decide +kernel) (by decide) (Or.inl (by decide)) ?_
        have j60 := jU (e := 0) (v := 2147483650) 0 j2 rg_75_0_0_1 (by first | decide | omega) (by first | decide | omega) (by first | decide | omega)
        have f62 := jF (e := 0) (v := 2147483650) 0 f4 rg_75_0_0_1 (by first | decide | omega) (by first | decide | omega) (by decide)
        generalize e61 : x_up h1 75 0 2147483650 = h59 at j60 f62 ⊢
        refine x_iload (np := 10) (x := 1) (by decide +kernel) rfl (by decide) ?_
        refine x_retI (np := 11) (x := 0) (by decide +kernel) (by decide) (Or.inr ⟨by decide +kernel, by first | decide | omega, by first | decide | omega⟩) ⟨_, rfl, (by decide), ?_⟩
        refine x_ifz (k := 0) (tg := 44) (np := 42) (by decide +kernel) (by decide) (by decide) (fun q63 => ?_) (fun q64 => ?_)
        · have q63 : 2147483649 = 2147483648 := q63
          exfalso; omega
        have q64 : ¬ (2147483649 = 2147483648) := q64
        refine x_const (np := 43) (x := 9223372039002259456) (a := 2147483648) (by decide +kernel) (by decide) (by decide) ?_
        refine x_retI (np := 44) (x := 0) (by decide +kernel) (by decide) (Or.inl (by decide +kernel)) ⟨_, rfl, (by decide), ?_⟩
        exact ⟨j60, f62, (by first | decide | omega)⟩
      have q54 : ¬ (2147483655 < a2) := q54
      refine x_const (np := 11) (x := 9223372043297226753) (a := 2147483649) (by decide +kernel) (by decide) (by decide) ?_
      refine x_goto (np := 14) (x := 15) (by decide +kernel) ?_
      refine x_retI (np := 16) (x := 0) (by decide +kernel) (by decide) (Or.inr ⟨by decide +kernel, by first | decide | omega, by first | decide | omega⟩) ⟨_, rfl, (by decide), ?_⟩
      refine x_ifz (k := 1) (tg := 34) (np := 30) (by decide +kernel) (by decide) (by decide) (fun q65 => ?_) (fun q66 => ?_)
      · have q65 : 2147483649 ≠ 2147483648 := q65
        refine x_const (np := 35) (x := 9223372039002259456) (a := 2147483648) (by decide +kernel) (by decide) (by decide) ?_
        refine x_const (np := 36) (x := 9223372047592194050) (a := 2147483650) (by decide +kernel) (by decide) (by decide) ?_
        refine x_nI (t := 6) (mj := 152) (n := 3) (rc := 12) (ml := 3) (nr := 0) (np := 39) (as := [x_r 75, iv_c 2147483648, iv_c 2147483650]) (rest := []) (lo1 := [x_r 75, iv_c 2147483648, iv_c 2147483650]) (by decide +kernel) (by decide) (by decide +kernel) (x_rb_of (by decide +kernel)) rfl rfl (x_wr (by decide) (x_wi (by decide) (x_wi (by decide) x_wn))) x_wn (by decide) rfl ?_
        refine x_iload (np := 1) (x := 1) (by decide +kernel) rfl (by decide) ?_
        refine x_ifz (k := 0) (tg := 9) (np := 4) (by decide +kernel) (by decide) (by decide) (fun q67 => ?_) (fun q68 => ?_)
        · have q67 : 2147483648 = 2147483648 := q67
          refine x_iload (np := 10) (x := 1) (by decide +kernel) rfl (by decide) ?_
          refine x_retI (np := 11) (x := 0) (by decide +kernel) (by decide) (Or.inr ⟨by decide +kernel, by first | decide | omega, by first | decide | omega⟩) ⟨_, rfl, (by decide), ?_⟩
          refine x_ifz (k := 0) (tg := 44) (np := 42) (by decide +kernel) (by decide) (by decide) (fun q69 => ?_) (fun q70 => ?_)
          · have q69 : 2147483648 = 2147483648 := q69
            refine x_iload (np := 45) (x := 2) (by decide +kernel) rfl la2 ?_
            refine x_const (np := 46) (x := 9223372051887161347) (a := 2147483651) (by decide +kernel) (by decide) (by decide) ?_
            refine x_icmp (k := 3) (tg := 56) (np := 49) (by decide +kernel) (by decide) la2 (by decide) (fun q71 => ?_) (fun q72 => ?_)
            · have q71 : 2147483651 ≤ a2 := q71
              refine x_iload (np := 57) (x := 2) (by decide +kernel) rfl la2 ?_
              refine x_const (np := 58) (x := 9223372051887161347) (a := 2147483651) (by decide +kernel) (by decide) (by decide) ?_
              refine x_icmp (k := 1) (tg := 67) (np := 61) (by decide +kernel) (by decide) la2 (by decide) (fun q73 => ?_) (fun q74 => ?_)
              · have q73 : a2 ≠ 2147483651 := q73
                refine x_aload (np := 68) (x := 0) (by decide +kernel) rfl (x_nc_le (by decide)) ?_
                have m78 : WT 76 h1 := by rw [← e3]; exact WT.oth hW hJ (by decide)
                refine x_cV (t := 6) (mj := 210) (n := 1) (rc := 12) (ml := 5) (nr := 0) (np := 71) (as := [x_r 75]) (rest := []) (lo1 := [x_r 75, 147573952589676412928, 147573952589676412928, 147573952589676412928, 147573952589676412928]) (by decide +kernel) (by decide) (by decide +kernel) (x_rb_of (by decide +kernel)) rfl rfl (x_wr (by decide) x_wn) x_wn (by decide) rfl (c210_75 j2  m78) (fun h79 q77 => ?_)
                obtain ⟨j80, f81⟩ := q77
                have f84 := Fr.trans f4 f81 (by decide)
                refine x_iload (np := 72) (x := 2) (by decide +kernel) rfl la2 ?_
                refine x_const (np := 73) (x := 9223372056182128644) (a := 2147483652) (by decide +kernel) (by decide) (by decide) ?_
                refine x_icmp (k := 1) (tg := 92) (np := 76) (by decide +kernel) (by decide) la2 (by decide) (fun q85 => ?_) (fun q86 => ?_)
                · have q85 : a2 ≠ 2147483652 := q85
                  refine x_iload (np := 93) (x := 2) (by decide +kernel) rfl la2 ?_
                  refine x_const (np := 94) (x := 9223372060477095941) (a := 2147483653) (by decide +kernel) (by decide) (by decide) ?_
                  refine x_icmp (k := 1) (tg := 106) (np := 97) (by decide +kernel) (by decide) la2 (by decide) (fun q87 => ?_) (fun q88 => ?_)
                  · have q87 : a2 ≠ 2147483653 := q87
                    refine x_iload (np := 107) (x := 2) (by decide +kernel) rfl la2 ?_
                    refine x_const (np := 109) (x := 9223372064772063238) (a := 2147483654) (by decide +kernel) (by decide) (by decide) ?_
                    refine x_icmp (k := 1) (tg := 121) (np := 112) (by decide +kernel) (by decide) la2 (by decide) (fun q89 => ?_) (fun q90 => ?_)
                    · have q89 : a2 ≠ 2147483654 := q89
                      refine x_aload (np := 122) (x := 0) (by decide +kernel) rfl (x_nc_le (by decide)) ?_
                      have q91 : h79 75 23 = 90 := by have z := jB (e := 23) 0 j80 rg_75_23_0_1 (by decide) (by decide); omega
                      refine x_getR (np := 125) (x := 727) (f := 23) (q := 90) (by decide +kernel) (by decide) (by decide +kernel) q91 ?_
                      refine x_iload (np := 126) (x := 1) (by decide +kernel) rfl la1 ?_
                      obtain ⟨u92, q93⟩ : ∃ z, a1 = 2147483648 + z := ⟨a1 - 2147483648, by first | decide | omega⟩
                      refine x_aldC (np := 127) (x := 0) (n := 20) (i := u92) (q := (h79 90 u92)) (by decide +kernel) (by decide +kernel) (by first | decide | omega) (by first | decide | omega) (by decide) rfl (fun l94 => ?_)
                      refine x_retI (np := 128) (x := 0) (by decide +kernel) l94 (Or.inl (by decide +kernel)) ⟨_, rfl, l94, ?_⟩
                      exact ⟨j80, f84, (by first | decide | omega)⟩
                    have q90 : ¬ (a2 ≠ 2147483654) := q90
                    refine x_aload (np := 113) (x := 0) (by decide +kernel) rfl (x_nc_le (by decide)) ?_
                    have q95 : h79 75 22 = 89 := by have z := jB (e := 22) 0 j80 rg_75_22_0_1 (by decide) (by decide); omega
                    refine x_getR (np := 116) (x := 726) (f := 22) (q := 89) (by decide +kernel) (by decide) (by decide +kernel) q95 ?_
                    refine x_iload (np := 117) (x := 1) (by decide +kernel) rfl la1 ?_
                    obtain ⟨u96, q97⟩ : ∃ z, a1 = 2147483648 + z := ⟨a1 - 2147483648, by first | decide | omega⟩
                    refine x_aldC (np := 118) (x := 0) (n := 20) (i := u96) (q := (h79 89 u96)) (by decide +kernel) (by decide +kernel) (by first | decide | omega) (by first | decide | omega) (by decide) rfl (fun l98 => ?_)
                    refine x_goto (np := 121) (x := 127) (by decide +kernel) ?_
                    refine x_retI (np := 128) (x := 0) (by decide +kernel) l98 (Or.inl (by decide +kernel)) ⟨_, rfl, l98, ?_⟩
                    exact ⟨j80, f84, (by first | decide | omega)⟩
                  have q88 : ¬ (a2 ≠ 2147483653) := q88
                  refine x_aload (np := 98) (x := 0) (by decide +kernel) rfl (x_nc_le (by decide)) ?_
                  have q99 : h79 75 21 = 88 := by have z := jB (e := 21) 0 j80 rg_75_21_0_1 (by decide) (by decide); omega
                  refine x_getR (np := 101) (x := 725) (f := 21) (q := 88) (by decide +kernel) (by decide) (by decide +kernel) q99 ?_
                  refine x_iload (np := 102) (x := 1) (by decide +kernel) rfl la1 ?_
                  obtain ⟨u100, q101⟩ : ∃ z, a1 = 2147483648 + z := ⟨a1 - 2147483648, by first | decide | omega⟩
                  refine x_aldC (np := 103) (x := 0) (n := 20) (i := u100) (q := (h79 88 u100)) (by decide +kernel) (by decide +kernel) (by first | decide | omega) (by first | decide | omega) (by decide) rfl (fun l102 => ?_)
                  refine x_goto (np := 106) (x := 127) (by decide +kernel) ?_
                  refine x_retI (np := 128) (x := 0) (by decide +kernel) l102 (Or.inl (by decide +kernel)) ⟨_, rfl, l102, ?_⟩
                  exact ⟨j80, f84, (by first | decide | omega)⟩
                have q86 : ¬ (a2 ≠ 2147483652) := q86
                refine x_aload (np := 77) (x := 0) (by decide +kernel) rfl (x_nc_le (by decide)) ?_
                refine x_iload (np := 78) (x := 1) (by decide +kernel) rfl la1 ?_
                refine x_nI (t := 6) (mj := 222) (n := 2) (rc := 12) (ml := 2) (nr := 0) (np := 81) (as := [x_r 75, iv_c a1]) (rest := []) (lo1 := [x_r 75, iv_c a1]) (by decide +kernel) (by decide) (by decide +kernel) (x_rb_of (by decide +kernel)) rfl rfl (x_wr (by decide) (x_wi la1 x_wn)) x_wn (by decide) rfl ?_
                refine x_aload (np := 1) (x := 0) (by decide +kernel) rfl (x_nc_le (by decide)) ?_
                have q103 : h79 75 21 = 88 := by have z := jB (e := 21) 0 j80 rg_75_21_0_1 (by decide) (by decide); omega
                refine x_getR (np := 4) (x := 725) (f := 21) (q := 88) (by decide +kernel) (by decide) (by decide +kernel) q103 ?_
                refine x_iload (np := 5) (x := 1) (by decide +kernel) rfl la1 ?_
                obtain ⟨u104, q105⟩ : ∃ z, a1 = 2147483648 + z := ⟨a1 - 2147483648, by first | decide | omega⟩
                refine x_aldC (np := 6) (x := 0) (n := 20) (i := u104) (q := (h79 88 u104)) (by decide +kernel) (by decide +kernel) (by first | decide | omega) (by first | decide | omega) (by decide) rfl (fun l106 => ?_)
                refine x_ifz (k := 3) (tg := 13) (np := 9) (by decide +kernel) (by decide) l106 (fun q107 => ?_) (fun q108 => ?_)
                · have q107 : 2147483648 ≤ (h79 88 u104) := q107
                  refine x_const (np := 14) (x := 9223372039002259456) (a := 2147483648) (by decide +kernel) (by decide) (by decide) ?_
                  refine x_retI (np := 15) (x := 0) (by decide +kernel) (by decide) (Or.inr ⟨by decide +kernel, by first | decide | omega, by first | decide | omega⟩) ⟨_, rfl, (by decide), ?_⟩
                  refine x_ifz (k := 0) (tg := 88) (np := 84) (by decide +kernel) (by decide) (by decide) (fun q109 => ?_) (fun q110 => ?_)
                  · have q109 : 2147483648 = 2147483648 := q109
                    refine x_const (np := 89) (x := 9223372039002259456) (a := 2147483648) (by decide +kernel) (by decide) (by decide) ?_
                    refine x_goto (np := 92) (x := 127) (by decide +kernel) ?_
                    refine x_retI (np := 128) (x := 0) (by decide +kernel) (by decide) (Or.inl (by decide +kernel)) ⟨_, rfl, (by decide), ?_⟩
                    exact ⟨j80, f84, (by first | decide | omega)⟩
                  have q110 : ¬ (2147483648 = 2147483648) := q110
                  exfalso; omega
                have q108 : ¬ (2147483648 ≤ (h79 88 u104)) := q108
                refine x_const (np := 10) (x := 9223372043297226753) (a := 2147483649) (by decide +kernel) (by decide) (by decide) ?_
                refine x_goto (np := 13) (x := 14) (by decide +kernel) ?_
                refine x_retI (np := 15) (x := 0) (by decide +kernel) (by decide) (Or.inr ⟨by decide +kernel, by first | decide | omega, by first | decide | omega⟩) ⟨_, rfl, (by decide), ?_⟩
                refine x_ifz (k := 0) (tg := 88) (np := 84) (by decide +kernel) (by decide) (by decide) (fun q111 => ?_) (fun q112 => ?_)
                · have q111 : 2147483649 = 2147483648 := q111
                  exfalso; omega
                have q112 : ¬ (2147483649 = 2147483648) := q112
                refine x_const (np := 85) (x := 9223372043297226753) (a := 2147483649) (by decide +kernel) (by decide) (by decide) ?_
                refine x_goto (np := 88) (x := 127) (by decide +kernel) ?_
                refine x_retI (np := 128) (x := 0) (by decide +kernel) (by decide) (Or.inl (by decide +kernel)) ⟨_, rfl, (by decide), ?_⟩
                exact ⟨j80, f84, (by first | decide | omega)⟩
              have q74 : ¬ (a2 ≠ 2147483651) := q74
              refine x_aload (np := 62) (x := 0) (by decide +kernel) rfl (x_nc_le (by decide)) ?_
              refine x_iload (np := 63) (x := 1) (by decide +kernel) rfl la1 ?_
              refine x_nI (t := 6) (mj := 201) (n := 2) (rc := 12) (ml := 2) (nr := 0) (np := 66) (as := [x_r 75, iv_c a1]) (rest := []) (lo1 := [x_r 75, iv_c a1]) (by decide +kernel) (by decide) (by decide +kernel) (x_rb_of (by decide +kernel)) rfl rfl (x_wr (by decide) (x_wi la1 x_wn)) x_wn (by decide) rfl ?_
              refine x_aload (np := 1) (x := 0) (by decide +kernel) rfl (x_nc_le (by decide)) ?_
              refine x_iload (np := 2) (x := 1) (by decide +kernel) rfl la1 ?_
              refine x_const (np := 3) (x := 9223372047592194050) (a := 2147483650) (by decide +kernel) (by decide) (by decide) ?_
              refine x_nI (t := 6) (mj := 161) (n := 3) (rc := 12) (ml := 3) (nr := 0) (np := 6) (as := [x_r 75, iv_c a1, iv_c 2147483650]) (rest := []) (lo1 := [x_r 75, iv_c a1, iv_c 2147483650]) (by decide +kernel) (by decide) (by decide +kernel) (x_rb_of (by decide +kernel)) rfl rfl (x_wr (by decide) (x_wi la1 (x_wi (by decide) x_wn))) x_wn (by decide) rfl ?_
              refine x_aload (np := 1) (x := 0) (by decide +kernel) rfl (x_nc_le (by decide)) ?_
              have q113 : h1 75 1 = 76 := by have z := jB (e := 1) 0 j2 rg_75_1_0_1 (by decide) (by decide); omega
              refine x_getR (np := 4) (x := 705) (f := 1) (q := 76) (by decide +kernel) (by decide) (by decide +kernel) q113 ?_
              refine x_const (np := 6) (x := 9223372124901605396) (a := 2147483668) (by decide +kernel) (by decide) (by decide) ?_
              refine x_const (np := 8) (x := 9223372069067030535) (a := 2147483655) (by decide +kernel) (by decide) (by decide) ?_
              refine x_iload (np := 9) (x := 1) (by decide +kernel) rfl la1 ?_
              obtain ⟨u114, q115⟩ : ∃ z, a1 = 2147483648 + z := ⟨a1 - 2147483648, by first | decide | omega⟩
              refine x_imul (np := 10) (x := 0) (i := 7) (j := u114) (v := (2147483648 + 7 * u114)) (by decide +kernel) (by first | decide | omega) (by first | decide | omega) (by first | decide | omega) (by first | decide | omega) (by decide) la1 ?_
              refine x_iadd (np := 11) (x := 0) (v := (2147483668 + 7 * u114)) (by decide +kernel) (by decide) (by first | decide | omega) (by first | decide | omega) (by first | decide | omega) ?_
              refine x_iload (np := 12) (x := 2) (by decide +kernel) rfl (by decide) ?_
              refine x_iadd (np := 13) (x := 0) (v := (2147483670 + 7 * u114)) (by decide +kernel) (by first | decide | omega) (by decide) (by first | decide | omega) (by first | decide | omega) ?_
              have q117 : h1 76 (22 + 7 * u114) = h 76 (22 + 7 * u114) := by rw [← e3]; exact x_up_k (by decide)
              refine x_aldC (np := 14) (x := 0) (n := 1952) (i := (22 + 7 * u114)) (q := ((h 76 (22 + 7 * u114)))) (by decide +kernel) (by decide +kernel) (by first | decide | omega) (by first | decide | omega) (by decide) q117 (fun l118 => ?_)
              refine x_retI (np := 15) (x := 0) (by decide +kernel) l118 (Or.inl (by decide +kernel)) ⟨_, rfl, l118, ?_⟩
              refine x_aload (np := 7) (x := 0) (by decide +kernel) rfl (x_nc_le (by decide)) ?_
              refine x_iload (np := 8) (x := 1) (by decide +kernel) rfl la1 ?_
              refine x_const (np := 9) (x := 9223372051887161347) (a := 2147483651) (by decide +kernel) (by decide) (by decide) ?_
              refine x_nI (t := 6) (mj := 161) (n := 3) (rc := 12) (ml := 3) (nr := 1) (np := 12) (as := [x_r 75, iv_c a1, iv_c 2147483651]) (rest := [iv_c ((h 76 (22 + 7 * u114)))]) (lo1 := [x_r 75, iv_c a1, iv_c 2147483651]) (by decide +kernel) (by decide) (by decide +kernel) (x_rb_of (by decide +kernel)) rfl rfl (x_wr (by decide) (x_wi la1 (x_wi (by decide) x_wn))) (x_wi l118 x_wn) (by decide) rfl ?_
              refine x_aload (np := 1) (x := 0) (by decide +kernel) rfl (x_nc_le (by decide)) ?_
              have q119 : h1 75 1 = 76 := by have z := jB (e := 1) 0 j2 rg_75_1_0_1 (by decide) (by decide); omega
              refine x_getR (np := 4) (x := 705) (f := 1) (q := 76) (by decide +kernel) (by decide) (by decide +kernel) q119 ?_
              refine x_const (np := 6) (x := 9223372124901605396) (a := 2147483668) (by decide +kernel) (by decide) (by decide) ?_
              refine x_const (np := 8) (x := 9223372069067030535) (a := 2147483655) (by decide +kernel) (by decide) (by decide) ?_
              refine x_iload (np := 9) (x := 1) (by decide +kernel) rfl la1 ?_
              refine x_imul (np := 10) (x := 0) (i := 7) (j := u114) (v := (2147483648 + 7 * u114)) (by decide +kernel) (by first | decide | omega) (by first | decide | omega) (by first | decide | omega) (by first | decide | omega) (by decide) la1 ?_
              refine x_iadd (np := 11) (x := 0) (v := (2147483668 + 7 * u114)) (by decide +kernel) (by decide) (by first | decide | omega) (by first | decide | omega) (by first | decide | omega) ?_
              refine x_iload (np := 12) (x := 2) (by decide +kernel) rfl (by decide) ?_
              refine x_iadd (np := 13) (x := 0) (v := (2147483671 + 7 * u114)) (by decide +kernel) (by first | decide | omega) (by decide) (by first | decide | omega) (by first | decide | omega) ?_
              have q121 : h1 76 (23 + 7 * u114) = h 76 (23 + 7 * u114) := by rw [← e3]; exact x_up_k (by decide)
              refine x_aldC (np := 14) (x := 0) (n := 1952) (i := (23 + 7 * u114)) (q := ((h 76 (23 + 7 * u114)))) (by decide +kernel) (by decide +kernel) (by first | decide | omega) (by first | decide | omega) (by decide) q121 (fun l122 => ?_)
              refine x_retI (np := 15) (x := 0) (by decide +kernel) l122 (Or.inl (by decide +kernel)) ⟨_, rfl, l122, ?_⟩
              refine x_addA (by rw [tb_b201]; decide +kernel) l118 l122 (fun v123 l124 => ?_)
              refine x_const (np := 14) (x := 9223372043297226753) (a := 2147483649) (by decide +kernel) (by decide) (by decide) ?_
              refine x_subA (by rw [tb_b201]; decide +kernel) l124 (by decide) (fun v125 l126 => ?_)
              refine x_aload (np := 16) (x := 0) (by decide +kernel) rfl (x_nc_le (by decide)) ?_
              refine x_iload (np := 17) (x := 1) (by decide +kernel) rfl la1 ?_
              refine x_const (np := 19) (x := 9223372064772063238) (a := 2147483654) (by decide +kernel) (by decide) (by decide) ?_
              refine x_nI (t := 6) (mj := 161) (n := 3) (rc := 12) (ml := 3) (nr := 1) (np := 22) (as := [x_r 75, iv_c a1, iv_c 2147483654]) (rest := [iv_c v125]) (lo1 := [x_r 75, iv_c a1, iv_c 2147483654]) (by decide +kernel) (by decide) (by decide +kernel) (x_rb_of (by decide +kernel)) rfl rfl (x_wr (by decide) (x_wi la1 (x_wi (by decide) x_wn))) (x_wi l126 x_wn) (by decide) rfl ?_
              refine x_aload (np := 1) (x := 0) (by decide +kernel) rfl (x_nc_le (by decide)) ?_
              have q127 : h1 75 1 = 76 := by have z := jB (e := 1) 0 j2 rg_75_1_0_1 (by decide) (by decide); omega
              refine x_getR (np := 4) (x := 705) (f := 1) (q := 76) (by decide +kernel) (by decide) (by decide +kernel) q127 ?_
              refine x_const (np := 6) (x := 9223372124901605396) (a := 2147483668) (by decide +kernel) (by decide) (by decide) ?_
              refine x_const (np := 8) (x := 9223372069067030535) (a := 2147483655) (by decide +kernel) (by decide) (by decide) ?_
              refine x_iload (np := 9) (x := 1) (by decide +kernel) rfl la1 ?_
              refine x_imul (np := 10) (x := 0) (i := 7) (j := u114) (v := (2147483648 + 7 * u114)) (by decide +kernel) (by first | decide | omega) (by first | decide | omega) (by first | decide | omega) (by first | decide | omega) (by decide) la1 ?_
              refine x_iadd (np := 11) (x := 0) (v := (2147483668 + 7 * u114)) (by decide +kernel) (by decide) (by first | decide | omega) (by first | decide | omega) (by first | decide | omega) ?_
              refine x_iload (np := 12) (x := 2) (by decide +kernel) rfl (by decide) ?_
              refine x_iadd (np := 13) (x := 0) (v := (2147483674 + 7 * u114)) (by decide +kernel) (by first | decide | omega) (by decide) (by first | decide | omega) (by first | decide | omega) ?_
              have q129 : h1 76 (26 + 7 * u114) = h 76 (26 + 7 * u114) := by rw [← e3]; exact x_up_k (by decide)
              refine x_aldC (np := 14) (x := 0) (n := 1952) (i := (26 + 7 * u114)) (q := ((h 76 (26 + 7 * u114)))) (by decide +kernel) (by decide +kernel) (by first | decide | omega) (by first | decide | omega) (by decide) q129 (fun l130 => ?_)
              refine x_retI (np := 15) (x := 0) (by decide +kernel) l130 (Or.inl (by decide +kernel)) ⟨_, rfl, l130, ?_⟩
              refine x_addA (by rw [tb_b201]; decide +kernel) l126 l130 (fun v131 l132 => ?_)
              refine x_retI (np := 24) (x := 0) (by decide +kernel) l132 (Or.inl (by decide +kernel)) ⟨_, rfl, l132, ?_⟩
              refine x_retI (np := 67) (x := 0) (by decide +kernel) l132 (Or.inl (by decide +kernel)) ⟨_, rfl, l132, ?_⟩
              exact ⟨j2, f4, (by first | decide | omega)⟩
            have q72 : ¬ (2147483651 ≤ a2) := q72
            refine x_aload (np := 50) (x := 0) (by decide +kernel) rfl (x_nc_le (by decide)) ?_
            refine x_iload (np := 51) (x := 1) (by decide +kernel) rfl la1 ?_
            refine x_iload (np := 52) (x := 2) (by decide +kernel) rfl la2 ?_
            refine x_nI (t := 6) (mj := 161) (n := 3) (rc := 12) (ml := 3) (nr := 0) (np := 55) (as := [x_r 75, iv_c a1, iv_c a2]) (rest := []) (lo1 := [x_r 75, iv_c a1, iv_c a2]) (by decide +kernel) (by decide) (by decide +kernel) (x_rb_of (by decide +kernel)) rfl rfl (x_wr (by decide) (x_wi la1 (x_wi la2 x_wn))) x_wn (by decide) rfl ?_
            refine x_aload (np := 1) (x := 0) (by decide +kernel) rfl (x_nc_le (by decide)) ?_
            have q133 : h1 75 1 = 76 := by have z := jB (e := 1) 0 j2 rg_75_1_0_1 (by decide) (by decide); omega
            refine x_getR (np := 4) (x := 705) (f := 1) (q := 76) (by decide +kernel) (by decide) (by decide +kernel) q133 ?_
            refine x_const (np := 6) (x := 9223372124901605396) (a := 2147483668) (by decide +kernel) (by decide) (by decide) ?_
            refine x_const (np := 8) (x := 9223372069067030535) (a := 2147483655) (by decide +kernel) (by decide) (by decide) ?_
            refine x_iload (np := 9) (x := 1) (by decide +kernel) rfl la1 ?_
            obtain ⟨u134, q135⟩ : ∃ z, a1 = 2147483648 + z := ⟨a1 - 2147483648, by first | decide | omega⟩
            refine x_imul (np := 10) (x := 0) (i := 7) (j := u134) (v := (2147483648 + 7 * u134)) (by decide +kernel) (by first | decide | omega) (by first | decide | omega) (by first | decide | omega) (by first | decide | omega) (by decide) la1 ?_
            refine x_iadd (np := 11) (x := 0) (v := (2147483668 + 7 * u134)) (by decide +kernel) (by decide) (by first | decide | omega) (by first | decide | omega) (by first | decide | omega) ?_
            refine x_iload (np := 12) (x := 2) (by decide +kernel) rfl la2 ?_
            refine x_iadd (np := 13) (x := 0) (v := (20 + 7 * u134 + a2)) (by decide +kernel) (by first | decide | omega) la2 (by first | decide | omega) (by first | decide | omega) ?_
            obtain ⟨u137, q138⟩ : ∃ z, a2 = 2147483648 + z := ⟨a2 - 2147483648, by first | decide | omega⟩
            have q139 : h1 76 (20 + 7 * u134 + u137) = h 76 (20 + 7 * u134 + u137) := by rw [← e3]; exact x_up_k (by decide)
            refine x_aldC (np := 14) (x := 0) (n := 1952) (i := (20 + 7 * u134 + u137)) (q := ((h 76 (20 + 7 * u134 + u137)))) (by decide +kernel) (by decide +kernel) (by first | decide | omega) (by first | decide | omega) (by decide) q139 (fun l140 => ?_)
            refine x_retI (np := 15) (x := 0) (by decide +kernel) l140 (Or.inl (by decide +kernel)) ⟨_, rfl, l140, ?_⟩
            refine x_retI (np := 56) (x := 0) (by decide +kernel) l140 (Or.inl (by decide +kernel)) ⟨_, rfl, l140, ?_⟩
            exact ⟨j2, f4, (by first | decide | omega)⟩
          have q70 : ¬ (2147483648 = 2147483648) := q70
          exfalso; omega
        have q68 : ¬ (2147483648 = 2147483648) := q68
        exfalso; omega
      have q66 : ¬ (2147483649 ≠ 2147483648) := q66
      exfalso; omega
    have q38 : ¬ (2147483648 = 2147483648) := q38
    exfalso; omega
  have q36 : ¬ (2147483649 ≠ 2147483648) := q36
  exfalso; omega
set_option maxHeartbeats 0 in
/-- LentNamesModel.owes(IZ)I -/
theorem c224_75 {sc : Nat × Nat} {d a1 a2 : Nat} {h : xh} (hJ : J h) (ba1 : 0 ≤ a1 ∧ a1 ≤ 4294967295) (ba2 : 2147483648 ≤ a2 ∧ a2 ≤ 2147483649) (hW : WT 76 h) : X sc 224 (d + 5) (xI fun r h' => J h' ∧ Fr 135291600897 h h' ∧ (0 ≤ r ∧ r ≤ 4294967295)) 0 0 0 [x_r 75, iv_c a1, iv_c a2, 147573952589676412928, 147573952589676412928] [] h := by
  have la1 : a1 < 4294967296 := by first | decide | omega
  have la2 : a2 < 4294967296 := by first | decide | omega
  have hF := Fr.refl 135291600897 h
  refine x_aload (np := 1) (x := 0) (by decide +kernel) rfl (x_nc_le (by decide)) ?_
  refine x_const (np := 2) (x := 9223372039002259456) (a := 2147483648) (by decide +kernel) (by decide) (by decide) ?_
  refine x_putI (np := 5) (x := 704) (f := 0) (by decide +kernel) (by decide +kernel) (by decide) (Or.inl (by decide)) ?_
  have j2 := jU (e := 0) (v := 2147483648) 0 hJ rg_75_0_0_1 (by first | decide | omega) (by first | decide | omega) (by first | decide | omega)
  have f4 := jF (e := 0) (v := 2147483648) 0 hF rg_75_0_0_1 (by first | decide | omega) (by first | decide | omega) (by decide)
  generalize e3 : x_up h 75 0 2147483648 = h1 at j2 f4 ⊢
  refine x_aload (np := 6) (x := 0) (by decide +kernel) rfl (x_nc_le (by decide)) ?_
  refine x_aload (np := 7) (x := 0) (by decide +kernel) rfl (x_nc_le (by decide)) ?_
  refine x_iload (np := 8) (x := 1) (by decide +kernel) rfl la1 ?_
  refine x_nI (t := 6) (mj := 159) (n := 2) (rc := 12) (ml := 2) (nr := 1) (np := 11) (as := [x_r 75, iv_c a1]) (rest := [x_r 75]) (lo1 := [x_r 75, iv_c a1]) (by decide +kernel) (by decide) (by decide +kernel) (x_rb_of (by decide +kernel)) rfl rfl (x_wr (by decide) (x_wi la1 x_wn)) (x_wr (by decide) x_wn) (by decide) rfl ?_
  refine x_aload (np := 1) (x := 0) (by decide +kernel) rfl (x_nc_le (by decide)) ?_
  refine x_iload (np := 2) (x := 1) (by decide +kernel) rfl la1 ?_
  refine x_const (np := 3) (x := 9223372039002259456) (a := 2147483648) (by decide +kernel) (by decide) (by decide) ?_
  refine x_nI (t := 6) (mj := 158) (n := 3) (rc := 12) (ml := 3) (nr := 0) (np := 6) (as := [x_r 75, iv_c a1, iv_c 2147483648]) (rest := []) (lo1 := [x_r 75, iv_c a1, iv_c 2147483648]) (by decide +kernel) (by decide) (by decide +kernel) (x_rb_of (by decide +kernel)) rfl rfl (x_wr (by decide) (x_wi la1 (x_wi (by decide) x_wn))) x_wn (by decide) rfl ?_
  refine x_iload (np := 1) (x := 1) (by decide +kernel) rfl la1 ?_
  refine x_const (np := 2) (x := 9223372039002259456) (a := 2147483648) (by decide +kernel) (by decide) (by decide) ?_
  refine x_aload (np := 3) (x := 0) (by decide +kernel) rfl (x_nc_le (by decide)) ?_
  have q5 : h1 75 1 = 76 := by have z := jB (e := 1) 0 j2 rg_75_1_0_1 (by decide) (by decide); omega
  refine x_getR (np := 6) (x := 705) (f := 1) (q := 76) (by decide +kernel) (by decide) (by decide +kernel) q5 ?_
  refine x_iload (np := 7) (x := 2) (by decide +kernel) rfl (by decide) ?_
  have q6 : h1 76 0 = h 76 0 := by rw [← e3]; exact x_up_k (by decide)
  have b7 := jB (e := 0) 0 hJ rg_76_0_0_1 (by first | decide | omega) (by first | decide | omega)
  refine x_aldC (np := 8) (x := 0) (n := 1952) (i := 0) (q := (h 76 0)) (by decide +kernel) (by decide +kernel) (by first | decide | omega) (by first | decide | omega) (by decide) q6 (fun l8 => ?_)
  refine x_const (np := 9) (x := 9223372043297226753) (a := 2147483649) (by decide +kernel) (by decide) (by decide) ?_
  obtain ⟨v9, q10⟩ : ∃ z, z + 2147483649 = (h 76 0) + 2147483648 := ⟨(h 76 0) + 2147483648 - 2147483649, by first | decide | omega⟩
  refine x_isub (np := 10) (x := 0) (v := v9) (by decide +kernel) l8 (by decide) (by first | decide | omega) (by first | decide | omega) ?_
  refine x_nI (t := 0) (mj := 153) (n := 3) (rc := 0) (ml := 3) (nr := 0) (np := 13) (as := [iv_c a1, iv_c 2147483648, iv_c v9]) (rest := []) (lo1 := [iv_c a1, iv_c 2147483648, iv_c v9]) (by decide +kernel) (by decide) (by decide +kernel) (Or.inl rfl) rfl rfl (x_wi la1 (x_wi (by decide) (x_wi (by first | decide | omega) x_wn))) x_wn (by decide) rfl ?_
  refine x_iload (np := 1) (x := 0) (by decide +kernel) rfl la1 ?_
  refine x_iload (np := 2) (x := 1) (by decide +kernel) rfl (by decide) ?_
  refine x_icmp (k := 2) (tg := 14) (np := 5) (by decide +kernel) (by decide) la1 (by decide) (fun q11 => ?_) (fun q12 => ?_)
  · have q11 : a1 < 2147483648 := q11
    refine x_const (np := 15) (x := 9223372039002259456) (a := 2147483648) (by decide +kernel) (by decide) (by decide) ?_
    refine x_retI (np := 16) (x := 0) (by decide +kernel) (by decide) (Or.inr ⟨by decide +kernel, by first | decide | omega, by first | decide | omega⟩) ⟨_, rfl, (by decide), ?_⟩
    refine x_ifz (k := 1) (tg := 20) (np := 16) (by decide +kernel) (by decide) (by decide) (fun q13 => ?_) (fun q14 => ?_)
    · have q13 : 2147483648 ≠ 2147483648 := q13
      exfalso; omega
    have q14 : ¬ (2147483648 ≠ 2147483648) := q14
    refine x_const (np := 17) (x := 9223372043297226753) (a := 2147483649) (by decide +kernel) (by decide) (by decide) ?_
    refine x_goto (np := 20) (x := 21) (by decide +kernel) ?_
    refine x_retI (np := 22) (x := 0) (by decide +kernel) (by decide) (Or.inr ⟨by decide +kernel, by first | decide | omega, by first | decide | omega⟩) ⟨_, rfl, (by decide), ?_⟩
    refine x_retI (np := 7) (x := 0) (by decide +kernel) (by decide) (Or.inr ⟨by decide +kernel, by first | decide | omega, by first | decide | omega⟩) ⟨_, rfl, (by decide), ?_⟩
    refine x_const (np := 12) (x := 9223372043297226753) (a := 2147483649) (by decide +kernel) (by decide) (by decide) ?_
    refine x_nI (t := 6) (mj := 152) (n := 3) (rc := 12) (ml := 3) (nr := 0) (np := 15) (as := [x_r 75, iv_c 2147483649, iv_c 2147483649]) (rest := []) (lo1 := [x_r 75, iv_c 2147483649, iv_c 2147483649]) (by decide +kernel) (by decide) (by decide +kernel) (x_rb_of (by decide +kernel)) rfl rfl (x_wr (by decide) (x_wi (by decide) (x_wi (by decide) x_wn))) x_wn (by decide) rfl ?_
    refine x_iload (np := 1) (x := 1) (by decide +kernel) rfl (by decide) ?_
    refine x_ifz (k := 0) (tg := 9) (np := 4) (by decide +kernel) (by decide) (by decide) (fun q15 => ?_) (fun q16 => ?_)
    · have q15 : 2147483649 = 2147483648 := q15
      exfalso; omega
    have q16 : ¬ (2147483649 = 2147483648) := q16
    refine x_aload (np := 5) (x := 0) (by decide +kernel) rfl (x_nc_le (by decide)) ?_
    refine x_iload (np := 6) (x := 2) (by decide +kernel) rfl (by decide) ?_
    refine x_putI (np := 9) (x := 704) (f := 0) (by decide +kernel) (by decide +kernel) (by decide) (Or.inl (by decide)) ?_
    have j18 := jU (e := 0) (v := 2147483649) 0 j2 rg_75_0_0_1 (by first | decide | omega) (by first | decide | omega) (by first | decide | omega)
    have f20 := jF (e := 0) (v := 2147483649) 0 f4 rg_75_0_0_1 (by first | decide | omega) (by first | decide | omega) (by decide)
    generalize e19 : x_up h1 75 0 2147483649 = h17 at j18 f20 ⊢
    refine x_iload (np := 10) (x := 1) (by decide +kernel) rfl (by decide) ?_
    refine x_retI (np := 11) (x := 0) (by decide +kernel) (by decide) (Or.inr ⟨by decide +kernel, by first | decide | omega, by first | decide | omega⟩) ⟨_, rfl, (by decide), ?_⟩
    refine x_ifz (k := 0) (tg := 20) (np := 18) (by decide +kernel) (by decide) (by decide) (fun q21 => ?_) (fun q22 => ?_)
    · have q21 : 2147483649 = 2147483648 := q21
      exfalso; omega
    have q22 : ¬ (2147483649 = 2147483648) := q22
    refine x_const (np := 19) (x := 9223372039002259456) (a := 2147483648) (by decide +kernel) (by decide) (by decide) ?_
    refine x_retI (np := 20) (x := 0) (by decide +kernel) (by decide) (Or.inl (by decide +kernel)) ⟨_, rfl, (by decide), ?_⟩
    exact ⟨j18, f20, (by first | decide | omega)⟩
  have q12 : ¬ (a1 < 2147483648) := q12
  refine x_iload (np := 6) (x := 0) (by decide +kernel) rfl la1 ?_
  refine x_iload (np := 7) (x := 2) (by decide +kernel) rfl (by first | decide | omega) ?_
  refine x_icmp (k := 4) (tg := 14) (np := 10) (by decide +kernel) (by decide) la1 (by first | decide | omega) (fun q23 => ?_) (fun q24 => ?_)
  · have q23 : v9 < a1 := q23
    refine x_const (np := 15) (x := 9223372039002259456) (a := 2147483648) (by decide +kernel) (by decide) (by decide) ?_
    refine x_retI (np := 16) (x := 0) (by decide +kernel) (by decide) (Or.inr ⟨by decide +kernel, by first | decide | omega, by first | decide | omega⟩) ⟨_, rfl, (by decide), ?_⟩
    refine x_ifz (k := 1) (tg := 20) (np := 16) (by decide +kernel) (by decide) (by decide) (fun q25 => ?_) (fun q26 => ?_)
    · have q25 : 2147483648 ≠ 2147483648 := q25
      exfalso; omega
    have q26 : ¬ (2147483648 ≠ 2147483648) := q26
    refine x_const (np := 17) (x := 9223372043297226753) (a := 2147483649) (by decide +kernel) (by decide) (by decide) ?_
    refine x_goto (np := 20) (x := 21) (by decide +kernel) ?_
    refine x_retI (np := 22) (x := 0) (by decide +kernel) (by decide) (Or.inr ⟨by decide +kernel, by first | decide | omega, by first | decide | omega⟩) ⟨_, rfl, (by decide), ?_⟩
    refine x_retI (np := 7) (x := 0) (by decide +kernel) (by decide) (Or.inr ⟨by decide +kernel, by first | decide | omega, by first | decide | omega⟩) ⟨_, rfl, (by decide), ?_⟩
    refine x_const (np := 12) (x := 9223372043297226753) (a := 2147483649) (by decide +kernel) (by decide) (by decide) ?_
    refine x_nI (t := 6) (mj := 152) (n := 3) (rc := 12) (ml := 3) (nr := 0) (np := 15) (as := [x_r 75, iv_c 2147483649, iv_c 2147483649]) (rest := []) (lo1 := [x_r 75, iv_c 2147483649, iv_c 2147483649]) (by decide +kernel) (by decide) (by decide +kernel) (x_rb_of (by decide +kernel)) rfl rfl (x_wr (by decide) (x_wi (by decide) (x_wi (by decide) x_wn))) x_wn (by decide) rfl ?_
    refine x_iload (np := 1) (x := 1) (by decide +kernel) rfl (by decide) ?_
    refine x_ifz (k := 0) (tg := 9) (np := 4) (by decide +kernel) (by decide) (by decide) (fun q27 => ?_) (fun q28 => ?_)
    · have q27 : 2147483649 = 2147483648 := q27
      exfalso; omega
    have q28 : ¬ (2147483649 = 2147483648) := q28
    refine x_aload (np := 5) (x := 0) (by decide +kernel) rfl (x_nc_le (by decide)) ?_
    refine x_iload (np := 6) (x := 2) (by decide +kernel) rfl (by decide) ?_
    refine x_putI (np := 9) (x := 704) (f := 0) (by decide +kernel) (by decide +kernel) (by decide) (Or.inl (by decide)) ?_
    have j30 := jU (e := 0) (v := 2147483649) 0 j2 rg_75_0_0_1 (by first | decide | omega) (by first | decide | omega) (by first | decide | omega)
    have f32 := jF (e := 0) (v := 2147483649) 0 f4 rg_75_0_0_1 (by first | decide | omega) (by first | decide | omega) (by decide)
    generalize e31 : x_up h1 75 0 2147483649 = h29 at j30 f32 ⊢
    refine x_iload (np := 10) (x := 1) (by decide +kernel) rfl (by decide) ?_
    refine x_retI (np := 11) (x := 0) (by decide +kernel) (by decide) (Or.inr ⟨by decide +kernel, by first | decide | omega, by first | decide | omega⟩) ⟨_, rfl, (by decide), ?_⟩
    refine x_ifz (k := 0) (tg := 20) (np := 18) (by decide +kernel) (by decide) (by decide) (fun q33 => ?_) (fun q34 => ?_)
    · have q33 : 2147483649 = 2147483648 := q33
      exfalso; omega
    have q34 : ¬ (2147483649 = 2147483648) := q34
    refine x_const (np := 19) (x := 9223372039002259456) (a := 2147483648) (by decide +kernel) (by decide) (by decide) ?_
    refine x_retI (np := 20) (x := 0) (by decide +kernel) (by decide) (Or.inl (by decide +kernel)) ⟨_, rfl, (by decide), ?_⟩
    exact ⟨j30, f32, (by first | decide | omega)⟩
  have q24 : ¬ (v9 < a1) := q24
  refine x_const (np := 11) (x := 9223372043297226753) (a := 2147483649) (by decide +kernel) (by decide) (by decide) ?_
  refine x_goto (np := 14) (x := 15) (by decide +kernel) ?_
  refine x_retI (np := 16) (x := 0) (by decide +kernel) (by decide) (Or.inr ⟨by decide +kernel, by first | decide | omega, by first | decide | omega⟩) ⟨_, rfl, (by decide), ?_⟩
  refine x_ifz (k := 1) (tg := 20) (np := 16) (by decide +kernel) (by decide) (by decide) (fun q35 => ?_) (fun q36 => ?_)
  · have q35 : 2147483649 ≠ 2147483648 := q35
    refine x_const (np := 21) (x := 9223372039002259456) (a := 2147483648) (by decide +kernel) (by decide) (by decide) ?_
    refine x_retI (np := 22) (x := 0) (by decide +kernel) (by decide) (Or.inr ⟨by decide +kernel, by first | decide | omega, by first | decide | omega⟩) ⟨_, rfl, (by decide), ?_⟩
    refine x_retI (np := 7) (x := 0) (by decide +kernel) (by decide) (Or.inr ⟨by decide +kernel, by first | decide | omega, by first | decide | omega⟩) ⟨_, rfl, (by decide), ?_⟩
    refine x_const (np := 12) (x := 9223372043297226753) (a := 2147483649) (by decide +kernel) (by decide) (by decide) ?_
    refine x_nI (t := 6) (mj := 152) (n := 3) (rc := 12) (ml := 3) (nr := 0) (np := 15) (as := [x_r 75, iv_c 2147483648, iv_c 2147483649]) (rest := []) (lo1 := [x_r 75, iv_c 2147483648, iv_c 2147483649]) (by decide +kernel) (by decide) (by decide +kernel) (x_rb_of (by decide +kernel)) rfl rfl (x_wr (by decide) (x_wi (by decide) (x_wi (by decide) x_wn))) x_wn (by decide) rfl ?_
    refine x_iload (np := 1) (x := 1) (by decide +kernel) rfl (by decide) ?_
    refine x_ifz (k := 0) (tg := 9) (np := 4) (by decide +kernel) (by decide) (by decide) (fun q37 => ?_) (fun q38 => ?_)
    · have q37 : 2147483648 = 2147483648 := q37
      refine x_iload (np := 10) (x := 1) (by decide +kernel) rfl (by decide) ?_
      refine x_retI (np := 11) (x := 0) (by decide +kernel) (by decide) (Or.inr ⟨by decide +kernel, by first | decide | omega, by first | decide | omega⟩) ⟨_, rfl, (by decide), ?_⟩
      refine x_ifz (k := 0) (tg := 20) (np := 18) (by decide +kernel) (by decide) (by decide) (fun q39 => ?_) (fun q40 => ?_)
      · have q39 : 2147483648 = 2147483648 := q39
        refine x_aload (np := 21) (x := 0) (by decide +kernel) rfl (x_nc_le (by decide)) ?_
        have m44 : WT 76 h1 := by rw [← e3]; exact WT.oth hW hJ (by decide)
        refine x_cV (t := 6) (mj := 210) (n := 1) (rc := 12) (ml := 5) (nr := 0) (np := 24) (as := [x_r 75]) (rest := []) (lo1 := [x_r 75, 147573952589676412928, 147573952589676412928, 147573952589676412928, 147573952589676412928]) (by decide +kernel) (by decide) (by decide +kernel) (x_rb_of (by decide +kernel)) rfl rfl (x_wr (by decide) x_wn) x_wn (by decide) rfl (c210_75 j2  m44) (fun h45 q43 => ?_)
        obtain ⟨j46, f47⟩ := q43
        have f50 := Fr.trans f4 f47 (by decide)
        refine x_const (np := 25) (x := 9223372039002259456) (a := 2147483648) (by decide +kernel) (by decide) (by decide) ?_
        refine x_istore (np := 26) (x := 3) (lo' := [x_r 75, iv_c a1, iv_c a2, iv_c 2147483648, 147573952589676412928]) (by decide +kernel) (by decide) (Nat.le_of_ble_eq_true rfl) rfl ?_
        refine x_const (np := 27) (x := 9223372039002259456) (a := 2147483648) (by decide +kernel) (by decide) (by decide) ?_
        refine x_istore (np := 29) (x := 4) (lo' := [x_r 75, iv_c a1, iv_c a2, iv_c 2147483648, iv_c 2147483648]) (by decide +kernel) (by decide) (Nat.le_of_ble_eq_true rfl) rfl ?_
        have p700 : ∀ (n : Nat) (v696 : Nat) (v698 : Nat), 4294967296 - v698 < n → (0 ≤ v696 ∧ v696 ≤ 4294967295) → (2147483648 ≤ v698 ∧ v698 ≤ 2147483668) → X sc 224 (d + 5) (xI fun r h' => J h' ∧ Fr 135291600897 h h' ∧ (0 ≤ r ∧ r ≤ 4294967295)) 0 0 29 [x_r 75, iv_c a1, iv_c a2, iv_c v696, iv_c v698] [] h45 := by
          intro n
          induction n with
          | zero => intro v696 v698 q701; exact absurd q701 (Nat.not_lt_zero _)
          | succ n i702 =>
            intro v696 v698 q701 b697 b699
            refine x_iload (np := 31) (x := 4) (by decide +kernel) rfl (by first | decide | omega) ?_
            refine x_aload (np := 32) (x := 0) (by decide +kernel) rfl (x_nc_le (by decide)) ?_
            have q703 : h45 75 1 = 76 := by have z := jB (e := 1) 0 j46 rg_75_1_0_1 (by decide) (by decide); omega
            refine x_getR (np := 35) (x := 705) (f := 1) (q := 76) (by decide +kernel) (by decide) (by decide +kernel) q703 ?_
            refine x_const (np := 36) (x := 9223372047592194050) (a := 2147483650) (by decide +kernel) (by decide) (by decide) ?_
            have q704 : h45 76 2 = h1 76 2 := jK 0 f47 rg_76_2_0_1 (by first | decide | omega) (by first | decide | omega) (by decide)
            have q705 : h1 76 2 = h 76 2 := by rw [← e3]; exact x_up_k (by decide)
            have b706 := jB (e := 2) 0 hJ rg_76_2_0_1 (by first | decide | omega) (by first | decide | omega)
            refine x_aldC (np := 37) (x := 0) (n := 1952) (i := 2) (q := (h 76 2)) (by decide +kernel) (by decide +kernel) (by first | decide | omega) (by first | decide | omega) (by decide) (q704.trans q705) (fun l707 => ?_)
            refine x_icmp (k := 3) (tg := 94) (np := 40) (by decide +kernel) (by decide) (by first | decide | omega) l707 (fun q708 => ?_) (fun q709 => ?_)
            · have q708 : (h 76 2) ≤ v698 := q708
              refine x_iload (np := 95) (x := 3) (by decide +kernel) rfl (by first | decide | omega) ?_
              refine x_retI (np := 96) (x := 0) (by decide +kernel) (by first | decide | omega) (Or.inl (by decide +kernel)) ⟨_, rfl, (by first | decide | omega), ?_⟩
              exact ⟨j46, f50, (by first | decide | omega)⟩
            have q709 : ¬ ((h 76 2) ≤ v698) := q709
            refine x_iload (np := 41) (x := 3) (by decide +kernel) rfl (by first | decide | omega) ?_
            refine x_aload (np := 42) (x := 0) (by decide +kernel) rfl (x_nc_le (by decide)) ?_
            refine x_iload (np := 44) (x := 4) (by decide +kernel) rfl (by first | decide | omega) ?_
            refine x_nI (t := 6) (mj := 222) (n := 2) (rc := 12) (ml := 2) (nr := 1) (np := 47) (as := [x_r 75, iv_c v698]) (rest := [iv_c v696]) (lo1 := [x_r 75, iv_c v698]) (by decide +kernel) (by decide) (by decide +kernel) (x_rb_of (by decide +kernel)) rfl rfl (x_wr (by decide) (x_wi (by first | decide | omega) x_wn)) (x_wi (by first | decide | omega) x_wn) (by decide) rfl ?_
            refine x_aload (np := 1) (x := 0) (by decide +kernel) rfl (x_nc_le (by decide)) ?_
            have q710 : h45 75 21 = 88 := by have z := jB (e := 21) 0 j46 rg_75_21_0_1 (by decide) (by decide); omega
            refine x_getR (np := 4) (x := 725) (f := 21) (q := 88) (by decide +kernel) (by decide) (by decide +kernel) q710 ?_
            refine x_iload (np := 5) (x := 1) (by decide +kernel) rfl (by first | decide | omega) ?_
            obtain ⟨u711, q712⟩ : ∃ z, v698 = 2147483648 + z := ⟨v698 - 2147483648, by first | decide | omega⟩
            refine x_aldC (np := 6) (x := 0) (n := 20) (i := u711) (q := (h45 88 u711)) (by decide +kernel) (by decide +kernel) (by first | decide | omega) (by first | decide | omega) (by decide) rfl (fun l713 => ?_)
            refine x_ifz (k := 3) (tg := 13) (np := 9) (by decide +kernel) (by decide) l713 (fun q714 => ?_) (fun q715 => ?_)
            · have q714 : 2147483648 ≤ (h45 88 u711) := q714
              refine x_const (np := 14) (x := 9223372039002259456) (a := 2147483648) (by decide +kernel) (by decide) (by decide) ?_
              refine x_retI (np := 15) (x := 0) (by decide +kernel) (by decide) (Or.inr ⟨by decide +kernel, by first | decide | omega, by first | decide | omega⟩) ⟨_, rfl, (by decide), ?_⟩
              refine x_ifz (k := 1) (tg := 85) (np := 50) (by decide +kernel) (by decide) (by decide) (fun q716 => ?_) (fun q717 => ?_)
              · have q716 : 2147483648 ≠ 2147483648 := q716
                exfalso; omega
              have q717 : ¬ (2147483648 ≠ 2147483648) := q717
              refine x_iload (np := 51) (x := 2) (by decide +kernel) rfl la2 ?_
              refine x_ifz (k := 0) (tg := 64) (np := 54) (by decide +kernel) (by decide) la2 (fun q718 => ?_) (fun q719 => ?_)
              · have q718 : a2 = 2147483648 := q718
                refine x_aload (np := 65) (x := 0) (by decide +kernel) rfl (x_nc_le (by decide)) ?_
                refine x_iload (np := 67) (x := 4) (by decide +kernel) rfl (by first | decide | omega) ?_
                refine x_const (np := 68) (x := 9223372043297226753) (a := 2147483649) (by decide +kernel) (by decide) (by decide) ?_
                refine x_nI (t := 6) (mj := 161) (n := 3) (rc := 12) (ml := 3) (nr := 1) (np := 71) (as := [x_r 75, iv_c v698, iv_c 2147483649]) (rest := [iv_c v696]) (lo1 := [x_r 75, iv_c v698, iv_c 2147483649]) (by decide +kernel) (by decide) (by decide +kernel) (x_rb_of (by decide +kernel)) rfl rfl (x_wr (by decide) (x_wi (by first | decide | omega) (x_wi (by decide) x_wn))) (x_wi (by first | decide | omega) x_wn) (by decide) rfl ?_
                refine x_aload (np := 1) (x := 0) (by decide +kernel) rfl (x_nc_le (by decide)) ?_
                have q720 : h45 75 1 = 76 := by have z := jB (e := 1) 0 j46 rg_75_1_0_1 (by decide) (by decide); omega
                refine x_getR (np := 4) (x := 705) (f := 1) (q := 76) (by decide +kernel) (by decide) (by decide +kernel) q720 ?_
                refine x_const (np := 6) (x := 9223372124901605396) (a := 2147483668) (by decide +kernel) (by decide) (by decide) ?_
                refine x_const (np := 8) (x := 9223372069067030535) (a := 2147483655) (by decide +kernel) (by decide) (by decide) ?_
                refine x_iload (np := 9) (x := 1) (by decide +kernel) rfl (by first | decide | omega) ?_
                refine x_imul (np := 10) (x := 0) (i := 7) (j := u711) (v := (2147483648 + 7 * u711)) (by decide +kernel) (by first | decide | omega) (by first | decide | omega) (by first | decide | omega) (by first | decide | omega) (by decide) (by first | decide | omega) ?_
                refine x_iadd (np := 11) (x := 0) (v := (2147483668 + 7 * u711)) (by decide +kernel) (by decide) (by first | decide | omega) (by first | decide | omega) (by first | decide | omega) ?_
                refine x_iload (np := 12) (x := 2) (by decide +kernel) rfl (by decide) ?_
                refine x_iadd (np := 13) (x := 0) (v := (2147483669 + 7 * u711)) (by decide +kernel) (by first | decide | omega) (by decide) (by first | decide | omega) (by first | decide | omega) ?_
                have q722 : h45 76 (21 + 7 * u711) = h1 76 (21 + 7 * u711) := jK u711 f47 rg_76_21_7_20 (by first | decide | omega) (by first | decide | omega) (by decide)
                have q723 : h1 76 (21 + 7 * u711) = h 76 (21 + 7 * u711) := by rw [← e3]; exact x_up_k (by decide)
                have b724 := jB (e := (21 + 7 * u711)) u711 hJ rg_76_21_7_20 (by first | decide | omega) (by first | decide | omega)
                refine x_aldC (np := 14) (x := 0) (n := 1952) (i := (21 + 7 * u711)) (q := ((h 76 (21 + 7 * u711)))) (by decide +kernel) (by decide +kernel) (by first | decide | omega) (by first | decide | omega) (by decide) (q722.trans q723) (fun l725 => ?_)
                refine x_retI (np := 15) (x := 0) (by decide +kernel) l725 (Or.inl (by decide +kernel)) ⟨_, rfl, l725, ?_⟩
                refine x_iload (np := 72) (x := 1) (by decide +kernel) rfl la1 ?_
                refine x_icmp (k := 1) (tg := 85) (np := 75) (by decide +kernel) (by decide) l725 la1 (fun q726 => ?_) (fun q727 => ?_)
                · have q726 : ((h 76 (21 + 7 * u711))) ≠ a1 := q726
                  refine x_const (np := 86) (x := 9223372039002259456) (a := 2147483648) (by decide +kernel) (by decide) (by decide) ?_
                  refine x_iadd (np := 87) (x := 0) (v := v696) (by decide +kernel) (by first | decide | omega) (by decide) (by first | decide | omega) (by first | decide | omega) ?_
                  refine x_istore (np := 88) (x := 3) (lo' := [x_r 75, iv_c a1, iv_c a2, iv_c v696, iv_c v698]) (by decide +kernel) (by first | decide | omega) (Nat.le_of_ble_eq_true rfl) rfl ?_
                  refine x_iinc (np := 91) (i := 4) (j := 2147483649) (v := (1 + v698)) (lo' := [x_r 75, iv_c a1, iv_c a2, iv_c v696, iv_c (1 + v698)]) (by decide +kernel) (by decide) (by decide) rfl (by first | decide | omega) (by first | decide | omega) (by first | decide | omega) rfl ?_
                  refine x_goto (np := 94) (x := 29) (by decide +kernel) ?_
                  exact i702 v696 (1 + v698) (by first | decide | omega) (by first | decide | omega) (by first | decide | omega)
                have q727 : ¬ (((h 76 (21 + 7 * u711))) ≠ a1) := q727
                refine x_aload (np := 76) (x := 0) (by decide +kernel) rfl (x_nc_le (by decide)) ?_
                have q728 : h45 75 23 = 90 := by have z := jB (e := 23) 0 j46 rg_75_23_0_1 (by decide) (by decide); omega
                refine x_getR (np := 79) (x := 727) (f := 23) (q := 90) (by decide +kernel) (by decide) (by decide +kernel) q728 ?_
                refine x_iload (np := 81) (x := 4) (by decide +kernel) rfl (by first | decide | omega) ?_
                refine x_aldC (np := 82) (x := 0) (n := 20) (i := u711) (q := (h45 90 u711)) (by decide +kernel) (by decide +kernel) (by first | decide | omega) (by first | decide | omega) (by decide) rfl (fun l729 => ?_)
                refine x_goto (np := 85) (x := 86) (by decide +kernel) ?_
                refine x_addA (by rw [tb_b224]; decide +kernel) (by first | decide | omega) l729 (fun v730 l731 => ?_)
                refine x_istore (np := 88) (x := 3) (lo' := [x_r 75, iv_c a1, iv_c a2, iv_c v730, iv_c v698]) (by decide +kernel) l731 (Nat.le_of_ble_eq_true rfl) rfl ?_
                refine x_iinc (np := 91) (i := 4) (j := 2147483649) (v := (1 + v698)) (lo' := [x_r 75, iv_c a1, iv_c a2, iv_c v730, iv_c (1 + v698)]) (by decide +kernel) (by decide) (by decide) rfl (by first | decide | omega) (by first | decide | omega) (by first | decide | omega) rfl ?_
                refine x_goto (np := 94) (x := 29) (by decide +kernel) ?_
                exact i702 v730 (1 + v698) (by first | decide | omega) (by first | decide | omega) (by first | decide | omega)
              have q719 : ¬ (a2 = 2147483648) := q719
              refine x_aload (np := 55) (x := 0) (by decide +kernel) rfl (x_nc_le (by decide)) ?_
              have q732 : h45 75 21 = 88 := by have z := jB (e := 21) 0 j46 rg_75_21_0_1 (by decide) (by decide); omega
              refine x_getR (np := 58) (x := 725) (f := 21) (q := 88) (by decide +kernel) (by decide) (by decide +kernel) q732 ?_
              refine x_iload (np := 60) (x := 4) (by decide +kernel) rfl (by first | decide | omega) ?_
              refine x_aldC (np := 61) (x := 0) (n := 20) (i := u711) (q := (h45 88 u711)) (by decide +kernel) (by decide +kernel) (by first | decide | omega) (by first | decide | omega) (by decide) rfl (fun l733 => ?_)
              refine x_goto (np := 64) (x := 71) (by decide +kernel) ?_
              refine x_iload (np := 72) (x := 1) (by decide +kernel) rfl la1 ?_
              refine x_icmp (k := 1) (tg := 85) (np := 75) (by decide +kernel) (by decide) l713 la1 (fun q734 => ?_) (fun q735 => ?_)
              · have q734 : (h45 88 u711) ≠ a1 := q734
                refine x_const (np := 86) (x := 9223372039002259456) (a := 2147483648) (by decide +kernel) (by decide) (by decide) ?_
                refine x_iadd (np := 87) (x := 0) (v := v696) (by decide +kernel) (by first | decide | omega) (by decide) (by first | decide | omega) (by first | decide | omega) ?_
                refine x_istore (np := 88) (x := 3) (lo' := [x_r 75, iv_c a1, iv_c a2, iv_c v696, iv_c v698]) (by decide +kernel) (by first | decide | omega) (Nat.le_of_ble_eq_true rfl) rfl ?_
                refine x_iinc (np := 91) (i := 4) (j := 2147483649) (v := (1 + v698)) (lo' := [x_r 75, iv_c a1, iv_c a2, iv_c v696, iv_c (1 + v698)]) (by decide +kernel) (by decide) (by decide) rfl (by first | decide | omega) (by first | decide | omega) (by first | decide | omega) rfl ?_
                refine x_goto (np := 94) (x := 29) (by decide +kernel) ?_
                exact i702 v696 (1 + v698) (by first | decide | omega) (by first | decide | omega) (by first | decide | omega)
              have q735 : ¬ ((h45 88 u711) ≠ a1) := q735
              refine x_aload (np := 76) (x := 0) (by decide +kernel) rfl (x_nc_le (by decide)) ?_
              have q736 : h45 75 23 = 90 := by have z := jB (e := 23) 0 j46 rg_75_23_0_1 (by decide) (by decide); omega
              refine x_getR (np := 79) (x := 727) (f := 23) (q := 90) (by decide +kernel) (by decide) (by decide +kernel) q736 ?_
              refine x_iload (np := 81) (x := 4) (by decide +kernel) rfl (by first | decide | omega) ?_
              refine x_aldC (np := 82) (x := 0) (n := 20) (i := u711) (q := (h45 90 u711)) (by decide +kernel) (by decide +kernel) (by first | decide | omega) (by first | decide | omega) (by decide) rfl (fun l737 => ?_)
              refine x_goto (np := 85) (x := 86) (by decide +kernel) ?_
              refine x_addA (by rw [tb_b224]; decide +kernel) (by first | decide | omega) l737 (fun v738 l739 => ?_)
              refine x_istore (np := 88) (x := 3) (lo' := [x_r 75, iv_c a1, iv_c a2, iv_c v738, iv_c v698]) (by decide +kernel) l739 (Nat.le_of_ble_eq_true rfl) rfl ?_
              refine x_iinc (np := 91) (i := 4) (j := 2147483649) (v := (1 + v698)) (lo' := [x_r 75, iv_c a1, iv_c a2, iv_c v738, iv_c (1 + v698)]) (by decide +kernel) (by decide) (by decide) rfl (by first | decide | omega) (by first | decide | omega) (by first | decide | omega) rfl ?_
              refine x_goto (np := 94) (x := 29) (by decide +kernel) ?_
              exact i702 v738 (1 + v698) (by first | decide | omega) (by first | decide | omega) (by first | decide | omega)
            have q715 : ¬ (2147483648 ≤ (h45 88 u711)) := q715
            refine x_const (np := 10) (x := 9223372043297226753) (a := 2147483649) (by decide +kernel) (by decide) (by decide) ?_
            refine x_goto (np := 13) (x := 14) (by decide +kernel) ?_
            refine x_retI (np := 15) (x := 0) (by decide +kernel) (by decide) (Or.inr ⟨by decide +kernel, by first | decide | omega, by first | decide | omega⟩) ⟨_, rfl, (by decide), ?_⟩
            refine x_ifz (k := 1) (tg := 85) (np := 50) (by decide +kernel) (by decide) (by decide) (fun q740 => ?_) (fun q741 => ?_)
            · have q740 : 2147483649 ≠ 2147483648 := q740
              refine x_const (np := 86) (x := 9223372039002259456) (a := 2147483648) (by decide +kernel) (by decide) (by decide) ?_
              refine x_iadd (np := 87) (x := 0) (v := v696) (by decide +kernel) (by first | decide | omega) (by decide) (by first | decide | omega) (by first | decide | omega) ?_
              refine x_istore (np := 88) (x := 3) (lo' := [x_r 75, iv_c a1, iv_c a2, iv_c v696, iv_c v698]) (by decide +kernel) (by first | decide | omega) (Nat.le_of_ble_eq_true rfl) rfl ?_
              refine x_iinc (np := 91) (i := 4) (j := 2147483649) (v := (1 + v698)) (lo' := [x_r 75, iv_c a1, iv_c a2, iv_c v696, iv_c (1 + v698)]) (by decide +kernel) (by decide) (by decide) rfl (by first | decide | omega) (by first | decide | omega) (by first | decide | omega) rfl ?_
              refine x_goto (np := 94) (x := 29) (by decide +kernel) ?_
              exact i702 v696 (1 + v698) (by first | decide | omega) (by first | decide | omega) (by first | decide | omega)
            have q741 : ¬ (2147483649 ≠ 2147483648) := q741
            exfalso; omega
        exact p700 _ 2147483648 2147483648 (Nat.lt_succ_self _) (by first | decide | omega) (by first | decide | omega)
      have q40 : ¬ (2147483648 = 2147483648) := q40
      exfalso; omega
    have q38 : ¬ (2147483648 = 2147483648) := q38
    exfalso; omega
  have q36 : ¬ (2147483649 ≠ 2147483648) := q36
  exfalso; omega
set_option maxHeartbeats 0 in
/-- LentNamesModel.letter(II)I -/
theorem c226_75 {sc : Nat × Nat} {d a1 a2 : Nat} {h : xh} (hJ : J h) (ba1 : 0 ≤ a1 ∧ a1 ≤ 4294967295) (ba2 : 0 ≤ a2 ∧ a2 ≤ 4294967295) (hW : WT 76 h) : X sc 226 (d + 5) (xI fun r h' => J h' ∧ Fr 135291600897 h h' ∧ (2147483647 ≤ r ∧ r ≤ 2147483659)) 0 0 0 [x_r 75, iv_c a1, iv_c a2, 147573952589676412928, 147573952589676412928] [] h := by
  have la1 : a1 < 4294967296 := by first | decide | omega
  have la2 : a2 < 4294967296 := by first | decide | omega
  have hF := Fr.refl 135291600897 h
  refine x_aload (np := 1) (x := 0) (by decide +kernel) rfl (x_nc_le (by decide)) ?_
  refine x_const (np := 2) (x := 9223372039002259456) (a := 2147483648) (by decide +kernel) (by decide) (by decide) ?_
  refine x_putI (np := 5) (x := 704) (f := 0) (by decide +kernel) (by decide +kernel) (by decide) (Or.inl (by decide)) ?_
  have j2 := jU (e := 0) (v := 2147483648) 0 hJ rg_75_0_0_1 (by first | decide | omega) (by first | decide | omega) (by first | decide | omega)
  have f4 := jF (e := 0) (v := 2147483648) 0 hF rg_75_0_0_1 (by first | decide | omega) (by first | decide | omega) (by decide)
  generalize e3 : x_up h 75 0 2147483648 = h1 at j2 f4 ⊢
  refine x_aload (np := 6) (x := 0) (by decide +kernel) rfl (x_nc_le (by decide)) ?_
  refine x_aload (np := 7) (x := 0) (by decide +kernel) rfl (x_nc_le (by decide)) ?_
  refine x_iload (np := 8) (x := 1) (by decide +kernel) rfl la1 ?_
  refine x_nI (t := 6) (mj := 225) (n := 2) (rc := 12) (ml := 2) (nr := 1) (np := 11) (as := [x_r 75, iv_c a1]) (rest := [x_r 75]) (lo1 := [x_r 75, iv_c a1]) (by decide +kernel) (by decide) (by decide +kernel) (x_rb_of (by decide +kernel)) rfl rfl (x_wr (by decide) (x_wi la1 x_wn)) (x_wr (by decide) x_wn) (by decide) rfl ?_
  refine x_aload (np := 1) (x := 0) (by decide +kernel) rfl (x_nc_le (by decide)) ?_
  refine x_iload (np := 2) (x := 1) (by decide +kernel) rfl la1 ?_
  refine x_const (np := 3) (x := 9223372051887161347) (a := 2147483651) (by decide +kernel) (by decide) (by decide) ?_
  refine x_nI (t := 6) (mj := 158) (n := 3) (rc := 12) (ml := 3) (nr := 0) (np := 6) (as := [x_r 75, iv_c a1, iv_c 2147483651]) (rest := []) (lo1 := [x_r 75, iv_c a1, iv_c 2147483651]) (by decide +kernel) (by decide) (by decide +kernel) (x_rb_of (by decide +kernel)) rfl rfl (x_wr (by decide) (x_wi la1 (x_wi (by decide) x_wn))) x_wn (by decide) rfl ?_
  refine x_iload (np := 1) (x := 1) (by decide +kernel) rfl la1 ?_
  refine x_const (np := 2) (x := 9223372039002259456) (a := 2147483648) (by decide +kernel) (by decide) (by decide) ?_
  refine x_aload (np := 3) (x := 0) (by decide +kernel) rfl (x_nc_le (by decide)) ?_
  have q5 : h1 75 1 = 76 := by have z := jB (e := 1) 0 j2 rg_75_1_0_1 (by decide) (by decide); omega
  refine x_getR (np := 6) (x := 705) (f := 1) (q := 76) (by decide +kernel) (by decide) (by decide +kernel) q5 ?_
  refine x_iload (np := 7) (x := 2) (by decide +kernel) rfl (by decide) ?_
  have q6 : h1 76 3 = h 76 3 := by rw [← e3]; exact x_up_k (by decide)
  have b7 := jB (e := 3) 0 hJ rg_76_3_0_1 (by first | decide | omega) (by first | decide | omega)
  refine x_aldC (np := 8) (x := 0) (n := 1952) (i := 3) (q := (h 76 3)) (by decide +kernel) (by decide +kernel) (by first | decide | omega) (by first | decide | omega) (by decide) q6 (fun l8 => ?_)
  refine x_const (np := 9) (x := 9223372043297226753) (a := 2147483649) (by decide +kernel) (by decide) (by decide) ?_
  obtain ⟨v9, q10⟩ : ∃ z, z + 2147483649 = (h 76 3) + 2147483648 := ⟨(h 76 3) + 2147483648 - 2147483649, by first | decide | omega⟩
  refine x_isub (np := 10) (x := 0) (v := v9) (by decide +kernel) l8 (by decide) (by first | decide | omega) (by first | decide | omega) ?_
  refine x_nI (t := 0) (mj := 153) (n := 3) (rc := 0) (ml := 3) (nr := 0) (np := 13) (as := [iv_c a1, iv_c 2147483648, iv_c v9]) (rest := []) (lo1 := [iv_c a1, iv_c 2147483648, iv_c v9]) (by decide +kernel) (by decide) (by decide +kernel) (Or.inl rfl) rfl rfl (x_wi la1 (x_wi (by decide) (x_wi (by first | decide | omega) x_wn))) x_wn (by decide) rfl ?_
  refine x_iload (np := 1) (x := 0) (by decide +kernel) rfl la1 ?_
  refine x_iload (np := 2) (x := 1) (by decide +kernel) rfl (by decide) ?_
  refine x_icmp (k := 2) (tg := 14) (np := 5) (by decide +kernel) (by decide) la1 (by decide) (fun q11 => ?_) (fun q12 => ?_)
  · have q11 : a1 < 2147483648 := q11
    refine x_const (np := 15) (x := 9223372039002259456) (a := 2147483648) (by decide +kernel) (by decide) (by decide) ?_
    refine x_retI (np := 16) (x := 0) (by decide +kernel) (by decide) (Or.inr ⟨by decide +kernel, by first | decide | omega, by first | decide | omega⟩) ⟨_, rfl, (by decide), ?_⟩
    refine x_ifz (k := 1) (tg := 20) (np := 16) (by decide +kernel) (by decide) (by decide) (fun q13 => ?_) (fun q14 => ?_)
    · have q13 : 2147483648 ≠ 2147483648 := q13
      exfalso; omega
    have q14 : ¬ (2147483648 ≠ 2147483648) := q14
    refine x_const (np := 17) (x := 9223372043297226753) (a := 2147483649) (by decide +kernel) (by decide) (by decide) ?_
    refine x_goto (np := 20) (x := 21) (by decide +kernel) ?_
    refine x_retI (np := 22) (x := 0) (by decide +kernel) (by decide) (Or.inr ⟨by decide +kernel, by first | decide | omega, by first | decide | omega⟩) ⟨_, rfl, (by decide), ?_⟩
    refine x_retI (np := 7) (x := 0) (by decide +kernel) (by decide) (Or.inr ⟨by decide +kernel, by first | decide | omega, by first | decide | omega⟩) ⟨_, rfl, (by decide), ?_⟩
    refine x_const (np := 12) (x := 9223372043297226753) (a := 2147483649) (by decide +kernel) (by decide) (by decide) ?_
    refine x_nI (t := 6) (mj := 152) (n := 3) (rc := 12) (ml := 3) (nr := 0) (np := 15) (as := [x_r 75, iv_c 2147483649, iv_c 2147483649]) (rest := []) (lo1 := [x_r 75, iv_c 2147483649, iv_c 2147483649]) (by decide +kernel) (by decide) (by decide +kernel) (x_rb_of (by decide +kernel)) rfl rfl (x_wr (by decide) (x_wi (by decide) (x_wi (by decide) x_wn))) x_wn (by decide) rfl ?_
    refine x_iload (np := 1) (x := 1) (by decide +kernel) rfl (by decide) ?_
    refine x_ifz (k := 0) (tg := 9) (np := 4) (by decide +kernel) (by decide) (by decide) (fun q15 => ?_) (fun q16 => ?_)
    · have q15 : 2147483649 = 2147483648 := q15
      exfalso; omega
    have q16 : ¬ (2147483649 = 2147483648) := q16
    refine x_aload (np := 5) (x := 0) (by decide +kernel) rfl (x_nc_le (by decide)) ?_
    refine x_iload (np := 6) (x := 2) (by decide +kernel) rfl (by decide) ?_
    refine x_putI (np := 9) (x := 704) (f := 0) (by decide +kernel) (by decide +kernel) (by decide) (Or.inl (by decide)) ?_
    have j18 := jU (e := 0) (v := 2147483649) 0 j2 rg_75_0_0_1 (by first | decide | omega) (by first | decide | omega) (by first | decide | omega)
    have f20 := jF (e := 0) (v := 2147483649) 0 f4 rg_75_0_0_1 (by first | decide | omega) (by first | decide | omega) (by decide)
    generalize e19 : x_up h1 75 0 2147483649 = h17 at j18 f20 ⊢
    refine x_iload (np := 10) (x := 1) (by decide +kernel) rfl (by decide) ?_
    refine x_retI (np := 11) (x := 0) (by decide +kernel) (by decide) (Or.inr ⟨by decide +kernel, by first | decide | omega, by first | decide | omega⟩) ⟨_, rfl, (by decide), ?_⟩
    refine x_ifz (k := 1) (tg := 40) (np := 18) (by decide +kernel) (by decide) (by decide) (fun q21 => ?_) (fun q22 => ?_)
    · have q21 : 2147483649 ≠ 2147483648 := q21
      refine x_const (np := 41) (x := 9223372039002259456) (a := 2147483648) (by decide +kernel) (by decide) (by decide) ?_
      refine x_retI (np := 42) (x := 0) (by decide +kernel) (by decide) (Or.inl (by decide +kernel)) ⟨_, rfl, (by decide), ?_⟩
      exact ⟨j18, f20, (by first | decide | omega)⟩
    have q22 : ¬ (2147483649 ≠ 2147483648) := q22
    exfalso; omega
  have q12 : ¬ (a1 < 2147483648) := q12
  refine x_iload (np := 6) (x := 0) (by decide +kernel) rfl la1 ?_
  refine x_iload (np := 7) (x := 2) (by decide +kernel) rfl (by first | decide | omega) ?_
  refine x_icmp (k := 4) (tg := 14) (np := 10) (by decide +kernel) (by decide) la1 (by first | decide | omega) (fun q23 => ?_) (fun q24 => ?_)
  · have q23 : v9 < a1 := q23
    refine x_const (np := 15) (x := 9223372039002259456) (a := 2147483648) (by decide +kernel) (by decide) (by decide) ?_
    refine x_retI (np := 16) (x := 0) (by decide +kernel) (by decide) (Or.inr ⟨by decide +kernel, by first | decide | omega, by first | decide | omega⟩) ⟨_, rfl, (by decide), ?_⟩
    refine x_ifz (k := 1) (tg := 20) (np := 16) (by decide +kernel) (by decide) (by decide) (fun q25 => ?_) (fun q26 => ?_)
    · have q25 : 2147483648 ≠ 2147483648 := q25
      exfalso; omega
    have q26 : ¬ (2147483648 ≠ 2147483648) := q26
    refine x_const (np := 17) (x := 9223372043297226753) (a := 2147483649) (by decide +kernel) (by decide) (by decide) ?_
    refine x_goto (np := 20) (x := 21) (by decide +kernel) ?_
    refine x_retI (np := 22) (x := 0) (by decide +kernel) (by decide) (Or.inr ⟨by decide +kernel, by first | decide | omega, by first | decide | omega⟩) ⟨_, rfl, (by decide), ?_⟩
    refine x_retI (np := 7) (x := 0) (by decide +kernel) (by decide) (Or.inr ⟨by decide +kernel, by first | decide | omega, by first | decide | omega⟩) ⟨_, rfl, (by decide), ?_⟩
    refine x_const (np := 12) (x := 9223372043297226753) (a := 2147483649) (by decide +kernel) (by decide) (by decide) ?_
    refine x_nI (t := 6) (mj := 152) (n := 3) (rc := 12) (ml := 3) (nr := 0) (np := 15) (as := [x_r 75, iv_c 2147483649, iv_c 2147483649]) (rest := []) (lo1 := [x_r 75, iv_c 2147483649, iv_c 2147483649]) (by decide +kernel) (by decide) (by decide +kernel) (x_rb_of (by decide +kernel)) rfl rfl (x_wr (by decide) (x_wi (by decide) (x_wi (by decide) x_wn))) x_wn (by decide) rfl ?_
    refine x_iload (np := 1) (x := 1) (by decide +kernel) rfl (by decide) ?_
    refine x_ifz (k := 0) (tg := 9) (np := 4) (by decide +kernel) (by decide) (by decide) (fun q27 => ?_) (fun q28 => ?_)
    · have q27 : 2147483649 = 2147483648 := q27
      exfalso; omega
    have q28 : ¬ (2147483649 = 2147483648) := q28
    refine x_aload (np := 5) (x := 0) (by decide +kernel) rfl (x_nc_le (by decide)) ?_
    refine x_iload (np := 6) (x := 2) (by decide +kernel) rfl (by decide) ?_
    refine x_putI (np := 9) (x := 704) (f := 0) (by decide +kernel) (by decide +kernel) (by decide) (Or.inl (by decide)) ?_
    have j30 := jU (e := 0) (v := 2147483649) 0 j2 rg_75_0_0_1 (by first | decide | omega) (by first | decide | omega) (by first | decide | omega)
    have f32 := jF (e := 0) (v := 2147483649) 0 f4 rg_75_0_0_1 (by first | decide | omega) (by first | decide | omega) (by decide)
    generalize e31 : x_up h1 75 0 2147483649 = h29 at j30 f32 ⊢
    refine x_iload (np := 10) (x := 1) (by decide +kernel) rfl (by decide) ?_
    refine x_retI (np := 11) (x := 0) (by decide +kernel) (by decide) (Or.inr ⟨by decide +kernel, by first | decide | omega, by first | decide | omega⟩) ⟨_, rfl, (by decide), ?_⟩
    refine x_ifz (k := 1) (tg := 40) (np := 18) (by decide +kernel) (by decide) (by decide) (fun q33 => ?_) (fun q34 => ?_)
    · have q33 : 2147483649 ≠ 2147483648 := q33
      refine x_const (np := 41) (x := 9223372039002259456) (a := 2147483648) (by decide +kernel) (by decide) (by decide) ?_
      refine x_retI (np := 42) (x := 0) (by decide +kernel) (by decide) (Or.inl (by decide +kernel)) ⟨_, rfl, (by decide), ?_⟩
      exact ⟨j30, f32, (by first | decide | omega)⟩
    have q34 : ¬ (2147483649 ≠ 2147483648) := q34
    exfalso; omega
  have q24 : ¬ (v9 < a1) := q24
  refine x_const (np := 11) (x := 9223372043297226753) (a := 2147483649) (by decide +kernel) (by decide) (by decide) ?_
  refine x_goto (np := 14) (x := 15) (by decide +kernel) ?_
  refine x_retI (np := 16) (x := 0) (by decide +kernel) (by decide) (Or.inr ⟨by decide +kernel, by first | decide | omega, by first | decide | omega⟩) ⟨_, rfl, (by decide), ?_⟩
  refine x_ifz (k := 1) (tg := 20) (np := 16) (by decide +kernel) (by decide) (by decide) (fun q35 => ?_) (fun q36 => ?_)
  · have q35 : 2147483649 ≠ 2147483648 := q35
    refine x_const (np := 21) (x := 9223372039002259456) (a := 2147483648) (by decide +kernel) (by decide) (by decide) ?_
    refine x_retI (np := 22) (x := 0) (by decide +kernel) (by decide) (Or.inr ⟨by decide +kernel, by first | decide | omega, by first | decide | omega⟩) ⟨_, rfl, (by decide), ?_⟩
    refine x_retI (np := 7) (x := 0) (by decide +kernel) (by decide) (Or.inr ⟨by decide +kernel, by first | decide | omega, by first | decide | omega⟩) ⟨_, rfl, (by decide), ?_⟩
    refine x_const (np := 12) (x := 9223372043297226753) (a := 2147483649) (by decide +kernel) (by decide) (by decide) ?_
    refine x_nI (t := 6) (mj := 152) (n := 3) (rc := 12) (ml := 3) (nr := 0) (np := 15) (as := [x_r 75, iv_c 2147483648, iv_c 2147483649]) (rest := []) (lo1 := [x_r 75, iv_c 2147483648, iv_c 2147483649]) (by decide +kernel) (by decide) (by decide +kernel) (x_rb_of (by decide +kernel)) rfl rfl (x_wr (by decide) (x_wi (by decide) (x_wi (by decide) x_wn))) x_wn (by decide) rfl ?_
    refine x_iload (np := 1) (x := 1) (by decide +kernel) rfl (by decide) ?_
    refine x_ifz (k := 0) (tg := 9) (np := 4) (by decide +kernel) (by decide) (by decide) (fun q37 => ?_) (fun q38 => ?_)
    · have q37 : 2147483648 = 2147483648 := q37
      refine x_iload (np := 10) (x := 1) (by decide +kernel) rfl (by decide) ?_
      refine x_retI (np := 11) (x := 0) (by decide +kernel) (by decide) (Or.inr ⟨by decide +kernel, by first | decide | omega, by first | decide | omega⟩) ⟨_, rfl, (by decide), ?_⟩
      refine x_ifz (k := 1) (tg := 40) (np := 18) (by decide +kernel) (by decide) (by decide) (fun q39 => ?_) (fun q40 => ?_)
      · have q39 : 2147483648 ≠ 2147483648 := q39
        exfalso; omega
      have q40 : ¬ (2147483648 ≠ 2147483648) := q40
      refine x_aload (np := 19) (x := 0) (by decide +kernel) rfl (x_nc_le (by decide)) ?_
      refine x_iload (np := 20) (x := 2) (by decide +kernel) rfl la2 ?_
      refine x_const (np := 21) (x := 9223372039002259456) (a := 2147483648) (by decide +kernel) (by decide) (by decide) ?_
      refine x_const (np := 22) (x := 9223372047592194050) (a := 2147483650) (by decide +kernel) (by decide) (by decide) ?_
      refine x_nI (t := 0) (mj := 153) (n := 3) (rc := 0) (ml := 3) (nr := 1) (np := 25) (as := [iv_c a2, iv_c 2147483648, iv_c 2147483650]) (rest := [x_r 75]) (lo1 := [iv_c a2, iv_c 2147483648, iv_c 2147483650]) (by decide +kernel) (by decide) (by decide +kernel) (Or.inl rfl) rfl rfl (x_wi la2 (x_wi (by decide) (x_wi (by decide) x_wn))) (x_wr (by decide) x_wn) (by decide) rfl ?_
      refine x_iload (np := 1) (x := 0) (by decide +kernel) rfl la2 ?_
      refine x_iload (np := 2) (x := 1) (by decide +kernel) rfl (by decide) ?_
      refine x_icmp (k := 2) (tg := 14) (np := 5) (by decide +kernel) (by decide) la2 (by decide) (fun q41 => ?_) (fun q42 => ?_)
      · have q41 : a2 < 2147483648 := q41
        refine x_const (np := 15) (x := 9223372039002259456) (a := 2147483648) (by decide +kernel) (by decide) (by decide) ?_
        refine x_retI (np := 16) (x := 0) (by decide +kernel) (by decide) (Or.inr ⟨by decide +kernel, by first | decide | omega, by first | decide | omega⟩) ⟨_, rfl, (by decide), ?_⟩
        refine x_ifz (k := 1) (tg := 32) (np := 28) (by decide +kernel) (by decide) (by decide) (fun q43 => ?_) (fun q44 => ?_)
        · have q43 : 2147483648 ≠ 2147483648 := q43
          exfalso; omega
        have q44 : ¬ (2147483648 ≠ 2147483648) := q44
        refine x_const (np := 29) (x := 9223372043297226753) (a := 2147483649) (by decide +kernel) (by decide) (by decide) ?_
        refine x_goto (np := 32) (x := 33) (by decide +kernel) ?_
        refine x_const (np := 34) (x := 9223372047592194050) (a := 2147483650) (by decide +kernel) (by decide) (by decide) ?_
        refine x_nI (t := 6) (mj := 152) (n := 3) (rc := 12) (ml := 3) (nr := 0) (np := 37) (as := [x_r 75, iv_c 2147483649, iv_c 2147483650]) (rest := []) (lo1 := [x_r 75, iv_c 2147483649, iv_c 2147483650]) (by decide +kernel) (by decide) (by decide +kernel) (x_rb_of (by decide +kernel)) rfl rfl (x_wr (by decide) (x_wi (by decide) (x_wi (by decide) x_wn))) x_wn (by decide) rfl ?_
        refine x_iload (np := 1) (x := 1) (by decide +kernel) rfl (by decide) ?_
        refine x_ifz (k := 0) (tg := 9) (np := 4) (by decide +kernel) (by decide) (by decide) (fun q45 => ?_) (fun q46 => ?_)
        · have q45 : 2147483649 = 2147483648 := q45
          exfalso; omega
        have q46 : ¬ (2147483649 = 2147483648) := q46
        refine x_aload (np := 5) (x := 0) (by decide +kernel) rfl (x_nc_le (by decide)) ?_
        refine x_iload (np := 6) (x := 2) (by decide +kernel) rfl (by decide) ?_
        refine x_putI (np := 9) (x := 704) (f := 0) (by decide +kernel) (by decide +kernel) (by decide) (Or.inl (by decide)) ?_
        have j48 := jU (e := 0) (v := 2147483650) 0 j2 rg_75_0_0_1 (by first | decide | omega) (by first | decide | omega) (by first | decide | omega)
        have f50 := jF (e := 0) (v := 2147483650) 0 f4 rg_75_0_0_1 (by first | decide | omega) (by first | decide | omega) (by decide)
        generalize e49 : x_up h1 75 0 2147483650 = h47 at j48 f50 ⊢
        refine x_iload (np := 10) (x := 1) (by decide +kernel) rfl (by decide) ?_
        refine x_retI (np := 11) (x := 0) (by decide +kernel) (by decide) (Or.inr ⟨by decide +kernel, by first | decide | omega, by first | decide | omega⟩) ⟨_, rfl, (by decide), ?_⟩
        refine x_ifz (k := 0) (tg := 42) (np := 40) (by decide +kernel) (by decide) (by decide) (fun q51 => ?_) (fun q52 => ?_)
        · have q51 : 2147483649 = 2147483648 := q51
          exfalso; omega
        have q52 : ¬ (2147483649 = 2147483648) := q52
        refine x_const (np := 41) (x := 9223372039002259456) (a := 2147483648) (by decide +kernel) (by decide) (by decide) ?_
        refine x_retI (np := 42) (x := 0) (by decide +kernel) (by decide) (Or.inl (by decide +kernel)) ⟨_, rfl, (by decide), ?_⟩
        exact ⟨j48, f50, (by first | decide | omega)⟩
      have q42 : ¬ (a2 < 2147483648) := q42
      refine x_iload (np := 6) (x := 0) (by decide +kernel) rfl la2 ?_
      refine x_iload (np := 7) (x := 2) (by decide +kernel) rfl (by decide) ?_
      refine x_icmp (k := 4) (tg := 14) (np := 10) (by decide +kernel) (by decide) la2 (by decide) (fun q53 => ?_) (fun q54 => ?_)
      · have q53 : 2147483650 < a2 := q53
        refine x_const (np := 15) (x := 9223372039002259456) (a := 2147483648) (by decide +kernel) (by decide) (by decide) ?_
        refine x_retI (np := 16) (x := 0) (by decide +kernel) (by decide) (Or.inr ⟨by decide +kernel, by first | decide | omega, by first | decide | omega⟩) ⟨_, rfl, (by decide), ?_⟩
        refine x_ifz (k := 1) (tg := 32) (np := 28) (by decide +kernel) (by decide) (by decide) (fun q55 => ?_) (fun q56 => ?_)
        · have q55 : 2147483648 ≠ 2147483648 := q55
          exfalso; omega
        have q56 : ¬ (2147483648 ≠ 2147483648) := q56
        refine x_const (np := 29) (x := 9223372043297226753) (a := 2147483649) (by decide +kernel) (by decide) (by decide) ?_
        refine x_goto (np := 32) (x := 33) (by decide +kernel) ?_
        refine x_const (np := 34) (x := 9223372047592194050) (a := 2147483650) (by decide +kernel) (by decide) (by decide) ?_
        refine x_nI (t := 6) (mj := 152) (n := 3) (rc := 12) (ml := 3) (nr := 0) (np := 37) (as := [x_r 75, iv_c 2147483649, iv_c 2147483650]) (rest := []) (lo1 := [x_r 75, iv_c 2147483649, iv_c 2147483650]) (by decide +kernel) (by decide) (by decide +kernel) (x_rb_of (by decide +kernel)) rfl rfl (x_wr (by decide) (x_wi (by decide) (x_wi (by decide) x_wn))) x_wn (by decide) rfl ?_
        refine x_iload (np := 1) (x := 1) (by decide +kernel) rfl (by decide) ?_
        refine x_ifz (k := 0) (tg := 9) (np := 4) (by decide +kernel) (by decide) (by decide) (fun q57 => ?_) (fun q58 => ?_)
        · have q57 : 2147483649 = 2147483648 := q57
          exfalso; omega
        have q58 : ¬ (2147483649 = 2147483648) := q58
        refine x_aload (np := 5) (x := 0) (by decide +kernel) rfl (x_nc_le (by decide)) ?_
        refine x_iload (np := 6) (x := 2) (by decide +kernel) rfl (by decide) ?_
        refine x_putI (np := 9) (x := 704) (f := 0) (by decide +kernel) (by decide +kernel) (by decide) (Or.inl (by decide)) ?_
        have j60 := jU (e := 0) (v := 2147483650) 0 j2 rg_75_0_0_1 (by first | decide | omega) (by first | decide | omega) (by first | decide | omega)
        have f62 := jF (e := 0) (v := 2147483650) 0 f4 rg_75_0_0_1 (by first | decide | omega) (by first | decide | omega) (by decide)
        generalize e61 : x_up h1 75 0 2147483650 = h59 at j60 f62 ⊢
        refine x_iload (np := 10) (x := 1) (by decide +kernel) rfl (by decide) ?_
        refine x_retI (np := 11) (x := 0) (by decide +kernel) (by decide) (Or.inr ⟨by decide +kernel, by first | decide | omega, by first | decide | omega⟩) ⟨_, rfl, (by decide), ?_⟩
        refine x_ifz (k := 0) (tg := 42) (np := 40) (by decide +kernel) (by decide) (by decide) (fun q63 => ?_) (fun q64 => ?_)
        · have q63 : 2147483649 = 2147483648 := q63
          exfalso; omega
        have q64 : ¬ (2147483649 = 2147483648) := q64
        refine x_const (np := 41) (x := 9223372039002259456) (a := 2147483648) (by decide +kernel) (by decide) (by decide) ?_
        refine x_retI (np := 42) (x := 0) (by decide +kernel) (by decide) (Or.inl (by decide +kernel)) ⟨_, rfl, (by decide), ?_⟩
        exact ⟨j60, f62, (by first | decide | omega)⟩
      have q54 : ¬ (2147483650 < a2) := q54
      refine x_const (np := 11) (x := 9223372043297226753) (a := 2147483649) (by decide +kernel) (by decide) (by decide) ?_
      refine x_goto (np := 14) (x := 15) (by decide +kernel) ?_
      refine x_retI (np := 16) (x := 0) (by decide +kernel) (by decide) (Or.inr ⟨by decide +kernel, by first | decide | omega, by first | decide | omega⟩) ⟨_, rfl, (by decide), ?_⟩
      refine x_ifz (k := 1) (tg := 32) (np := 28) (by decide +kernel) (by decide) (by decide) (fun q65 => ?_) (fun q66 => ?_)
      · have q65 : 2147483649 ≠ 2147483648 := q65
        refine x_const (np := 33) (x := 9223372039002259456) (a := 2147483648) (by decide +kernel) (by decide) (by decide) ?_
        refine x_const (np := 34) (x := 9223372047592194050) (a := 2147483650) (by decide +kernel) (by decide) (by decide) ?_
        refine x_nI (t := 6) (mj := 152) (n := 3) (rc := 12) (ml := 3) (nr := 0) (np := 37) (as := [x_r 75, iv_c 2147483648, iv_c 2147483650]) (rest := []) (lo1 := [x_r 75, iv_c 2147483648, iv_c 2147483650]) (by decide +kernel) (by decide) (by decide +kernel) (x_rb_of (by decide +kernel)) rfl rfl (x_wr (by decide) (x_wi (by decide) (x_wi (by decide) x_wn))) x_wn (by decide) rfl ?_
        refine x_iload (np := 1) (x := 1) (by decide +kernel) rfl (by decide) ?_
        refine x_ifz (k := 0) (tg := 9) (np := 4) (by decide +kernel) (by decide) (by decide) (fun q67 => ?_) (fun q68 => ?_)
        · have q67 : 2147483648 = 2147483648 := q67
          refine x_iload (np := 10) (x := 1) (by decide +kernel) rfl (by decide) ?_
          refine x_retI (np := 11) (x := 0) (by decide +kernel) (by decide) (Or.inr ⟨by decide +kernel, by first | decide | omega, by first | decide | omega⟩) ⟨_, rfl, (by decide), ?_⟩
          refine x_ifz (k := 0) (tg := 42) (np := 40) (by decide +kernel) (by decide) (by decide) (fun q69 => ?_) (fun q70 => ?_)
          · have q69 : 2147483648 = 2147483648 := q69
            refine x_aload (np := 43) (x := 0) (by decide +kernel) rfl (x_nc_le (by decide)) ?_
            have m74 : WT 76 h1 := by rw [← e3]; exact WT.oth hW hJ (by decide)
            refine x_cV (t := 6) (mj := 210) (n := 1) (rc := 12) (ml := 5) (nr := 0) (np := 46) (as := [x_r 75]) (rest := []) (lo1 := [x_r 75, 147573952589676412928, 147573952589676412928, 147573952589676412928, 147573952589676412928]) (by decide +kernel) (by decide) (by decide +kernel) (x_rb_of (by decide +kernel)) rfl rfl (x_wr (by decide) x_wn) x_wn (by decide) rfl (c210_75 j2  m74) (fun h75 q73 => ?_)
            obtain ⟨j76, f77⟩ := q73
            have f80 := Fr.trans f4 f77 (by decide)
            refine x_aload (np := 47) (x := 0) (by decide +kernel) rfl (x_nc_le (by decide)) ?_
            refine x_iload (np := 48) (x := 1) (by decide +kernel) rfl la1 ?_
            refine x_const (np := 49) (x := 9223372039002259456) (a := 2147483648) (by decide +kernel) (by decide) (by decide) ?_
            refine x_nI (t := 6) (mj := 162) (n := 3) (rc := 12) (ml := 3) (nr := 0) (np := 52) (as := [x_r 75, iv_c a1, iv_c 2147483648]) (rest := []) (lo1 := [x_r 75, iv_c a1, iv_c 2147483648]) (by decide +kernel) (by decide) (by decide +kernel) (x_rb_of (by decide +kernel)) rfl rfl (x_wr (by decide) (x_wi la1 (x_wi (by decide) x_wn))) x_wn (by decide) rfl ?_
            refine x_aload (np := 1) (x := 0) (by decide +kernel) rfl (x_nc_le (by decide)) ?_
            have q81 : h75 75 1 = 76 := by have z := jB (e := 1) 0 j76 rg_75_1_0_1 (by decide) (by decide); omega
            refine x_getR (np := 4) (x := 705) (f := 1) (q := 76) (by decide +kernel) (by decide) (by decide +kernel) q81 ?_
            refine x_const (np := 7) (x := 9223372726197026976) (a := 2147483808) (by decide +kernel) (by decide) (by decide) ?_
            refine x_const (np := 8) (x := 9223372056182128644) (a := 2147483652) (by decide +kernel) (by decide) (by decide) ?_
            refine x_iload (np := 9) (x := 1) (by decide +kernel) rfl la1 ?_
            obtain ⟨u82, q83⟩ : ∃ z, a1 = 2147483648 + z := ⟨a1 - 2147483648, by first | decide | omega⟩
            refine x_imul (np := 10) (x := 0) (i := 4) (j := u82) (v := (2147483648 + 4 * u82)) (by decide +kernel) (by first | decide | omega) (by first | decide | omega) (by first | decide | omega) (by first | decide | omega) (by decide) la1 ?_
            refine x_iadd (np := 11) (x := 0) (v := (2147483808 + 4 * u82)) (by decide +kernel) (by decide) (by first | decide | omega) (by first | decide | omega) (by first | decide | omega) ?_
            refine x_iload (np := 12) (x := 2) (by decide +kernel) rfl (by decide) ?_
            refine x_iadd (np := 13) (x := 0) (v := (2147483808 + 4 * u82)) (by decide +kernel) (by first | decide | omega) (by decide) (by first | decide | omega) (by first | decide | omega) ?_
            have q85 : h75 76 (160 + 4 * u82) = h1 76 (160 + 4 * u82) := jK u82 f77 rg_76_160_4_10 (by first | decide | omega) (by first | decide | omega) (by decide)
            have q86 : h1 76 (160 + 4 * u82) = h 76 (160 + 4 * u82) := by rw [← e3]; exact x_up_k (by decide)
            have b87 := jB (e := (160 + 4 * u82)) u82 hJ rg_76_160_4_10 (by first | decide | omega) (by first | decide | omega)
            refine x_aldC (np := 14) (x := 0) (n := 1952) (i := (160 + 4 * u82)) (q := ((h 76 (160 + 4 * u82)))) (by decide +kernel) (by decide +kernel) (by first | decide | omega) (by first | decide | omega) (by decide) (q85.trans q86) (fun l88 => ?_)
            refine x_retI (np := 15) (x := 0) (by decide +kernel) l88 (Or.inl (by decide +kernel)) ⟨_, rfl, l88, ?_⟩
            refine x_istore (np := 53) (x := 3) (lo' := [x_r 75, iv_c a1, iv_c a2, iv_c ((h 76 (160 + 4 * u82))), 147573952589676412928]) (by decide +kernel) l88 (Nat.le_of_ble_eq_true rfl) rfl ?_
            refine x_iload (np := 54) (x := 2) (by decide +kernel) rfl la2 ?_
            refine x_ifz (k := 1) (tg := 69) (np := 57) (by decide +kernel) (by decide) la2 (fun q89 => ?_) (fun q90 => ?_)
            · have q89 : a2 ≠ 2147483648 := q89
              refine x_aload (np := 70) (x := 0) (by decide +kernel) rfl (x_nc_le (by decide)) ?_
              refine x_iload (np := 71) (x := 1) (by decide +kernel) rfl la1 ?_
              refine x_const (np := 72) (x := 9223372047592194050) (a := 2147483650) (by decide +kernel) (by decide) (by decide) ?_
              refine x_nI (t := 6) (mj := 162) (n := 3) (rc := 12) (ml := 3) (nr := 0) (np := 75) (as := [x_r 75, iv_c a1, iv_c 2147483650]) (rest := []) (lo1 := [x_r 75, iv_c a1, iv_c 2147483650]) (by decide +kernel) (by decide) (by decide +kernel) (x_rb_of (by decide +kernel)) rfl rfl (x_wr (by decide) (x_wi la1 (x_wi (by decide) x_wn))) x_wn (by decide) rfl ?_
              refine x_aload (np := 1) (x := 0) (by decide +kernel) rfl (x_nc_le (by decide)) ?_
              have q91 : h75 75 1 = 76 := by have z := jB (e := 1) 0 j76 rg_75_1_0_1 (by decide) (by decide); omega
              refine x_getR (np := 4) (x := 705) (f := 1) (q := 76) (by decide +kernel) (by decide) (by decide +kernel) q91 ?_
              refine x_const (np := 7) (x := 9223372726197026976) (a := 2147483808) (by decide +kernel) (by decide) (by decide) ?_
              refine x_const (np := 8) (x := 9223372056182128644) (a := 2147483652) (by decide +kernel) (by decide) (by decide) ?_
              refine x_iload (np := 9) (x := 1) (by decide +kernel) rfl la1 ?_
              refine x_imul (np := 10) (x := 0) (i := 4) (j := u82) (v := (2147483648 + 4 * u82)) (by decide +kernel) (by first | decide | omega) (by first | decide | omega) (by first | decide | omega) (by first | decide | omega) (by decide) la1 ?_
              refine x_iadd (np := 11) (x := 0) (v := (2147483808 + 4 * u82)) (by decide +kernel) (by decide) (by first | decide | omega) (by first | decide | omega) (by first | decide | omega) ?_
              refine x_iload (np := 12) (x := 2) (by decide +kernel) rfl (by decide) ?_
              refine x_iadd (np := 13) (x := 0) (v := (2147483810 + 4 * u82)) (by decide +kernel) (by first | decide | omega) (by decide) (by first | decide | omega) (by first | decide | omega) ?_
              have q93 : h75 76 (162 + 4 * u82) = h1 76 (162 + 4 * u82) := jK u82 f77 rg_76_162_4_10 (by first | decide | omega) (by first | decide | omega) (by decide)
              have q94 : h1 76 (162 + 4 * u82) = h 76 (162 + 4 * u82) := by rw [← e3]; exact x_up_k (by decide)
              have b95 := jB (e := (162 + 4 * u82)) u82 hJ rg_76_162_4_10 (by first | decide | omega) (by first | decide | omega)
              refine x_aldC (np := 14) (x := 0) (n := 1952) (i := (162 + 4 * u82)) (q := ((h 76 (162 + 4 * u82)))) (by decide +kernel) (by decide +kernel) (by first | decide | omega) (by first | decide | omega) (by decide) (q93.trans q94) (fun l96 => ?_)
              refine x_retI (np := 15) (x := 0) (by decide +kernel) l96 (Or.inl (by decide +kernel)) ⟨_, rfl, l96, ?_⟩
              refine x_istore (np := 77) (x := 4) (lo' := [x_r 75, iv_c a1, iv_c a2, iv_c ((h 76 (160 + 4 * u82))), iv_c ((h 76 (162 + 4 * u82)))]) (by decide +kernel) l96 (Nat.le_of_ble_eq_true rfl) rfl ?_
              have p127 : ∀ (n : Nat) (v125 : Nat), 4294967296 - v125 < n → (2147483648 ≤ v125 ∧ v125 ≤ 2147483660) → X sc 226 (d + 5) (xI fun r h' => J h' ∧ Fr 135291600897 h h' ∧ (2147483647 ≤ r ∧ r ≤ 2147483659)) 0 0 77 [x_r 75, iv_c a1, iv_c a2, iv_c ((h 76 (160 + 4 * u82))), iv_c v125] [] h75 := by
                intro n
                induction n with
                | zero => intro v125 q128; exact absurd q128 (Nat.not_lt_zero _)
                | succ n i129 =>
                  intro v125 q128 b126
                  refine x_iload (np := 79) (x := 4) (by decide +kernel) rfl (by first | decide | omega) ?_
                  refine x_const (np := 81) (x := 9223372090541867020) (a := 2147483660) (by decide +kernel) (by decide) (by decide) ?_
                  refine x_icmp (k := 3) (tg := 100) (np := 84) (by decide +kernel) (by decide) (by first | decide | omega) (by decide) (fun q130 => ?_) (fun q131 => ?_)
                  · have q130 : 2147483660 ≤ v125 := q130
                    refine x_iload (np := 102) (x := 4) (by decide +kernel) rfl (by first | decide | omega) ?_
                    refine x_const (np := 104) (x := 9223372090541867020) (a := 2147483660) (by decide +kernel) (by decide) (by decide) ?_
                    refine x_icmp (k := 1) (tg := 111) (np := 107) (by decide +kernel) (by decide) (by first | decide | omega) (by decide) (fun q132 => ?_) (fun q133 => ?_)
                    · have q132 : v125 ≠ 2147483660 := q132
                      exfalso; omega
                    have q133 : ¬ (v125 ≠ 2147483660) := q133
                    refine x_const (np := 108) (x := 9223372034707292159) (a := 2147483647) (by decide +kernel) (by decide) (by decide) ?_
                    refine x_goto (np := 111) (x := 128) (by decide +kernel) ?_
                    refine x_retI (np := 129) (x := 0) (by decide +kernel) (by decide) (Or.inl (by decide +kernel)) ⟨_, rfl, (by decide), ?_⟩
                    exact ⟨j76, f80, (by first | decide | omega)⟩
                  have q131 : ¬ (2147483660 ≤ v125) := q131
                  refine x_aload (np := 85) (x := 0) (by decide +kernel) rfl (x_nc_le (by decide)) ?_
                  refine x_iload (np := 86) (x := 3) (by decide +kernel) rfl l88 ?_
                  refine x_iload (np := 88) (x := 4) (by decide +kernel) rfl (by first | decide | omega) ?_
                  refine x_nI (t := 6) (mj := 211) (n := 3) (rc := 12) (ml := 3) (nr := 0) (np := 91) (as := [x_r 75, iv_c ((h 76 (160 + 4 * u82))), iv_c v125]) (rest := []) (lo1 := [x_r 75, iv_c ((h 76 (160 + 4 * u82))), iv_c v125]) (by decide +kernel) (by decide) (by decide +kernel) (x_rb_of (by decide +kernel)) rfl rfl (x_wr (by decide) (x_wi l88 (x_wi (by first | decide | omega) x_wn))) x_wn (by decide) rfl ?_
                  refine x_aload (np := 1) (x := 0) (by decide +kernel) rfl (x_nc_le (by decide)) ?_
                  have q134 : h75 75 20 = 87 := by have z := jB (e := 20) 0 j76 rg_75_20_0_1 (by decide) (by decide); omega
                  refine x_getR (np := 4) (x := 724) (f := 20) (q := 87) (by decide +kernel) (by decide) (by decide +kernel) q134 ?_
                  refine x_const (np := 6) (x := 9223372090541867020) (a := 2147483660) (by decide +kernel) (by decide) (by decide) ?_
                  refine x_iload (np := 7) (x := 1) (by decide +kernel) rfl l88 ?_
                  obtain ⟨u135, q136⟩ : ∃ z, ((h 76 (160 + 4 * u82))) = 2147483648 + z := ⟨((h 76 (160 + 4 * u82))) - 2147483648, by first | decide | omega⟩
                  refine x_imul (np := 8) (x := 0) (i := 12) (j := u135) (v := (2147483648 + 12 * u135)) (by decide +kernel) (by first | decide | omega) (by first | decide | omega) (by first | decide | omega) (by first | decide | omega) (by decide) l88 ?_
                  refine x_iload (np := 9) (x := 2) (by decide +kernel) rfl (by first | decide | omega) ?_
                  refine x_iadd (np := 10) (x := 0) (v := (12 * u135 + v125)) (by decide +kernel) (by first | decide | omega) (by first | decide | omega) (by first | decide | omega) (by first | decide | omega) ?_
                  obtain ⟨u138, q139⟩ : ∃ z, v125 = 2147483648 + z := ⟨v125 - 2147483648, by first | decide | omega⟩
                  have b140 := jB (e := (12 * u135 + u138)) (12 * u135 + u138) j76 rg_87_0_1_72 (by first | decide | omega) (by first | decide | omega)
                  refine x_aldC (np := 11) (x := 0) (n := 72) (i := (12 * u135 + u138)) (q := ((h75 87 (12 * u135 + u138)))) (by decide +kernel) (by decide +kernel) (by first | decide | omega) (by first | decide | omega) (by decide) rfl (fun l141 => ?_)
                  refine x_retI (np := 12) (x := 0) (by decide +kernel) l141 (Or.inl (by decide +kernel)) ⟨_, rfl, l141, ?_⟩
                  refine x_ifz (k := 3) (tg := 100) (np := 94) (by decide +kernel) (by decide) l141 (fun q142 => ?_) (fun q143 => ?_)
                  · have q142 : 2147483648 ≤ ((h75 87 (12 * u135 + u138))) := q142
                    refine x_iload (np := 102) (x := 4) (by decide +kernel) rfl (by first | decide | omega) ?_
                    refine x_const (np := 104) (x := 9223372090541867020) (a := 2147483660) (by decide +kernel) (by decide) (by decide) ?_
                    refine x_icmp (k := 1) (tg := 111) (np := 107) (by decide +kernel) (by decide) (by first | decide | omega) (by decide) (fun q144 => ?_) (fun q145 => ?_)
                    · have q144 : v125 ≠ 2147483660 := q144
                      refine x_iload (np := 112) (x := 2) (by decide +kernel) rfl la2 ?_
                      refine x_const (np := 113) (x := 9223372043297226753) (a := 2147483649) (by decide +kernel) (by decide) (by decide) ?_
                      refine x_icmp (k := 1) (tg := 126) (np := 116) (by decide +kernel) (by decide) la2 (by decide) (fun q146 => ?_) (fun q147 => ?_)
                      · have q146 : a2 ≠ 2147483649 := q146
                        refine x_iload (np := 128) (x := 4) (by decide +kernel) rfl (by first | decide | omega) ?_
                        refine x_retI (np := 129) (x := 0) (by decide +kernel) (by first | decide | omega) (Or.inl (by decide +kernel)) ⟨_, rfl, (by first | decide | omega), ?_⟩
                        exact ⟨j76, f80, (by first | decide | omega)⟩
                      have q147 : ¬ (a2 ≠ 2147483649) := q147
                      refine x_aload (np := 117) (x := 0) (by decide +kernel) rfl (x_nc_le (by decide)) ?_
                      refine x_iload (np := 118) (x := 3) (by decide +kernel) rfl l88 ?_
                      refine x_iload (np := 120) (x := 4) (by decide +kernel) rfl (by first | decide | omega) ?_
                      refine x_nI (t := 6) (mj := 211) (n := 3) (rc := 12) (ml := 3) (nr := 0) (np := 123) (as := [x_r 75, iv_c ((h 76 (160 + 4 * u82))), iv_c v125]) (rest := []) (lo1 := [x_r 75, iv_c ((h 76 (160 + 4 * u82))), iv_c v125]) (by decide +kernel) (by decide) (by decide +kernel) (x_rb_of (by decide +kernel)) rfl rfl (x_wr (by decide) (x_wi l88 (x_wi (by first | decide | omega) x_wn))) x_wn (by decide) rfl ?_
                      refine x_aload (np := 1) (x := 0) (by decide +kernel) rfl (x_nc_le (by decide)) ?_
                      have q148 : h75 75 20 = 87 := by have z := jB (e := 20) 0 j76 rg_75_20_0_1 (by decide) (by decide); omega
                      refine x_getR (np := 4) (x := 724) (f := 20) (q := 87) (by decide +kernel) (by decide) (by decide +kernel) q148 ?_
                      refine x_const (np := 6) (x := 9223372090541867020) (a := 2147483660) (by decide +kernel) (by decide) (by decide) ?_
                      refine x_iload (np := 7) (x := 1) (by decide +kernel) rfl l88 ?_
                      refine x_imul (np := 8) (x := 0) (i := 12) (j := u135) (v := (2147483648 + 12 * u135)) (by decide +kernel) (by first | decide | omega) (by first | decide | omega) (by first | decide | omega) (by first | decide | omega) (by decide) l88 ?_
                      refine x_iload (np := 9) (x := 2) (by decide +kernel) rfl (by first | decide | omega) ?_
                      refine x_iadd (np := 10) (x := 0) (v := (12 * u135 + v125)) (by decide +kernel) (by first | decide | omega) (by first | decide | omega) (by first | decide | omega) (by first | decide | omega) ?_
                      refine x_aldC (np := 11) (x := 0) (n := 72) (i := (12 * u135 + u138)) (q := ((h75 87 (12 * u135 + u138)))) (by decide +kernel) (by decide +kernel) (by first | decide | omega) (by first | decide | omega) (by decide) rfl (fun l150 => ?_)
                      refine x_retI (np := 12) (x := 0) (by decide +kernel) l141 (Or.inl (by decide +kernel)) ⟨_, rfl, l141, ?_⟩
                      refine x_goto (np := 126) (x := 128) (by decide +kernel) ?_
                      refine x_retI (np := 129) (x := 0) (by decide +kernel) l141 (Or.inl (by decide +kernel)) ⟨_, rfl, l141, ?_⟩
                      exact ⟨j76, f80, (by first | decide | omega)⟩
                    have q145 : ¬ (v125 ≠ 2147483660) := q145
                    exfalso; omega
                  have q143 : ¬ (2147483648 ≤ ((h75 87 (12 * u135 + u138)))) := q143
                  refine x_iinc (np := 97) (i := 4) (j := 2147483649) (v := (1 + v125)) (lo' := [x_r 75, iv_c a1, iv_c a2, iv_c ((h 76 (160 + 4 * u82))), iv_c (1 + v125)]) (by decide +kernel) (by decide) (by decide) rfl (by first | decide | omega) (by first | decide | omega) (by first | decide | omega) rfl ?_
                  refine x_goto (np := 100) (x := 77) (by decide +kernel) ?_
                  exact i129 (1 + v125) (by first | decide | omega) (by first | decide | omega)
              exact p127 _ ((h 76 (162 + 4 * u82))) (Nat.lt_succ_self _) (by first | decide | omega)
            have q90 : ¬ (a2 ≠ 2147483648) := q90
            refine x_aload (np := 58) (x := 0) (by decide +kernel) rfl (x_nc_le (by decide)) ?_
            refine x_iload (np := 59) (x := 3) (by decide +kernel) rfl l88 ?_
            refine x_aload (np := 60) (x := 0) (by decide +kernel) rfl (x_nc_le (by decide)) ?_
            refine x_iload (np := 61) (x := 1) (by decide +kernel) rfl la1 ?_
            refine x_const (np := 62) (x := 9223372043297226753) (a := 2147483649) (by decide +kernel) (by decide) (by decide) ?_
            refine x_nI (t := 6) (mj := 162) (n := 3) (rc := 12) (ml := 3) (nr := 2) (np := 65) (as := [x_r 75, iv_c a1, iv_c 2147483649]) (rest := [iv_c ((h 76 (160 + 4 * u82))), x_r 75]) (lo1 := [x_r 75, iv_c a1, iv_c 2147483649]) (by decide +kernel) (by decide) (by decide +kernel) (x_rb_of (by decide +kernel)) rfl rfl (x_wr (by decide) (x_wi la1 (x_wi (by decide) x_wn))) (x_wi l88 (x_wr (by decide) x_wn)) (by decide) rfl ?_
            refine x_aload (np := 1) (x := 0) (by decide +kernel) rfl (x_nc_le (by decide)) ?_
            have q151 : h75 75 1 = 76 := by have z := jB (e := 1) 0 j76 rg_75_1_0_1 (by decide) (by decide); omega
            refine x_getR (np := 4) (x := 705) (f := 1) (q := 76) (by decide +kernel) (by decide) (by decide +kernel) q151 ?_
            refine x_const (np := 7) (x := 9223372726197026976) (a := 2147483808) (by decide +kernel) (by decide) (by decide) ?_
            refine x_const (np := 8) (x := 9223372056182128644) (a := 2147483652) (by decide +kernel) (by decide) (by decide) ?_
            refine x_iload (np := 9) (x := 1) (by decide +kernel) rfl la1 ?_
            refine x_imul (np := 10) (x := 0) (i := 4) (j := u82) (v := (2147483648 + 4 * u82)) (by decide +kernel) (by first | decide | omega) (by first | decide | omega) (by first | decide | omega) (by first | decide | omega) (by decide) la1 ?_
            refine x_iadd (np := 11) (x := 0) (v := (2147483808 + 4 * u82)) (by decide +kernel) (by decide) (by first | decide | omega) (by first | decide | omega) (by first | decide | omega) ?_
            refine x_iload (np := 12) (x := 2) (by decide +kernel) rfl (by decide) ?_
            refine x_iadd (np := 13) (x := 0) (v := (2147483809 + 4 * u82)) (by decide +kernel) (by first | decide | omega) (by decide) (by first | decide | omega) (by first | decide | omega) ?_
            have q153 : h75 76 (161 + 4 * u82) = h1 76 (161 + 4 * u82) := jK u82 f77 rg_76_161_4_10 (by first | decide | omega) (by first | decide | omega) (by decide)
            have q154 : h1 76 (161 + 4 * u82) = h 76 (161 + 4 * u82) := by rw [← e3]; exact x_up_k (by decide)
            have b155 := jB (e := (161 + 4 * u82)) u82 hJ rg_76_161_4_10 (by first | decide | omega) (by first | decide | omega)
            refine x_aldC (np := 14) (x := 0) (n := 1952) (i := (161 + 4 * u82)) (q := ((h 76 (161 + 4 * u82)))) (by decide +kernel) (by decide +kernel) (by first | decide | omega) (by first | decide | omega) (by decide) (q153.trans q154) (fun l156 => ?_)
            refine x_retI (np := 15) (x := 0) (by decide +kernel) l156 (Or.inl (by decide +kernel)) ⟨_, rfl, l156, ?_⟩
            refine x_nI (t := 6) (mj := 211) (n := 3) (rc := 12) (ml := 3) (nr := 0) (np := 68) (as := [x_r 75, iv_c ((h 76 (160 + 4 * u82))), iv_c ((h 76 (161 + 4 * u82)))]) (rest := []) (lo1 := [x_r 75, iv_c ((h 76 (160 + 4 * u82))), iv_c ((h 76 (161 + 4 * u82)))]) (by decide +kernel) (by decide) (by decide +kernel) (x_rb_of (by decide +kernel)) rfl rfl (x_wr (by decide) (x_wi l88 (x_wi l156 x_wn))) x_wn (by decide) rfl ?_
            refine x_aload (np := 1) (x := 0) (by decide +kernel) rfl (x_nc_le (by decide)) ?_
            have q157 : h75 75 20 = 87 := by have z := jB (e := 20) 0 j76 rg_75_20_0_1 (by decide) (by decide); omega
            refine x_getR (np := 4) (x := 724) (f := 20) (q := 87) (by decide +kernel) (by decide) (by decide +kernel) q157 ?_
            refine x_const (np := 6) (x := 9223372090541867020) (a := 2147483660) (by decide +kernel) (by decide) (by decide) ?_
            refine x_iload (np := 7) (x := 1) (by decide +kernel) rfl l88 ?_
            obtain ⟨u158, q159⟩ : ∃ z, ((h 76 (160 + 4 * u82))) = 2147483648 + z := ⟨((h 76 (160 + 4 * u82))) - 2147483648, by first | decide | omega⟩
            refine x_imul (np := 8) (x := 0) (i := 12) (j := u158) (v := (2147483648 + 12 * u158)) (by decide +kernel) (by first | decide | omega) (by first | decide | omega) (by first | decide | omega) (by first | decide | omega) (by decide) l88 ?_
            refine x_iload (np := 9) (x := 2) (by decide +kernel) rfl l156 ?_
            refine x_iadd (np := 10) (x := 0) (v := (12 * u158 + (h 76 (161 + 4 * u82)))) (by decide +kernel) (by first | decide | omega) l156 (by first | decide | omega) (by first | decide | omega) ?_
            obtain ⟨u161, q162⟩ : ∃ z, ((h 76 (161 + 4 * u82))) = 2147483648 + z := ⟨((h 76 (161 + 4 * u82))) - 2147483648, by first | decide | omega⟩
            have b163 := jB (e := (12 * u158 + u161)) (12 * u158 + u161) j76 rg_87_0_1_72 (by first | decide | omega) (by first | decide | omega)
            refine x_aldC (np := 11) (x := 0) (n := 72) (i := (12 * u158 + u161)) (q := ((h75 87 (12 * u158 + u161)))) (by decide +kernel) (by decide +kernel) (by first | decide | omega) (by first | decide | omega) (by decide) rfl (fun l164 => ?_)
            refine x_retI (np := 12) (x := 0) (by decide +kernel) l164 (Or.inl (by decide +kernel)) ⟨_, rfl, l164, ?_⟩
            refine x_retI (np := 69) (x := 0) (by decide +kernel) l164 (Or.inl (by decide +kernel)) ⟨_, rfl, l164, ?_⟩
            exact ⟨j76, f80, (by first | decide | omega)⟩
          have q70 : ¬ (2147483648 = 2147483648) := q70
          exfalso; omega
        have q68 : ¬ (2147483648 = 2147483648) := q68
        exfalso; omega
      have q66 : ¬ (2147483649 ≠ 2147483648) := q66
      exfalso; omega
    have q38 : ¬ (2147483648 = 2147483648) := q38
    exfalso; omega
  have q36 : ¬ (2147483649 ≠ 2147483648) := q36
  exfalso; omega
set_option maxHeartbeats 0 in
/-- LentNamesModel.pays(I)I -/
theorem c229_75 {sc : Nat × Nat} {d a1 : Nat} {h : xh} (hJ : J h) (ba1 : 0 ≤ a1 ∧ a1 ≤ 4294967295) (hW : WT 76 h) : X sc 229 (d + 5) (xI fun r h' => J h' ∧ Fr 135291600897 h h' ∧ (2147483647 ≤ r ∧ r ≤ 2147483653)) 0 0 0 [x_r 75, iv_c a1] [] h := by
  have la1 : a1 < 4294967296 := by first | decide | omega
  have hF := Fr.refl 135291600897 h
  refine x_aload (np := 1) (x := 0) (by decide +kernel) rfl (x_nc_le (by decide)) ?_
  refine x_const (np := 2) (x := 9223372039002259456) (a := 2147483648) (by decide +kernel) (by decide) (by decide) ?_
  refine x_putI (np := 5) (x := 704) (f := 0) (by decide +kernel) (by decide +kernel) (by decide) (Or.inl (by decide)) ?_
  have j2 := jU (e := 0) (v := 2147483648) 0 hJ rg_75_0_0_1 (by first | decide | omega) (by first | decide | omega) (by first | decide | omega)
  have f4 := jF (e := 0) (v := 2147483648) 0 hF rg_75_0_0_1 (by first | decide | omega) (by first | decide | omega) (by decide)
  generalize e3 : x_up h 75 0 2147483648 = h1 at j2 f4 ⊢
  refine x_aload (np := 6) (x := 0) (by decide +kernel) rfl (x_nc_le (by decide)) ?_
  refine x_aload (np := 7) (x := 0) (by decide +kernel) rfl (x_nc_le (by decide)) ?_
  refine x_iload (np := 8) (x := 1) (by decide +kernel) rfl la1 ?_
  refine x_nI (t := 6) (mj := 227) (n := 2) (rc := 12) (ml := 2) (nr := 1) (np := 11) (as := [x_r 75, iv_c a1]) (rest := [x_r 75]) (lo1 := [x_r 75, iv_c a1]) (by decide +kernel) (by decide) (by decide +kernel) (x_rb_of (by decide +kernel)) rfl rfl (x_wr (by decide) (x_wi la1 x_wn)) (x_wr (by decide) x_wn) (by decide) rfl ?_
  refine x_aload (np := 1) (x := 0) (by decide +kernel) rfl (x_nc_le (by decide)) ?_
  refine x_iload (np := 2) (x := 1) (by decide +kernel) rfl la1 ?_
  refine x_const (np := 3) (x := 9223372056182128644) (a := 2147483652) (by decide +kernel) (by decide) (by decide) ?_
  refine x_nI (t := 6) (mj := 158) (n := 3) (rc := 12) (ml := 3) (nr := 0) (np := 6) (as := [x_r 75, iv_c a1, iv_c 2147483652]) (rest := []) (lo1 := [x_r 75, iv_c a1, iv_c 2147483652]) (by decide +kernel) (by decide) (by decide +kernel) (x_rb_of (by decide +kernel)) rfl rfl (x_wr (by decide) (x_wi la1 (x_wi (by decide) x_wn))) x_wn (by decide) rfl ?_
  refine x_iload (np := 1) (x := 1) (by decide +kernel) rfl la1 ?_
  refine x_const (np := 2) (x := 9223372039002259456) (a := 2147483648) (by decide +kernel) (by decide) (by decide) ?_
  refine x_aload (np := 3) (x := 0) (by decide +kernel) rfl (x_nc_le (by decide)) ?_
  have q5 : h1 75 1 = 76 := by have z := jB (e := 1) 0 j2 rg_75_1_0_1 (by decide) (by decide); omega
  refine x_getR (np := 6) (x := 705) (f := 1) (q := 76) (by decide +kernel) (by decide) (by decide +kernel) q5 ?_
  refine x_iload (np := 7) (x := 2) (by decide +kernel) rfl (by decide) ?_
  have q6 : h1 76 4 = h 76 4 := by rw [← e3]; exact x_up_k (by decide)
  have b7 := jB (e := 4) 0 hJ rg_76_4_0_1 (by first | decide | omega) (by first | decide | omega)
  refine x_aldC (np := 8) (x := 0) (n := 1952) (i := 4) (q := (h 76 4)) (by decide +kernel) (by decide +kernel) (by first | decide | omega) (by first | decide | omega) (by decide) q6 (fun l8 => ?_)
  refine x_const (np := 9) (x := 9223372043297226753) (a := 2147483649) (by decide +kernel) (by decide) (by decide) ?_
  obtain ⟨v9, q10⟩ : ∃ z, z + 2147483649 = (h 76 4) + 2147483648 := ⟨(h 76 4) + 2147483648 - 2147483649, by first | decide | omega⟩
  refine x_isub (np := 10) (x := 0) (v := v9) (by decide +kernel) l8 (by decide) (by first | decide | omega) (by first | decide | omega) ?_
  refine x_nI (t := 0) (mj := 153) (n := 3) (rc := 0) (ml := 3) (nr := 0) (np := 13) (as := [iv_c a1, iv_c 2147483648, iv_c v9]) (rest := []) (lo1 := [iv_c a1, iv_c 2147483648, iv_c v9]) (by decide +kernel) (by decide) (by decide +kernel) (Or.inl rfl) rfl rfl (x_wi la1 (x_wi (by decide) (x_wi (by first | decide | omega) x_wn))) x_wn (by decide) rfl ?_
  refine x_iload (np := 1) (x := 0) (by decide +kernel) rfl la1 ?_
  refine x_iload (np := 2) (x := 1) (by decide +kernel) rfl (by decide) ?_
  refine x_icmp (k := 2) (tg := 14) (np := 5) (by decide +kernel) (by decide) la1 (by decide) (fun q11 => ?_) (fun q12 => ?_)
  · have q11 : a1 < 2147483648 := q11
    refine x_const (np := 15) (x := 9223372039002259456) (a := 2147483648) (by decide +kernel) (by decide) (by decide) ?_
    refine x_retI (np := 16) (x := 0) (by decide +kernel) (by decide) (Or.inr ⟨by decide +kernel, by first | decide | omega, by first | decide | omega⟩) ⟨_, rfl, (by decide), ?_⟩
    refine x_ifz (k := 1) (tg := 20) (np := 16) (by decide +kernel) (by decide) (by decide) (fun q13 => ?_) (fun q14 => ?_)
    · have q13 : 2147483648 ≠ 2147483648 := q13
      exfalso; omega
    have q14 : ¬ (2147483648 ≠ 2147483648) := q14
    refine x_const (np := 17) (x := 9223372043297226753) (a := 2147483649) (by decide +kernel) (by decide) (by decide) ?_
    refine x_goto (np := 20) (x := 21) (by decide +kernel) ?_
    refine x_retI (np := 22) (x := 0) (by decide +kernel) (by decide) (Or.inr ⟨by decide +kernel, by first | decide | omega, by first | decide | omega⟩) ⟨_, rfl, (by decide), ?_⟩
    refine x_retI (np := 7) (x := 0) (by decide +kernel) (by decide) (Or.inr ⟨by decide +kernel, by first | decide | omega, by first | decide | omega⟩) ⟨_, rfl, (by decide), ?_⟩
    refine x_const (np := 12) (x := 9223372043297226753) (a := 2147483649) (by decide +kernel) (by decide) (by decide) ?_
    refine x_nI (t := 6) (mj := 152) (n := 3) (rc := 12) (ml := 3) (nr := 0) (np := 15) (as := [x_r 75, iv_c 2147483649, iv_c 2147483649]) (rest := []) (lo1 := [x_r 75, iv_c 2147483649, iv_c 2147483649]) (by decide +kernel) (by decide) (by decide +kernel) (x_rb_of (by decide +kernel)) rfl rfl (x_wr (by decide) (x_wi (by decide) (x_wi (by decide) x_wn))) x_wn (by decide) rfl ?_
    refine x_iload (np := 1) (x := 1) (by decide +kernel) rfl (by decide) ?_
    refine x_ifz (k := 0) (tg := 9) (np := 4) (by decide +kernel) (by decide) (by decide) (fun q15 => ?_) (fun q16 => ?_)
    · have q15 : 2147483649 = 2147483648 := q15
      exfalso; omega
    have q16 : ¬ (2147483649 = 2147483648) := q16
    refine x_aload (np := 5) (x := 0) (by decide +kernel) rfl (x_nc_le (by decide)) ?_
    refine x_iload (np := 6) (x := 2) (by decide +kernel) rfl (by decide) ?_
    refine x_putI (np := 9) (x := 704) (f := 0) (by decide +kernel) (by decide +kernel) (by decide) (Or.inl (by decide)) ?_
    have j18 := jU (e := 0) (v := 2147483649) 0 j2 rg_75_0_0_1 (by first | decide | omega) (by first | decide | omega) (by first | decide | omega)
    have f20 := jF (e := 0) (v := 2147483649) 0 f4 rg_75_0_0_1 (by first | decide | omega) (by first | decide | omega) (by decide)
    generalize e19 : x_up h1 75 0 2147483649 = h17 at j18 f20 ⊢
    refine x_iload (np := 10) (x := 1) (by decide +kernel) rfl (by decide) ?_
    refine x_retI (np := 11) (x := 0) (by decide +kernel) (by decide) (Or.inr ⟨by decide +kernel, by first | decide | omega, by first | decide | omega⟩) ⟨_, rfl, (by decide), ?_⟩
    refine x_ifz (k := 0) (tg := 20) (np := 18) (by decide +kernel) (by decide) (by decide) (fun q21 => ?_) (fun q22 => ?_)
    · have q21 : 2147483649 = 2147483648 := q21
      exfalso; omega
    have q22 : ¬ (2147483649 = 2147483648) := q22
    refine x_const (np := 19) (x := 9223372039002259456) (a := 2147483648) (by decide +kernel) (by decide) (by decide) ?_
    refine x_retI (np := 20) (x := 0) (by decide +kernel) (by decide) (Or.inl (by decide +kernel)) ⟨_, rfl, (by decide), ?_⟩
    exact ⟨j18, f20, (by first | decide | omega)⟩
  have q12 : ¬ (a1 < 2147483648) := q12
  refine x_iload (np := 6) (x := 0) (by decide +kernel) rfl la1 ?_
  refine x_iload (np := 7) (x := 2) (by decide +kernel) rfl (by first | decide | omega) ?_
  refine x_icmp (k := 4) (tg := 14) (np := 10) (by decide +kernel) (by decide) la1 (by first | decide | omega) (fun q23 => ?_) (fun q24 => ?_)
  · have q23 : v9 < a1 := q23
    refine x_const (np := 15) (x := 9223372039002259456) (a := 2147483648) (by decide +kernel) (by decide) (by decide) ?_
    refine x_retI (np := 16) (x := 0) (by decide +kernel) (by decide) (Or.inr ⟨by decide +kernel, by first | decide | omega, by first | decide | omega⟩) ⟨_, rfl, (by decide), ?_⟩
    refine x_ifz (k := 1) (tg := 20) (np := 16) (by decide +kernel) (by decide) (by decide) (fun q25 => ?_) (fun q26 => ?_)
    · have q25 : 2147483648 ≠ 2147483648 := q25
      exfalso; omega
    have q26 : ¬ (2147483648 ≠ 2147483648) := q26
    refine x_const (np := 17) (x := 9223372043297226753) (a := 2147483649) (by decide +kernel) (by decide) (by decide) ?_
    refine x_goto (np := 20) (x := 21) (by decide +kernel) ?_
    refine x_retI (np := 22) (x := 0) (by decide +kernel) (by decide) (Or.inr ⟨by decide +kernel, by first | decide | omega, by first | decide | omega⟩) ⟨_, rfl, (by decide), ?_⟩
    refine x_retI (np := 7) (x := 0) (by decide +kernel) (by decide) (Or.inr ⟨by decide +kernel, by first | decide | omega, by first | decide | omega⟩) ⟨_, rfl, (by decide), ?_⟩
    refine x_const (np := 12) (x := 9223372043297226753) (a := 2147483649) (by decide +kernel) (by decide) (by decide) ?_
    refine x_nI (t := 6) (mj := 152) (n := 3) (rc := 12) (ml := 3) (nr := 0) (np := 15) (as := [x_r 75, iv_c 2147483649, iv_c 2147483649]) (rest := []) (lo1 := [x_r 75, iv_c 2147483649, iv_c 2147483649]) (by decide +kernel) (by decide) (by decide +kernel) (x_rb_of (by decide +kernel)) rfl rfl (x_wr (by decide) (x_wi (by decide) (x_wi (by decide) x_wn))) x_wn (by decide) rfl ?_
    refine x_iload (np := 1) (x := 1) (by decide +kernel) rfl (by decide) ?_
    refine x_ifz (k := 0) (tg := 9) (np := 4) (by decide +kernel) (by decide) (by decide) (fun q27 => ?_) (fun q28 => ?_)
    · have q27 : 2147483649 = 2147483648 := q27
      exfalso; omega
    have q28 : ¬ (2147483649 = 2147483648) := q28
    refine x_aload (np := 5) (x := 0) (by decide +kernel) rfl (x_nc_le (by decide)) ?_
    refine x_iload (np := 6) (x := 2) (by decide +kernel) rfl (by decide) ?_
    refine x_putI (np := 9) (x := 704) (f := 0) (by decide +kernel) (by decide +kernel) (by decide) (Or.inl (by decide)) ?_
    have j30 := jU (e := 0) (v := 2147483649) 0 j2 rg_75_0_0_1 (by first | decide | omega) (by first | decide | omega) (by first | decide | omega)
    have f32 := jF (e := 0) (v := 2147483649) 0 f4 rg_75_0_0_1 (by first | decide | omega) (by first | decide | omega) (by decide)
    generalize e31 : x_up h1 75 0 2147483649 = h29 at j30 f32 ⊢
    refine x_iload (np := 10) (x := 1) (by decide +kernel) rfl (by decide) ?_
    refine x_retI (np := 11) (x := 0) (by decide +kernel) (by decide) (Or.inr ⟨by decide +kernel, by first | decide | omega, by first | decide | omega⟩) ⟨_, rfl, (by decide), ?_⟩
    refine x_ifz (k := 0) (tg := 20) (np := 18) (by decide +kernel) (by decide) (by decide) (fun q33 => ?_) (fun q34 => ?_)
    · have q33 : 2147483649 = 2147483648 := q33
      exfalso; omega
    have q34 : ¬ (2147483649 = 2147483648) := q34
    refine x_const (np := 19) (x := 9223372039002259456) (a := 2147483648) (by decide +kernel) (by decide) (by decide) ?_
    refine x_retI (np := 20) (x := 0) (by decide +kernel) (by decide) (Or.inl (by decide +kernel)) ⟨_, rfl, (by decide), ?_⟩
    exact ⟨j30, f32, (by first | decide | omega)⟩
  have q24 : ¬ (v9 < a1) := q24
  refine x_const (np := 11) (x := 9223372043297226753) (a := 2147483649) (by decide +kernel) (by decide) (by decide) ?_
  refine x_goto (np := 14) (x := 15) (by decide +kernel) ?_
  refine x_retI (np := 16) (x := 0) (by decide +kernel) (by decide) (Or.inr ⟨by decide +kernel, by first | decide | omega, by first | decide | omega⟩) ⟨_, rfl, (by decide), ?_⟩
  refine x_ifz (k := 1) (tg := 20) (np := 16) (by decide +kernel) (by decide) (by decide) (fun q35 => ?_) (fun q36 => ?_)
  · have q35 : 2147483649 ≠ 2147483648 := q35
    refine x_const (np := 21) (x := 9223372039002259456) (a := 2147483648) (by decide +kernel) (by decide) (by decide) ?_
    refine x_retI (np := 22) (x := 0) (by decide +kernel) (by decide) (Or.inr ⟨by decide +kernel, by first | decide | omega, by first | decide | omega⟩) ⟨_, rfl, (by decide), ?_⟩
    refine x_retI (np := 7) (x := 0) (by decide +kernel) (by decide) (Or.inr ⟨by decide +kernel, by first | decide | omega, by first | decide | omega⟩) ⟨_, rfl, (by decide), ?_⟩
    refine x_const (np := 12) (x := 9223372043297226753) (a := 2147483649) (by decide +kernel) (by decide) (by decide) ?_
    refine x_nI (t := 6) (mj := 152) (n := 3) (rc := 12) (ml := 3) (nr := 0) (np := 15) (as := [x_r 75, iv_c 2147483648, iv_c 2147483649]) (rest := []) (lo1 := [x_r 75, iv_c 2147483648, iv_c 2147483649]) (by decide +kernel) (by decide) (by decide +kernel) (x_rb_of (by decide +kernel)) rfl rfl (x_wr (by decide) (x_wi (by decide) (x_wi (by decide) x_wn))) x_wn (by decide) rfl ?_
    refine x_iload (np := 1) (x := 1) (by decide +kernel) rfl (by decide) ?_
    refine x_ifz (k := 0) (tg := 9) (np := 4) (by decide +kernel) (by decide) (by decide) (fun q37 => ?_) (fun q38 => ?_)
    · have q37 : 2147483648 = 2147483648 := q37
      refine x_iload (np := 10) (x := 1) (by decide +kernel) rfl (by decide) ?_
      refine x_retI (np := 11) (x := 0) (by decide +kernel) (by decide) (Or.inr ⟨by decide +kernel, by first | decide | omega, by first | decide | omega⟩) ⟨_, rfl, (by decide), ?_⟩
      refine x_ifz (k := 0) (tg := 20) (np := 18) (by decide +kernel) (by decide) (by decide) (fun q39 => ?_) (fun q40 => ?_)
      · have q39 : 2147483648 = 2147483648 := q39
        refine x_aload (np := 21) (x := 0) (by decide +kernel) rfl (x_nc_le (by decide)) ?_
        have m44 : WT 76 h1 := by rw [← e3]; exact WT.oth hW hJ (by decide)
        refine x_cV (t := 6) (mj := 210) (n := 1) (rc := 12) (ml := 5) (nr := 0) (np := 24) (as := [x_r 75]) (rest := []) (lo1 := [x_r 75, 147573952589676412928, 147573952589676412928, 147573952589676412928, 147573952589676412928]) (by decide +kernel) (by decide) (by decide +kernel) (x_rb_of (by decide +kernel)) rfl rfl (x_wr (by decide) x_wn) x_wn (by decide) rfl (c210_75 j2  m44) (fun h45 q43 => ?_)
        obtain ⟨j46, f47⟩ := q43
        have f50 := Fr.trans f4 f47 (by decide)
        refine x_aload (np := 25) (x := 0) (by decide +kernel) rfl (x_nc_le (by decide)) ?_
        refine x_iload (np := 26) (x := 1) (by decide +kernel) rfl la1 ?_
        refine x_nI (t := 6) (mj := 228) (n := 2) (rc := 12) (ml := 4) (nr := 0) (np := 29) (as := [x_r 75, iv_c a1]) (rest := []) (lo1 := [x_r 75, iv_c a1, 147573952589676412928, 147573952589676412928]) (by decide +kernel) (by decide) (by decide +kernel) (x_rb_of (by decide +kernel)) rfl rfl (x_wr (by decide) (x_wi la1 x_wn)) x_wn (by decide) rfl ?_
        refine x_aload (np := 1) (x := 0) (by decide +kernel) rfl (x_nc_le (by decide)) ?_
        refine x_iload (np := 2) (x := 1) (by decide +kernel) rfl la1 ?_
        refine x_const (np := 3) (x := 9223372043297226753) (a := 2147483649) (by decide +kernel) (by decide) (by decide) ?_
        refine x_nI (t := 6) (mj := 163) (n := 3) (rc := 12) (ml := 3) (nr := 0) (np := 6) (as := [x_r 75, iv_c a1, iv_c 2147483649]) (rest := []) (lo1 := [x_r 75, iv_c a1, iv_c 2147483649]) (by decide +kernel) (by decide) (by decide +kernel) (x_rb_of (by decide +kernel)) rfl rfl (x_wr (by decide) (x_wi la1 (x_wi (by decide) x_wn))) x_wn (by decide) rfl ?_
        refine x_aload (np := 1) (x := 0) (by decide +kernel) rfl (x_nc_le (by decide)) ?_
        have q51 : h45 75 1 = 76 := by have z := jB (e := 1) 0 j46 rg_75_1_0_1 (by decide) (by decide); omega
        refine x_getR (np := 4) (x := 705) (f := 1) (q := 76) (by decide +kernel) (by decide) (by decide +kernel) q51 ?_
        refine x_const (np := 7) (x := 9223372897995718856) (a := 2147483848) (by decide +kernel) (by decide) (by decide) ?_
        refine x_const (np := 8) (x := 9223372060477095941) (a := 2147483653) (by decide +kernel) (by decide) (by decide) ?_
        refine x_iload (np := 9) (x := 1) (by decide +kernel) rfl la1 ?_
        obtain ⟨u52, q53⟩ : ∃ z, a1 = 2147483648 + z := ⟨a1 - 2147483648, by first | decide | omega⟩
        refine x_imul (np := 10) (x := 0) (i := 5) (j := u52) (v := (2147483648 + 5 * u52)) (by decide +kernel) (by first | decide | omega) (by first | decide | omega) (by first | decide | omega) (by first | decide | omega) (by decide) la1 ?_
        refine x_iadd (np := 11) (x := 0) (v := (2147483848 + 5 * u52)) (by decide +kernel) (by decide) (by first | decide | omega) (by first | decide | omega) (by first | decide | omega) ?_
        refine x_iload (np := 12) (x := 2) (by decide +kernel) rfl (by decide) ?_
        refine x_iadd (np := 13) (x := 0) (v := (2147483849 + 5 * u52)) (by decide +kernel) (by first | decide | omega) (by decide) (by first | decide | omega) (by first | decide | omega) ?_
        have q55 : h45 76 (201 + 5 * u52) = h1 76 (201 + 5 * u52) := jK u52 f47 rg_76_201_5_10 (by first | decide | omega) (by first | decide | omega) (by decide)
        have q56 : h1 76 (201 + 5 * u52) = h 76 (201 + 5 * u52) := by rw [← e3]; exact x_up_k (by decide)
        have b57 := jB (e := (201 + 5 * u52)) u52 hJ rg_76_201_5_10 (by first | decide | omega) (by first | decide | omega)
        refine x_aldC (np := 14) (x := 0) (n := 1952) (i := (201 + 5 * u52)) (q := ((h 76 (201 + 5 * u52)))) (by decide +kernel) (by decide +kernel) (by first | decide | omega) (by first | decide | omega) (by decide) (q55.trans q56) (fun l58 => ?_)
        refine x_retI (np := 15) (x := 0) (by decide +kernel) l58 (Or.inl (by decide +kernel)) ⟨_, rfl, l58, ?_⟩
        refine x_istore (np := 7) (x := 2) (lo' := [x_r 75, iv_c a1, iv_c ((h 76 (201 + 5 * u52))), 147573952589676412928]) (by decide +kernel) l58 (Nat.le_of_ble_eq_true rfl) rfl ?_
        refine x_aload (np := 8) (x := 0) (by decide +kernel) rfl (x_nc_le (by decide)) ?_
        refine x_iload (np := 9) (x := 1) (by decide +kernel) rfl la1 ?_
        refine x_const (np := 10) (x := 9223372051887161347) (a := 2147483651) (by decide +kernel) (by decide) (by decide) ?_
        refine x_nI (t := 6) (mj := 163) (n := 3) (rc := 12) (ml := 3) (nr := 0) (np := 13) (as := [x_r 75, iv_c a1, iv_c 2147483651]) (rest := []) (lo1 := [x_r 75, iv_c a1, iv_c 2147483651]) (by decide +kernel) (by decide) (by decide +kernel) (x_rb_of (by decide +kernel)) rfl rfl (x_wr (by decide) (x_wi la1 (x_wi (by decide) x_wn))) x_wn (by decide) rfl ?_
        refine x_aload (np := 1) (x := 0) (by decide +kernel) rfl (x_nc_le (by decide)) ?_
        have q59 : h45 75 1 = 76 := by have z := jB (e := 1) 0 j46 rg_75_1_0_1 (by decide) (by decide); omega
        refine x_getR (np := 4) (x := 705) (f := 1) (q := 76) (by decide +kernel) (by decide) (by decide +kernel) q59 ?_
        refine x_const (np := 7) (x := 9223372897995718856) (a := 2147483848) (by decide +kernel) (by decide) (by decide) ?_
        refine x_const (np := 8) (x := 9223372060477095941) (a := 2147483653) (by decide +kernel) (by decide) (by decide) ?_
        refine x_iload (np := 9) (x := 1) (by decide +kernel) rfl la1 ?_
        refine x_imul (np := 10) (x := 0) (i := 5) (j := u52) (v := (2147483648 + 5 * u52)) (by decide +kernel) (by first | decide | omega) (by first | decide | omega) (by first | decide | omega) (by first | decide | omega) (by decide) la1 ?_
        refine x_iadd (np := 11) (x := 0) (v := (2147483848 + 5 * u52)) (by decide +kernel) (by decide) (by first | decide | omega) (by first | decide | omega) (by first | decide | omega) ?_
        refine x_iload (np := 12) (x := 2) (by decide +kernel) rfl (by decide) ?_
        refine x_iadd (np := 13) (x := 0) (v := (2147483851 + 5 * u52)) (by decide +kernel) (by first | decide | omega) (by decide) (by first | decide | omega) (by first | decide | omega) ?_
        have q61 : h45 76 (203 + 5 * u52) = h1 76 (203 + 5 * u52) := jK u52 f47 rg_76_203_5_10 (by first | decide | omega) (by first | decide | omega) (by decide)
        have q62 : h1 76 (203 + 5 * u52) = h 76 (203 + 5 * u52) := by rw [← e3]; exact x_up_k (by decide)
        have b63 := jB (e := (203 + 5 * u52)) u52 hJ rg_76_203_5_10 (by first | decide | omega) (by first | decide | omega)
        refine x_aldC (np := 14) (x := 0) (n := 1952) (i := (203 + 5 * u52)) (q := ((h 76 (203 + 5 * u52)))) (by decide +kernel) (by decide +kernel) (by first | decide | omega) (by first | decide | omega) (by decide) (q61.trans q62) (fun l64 => ?_)
        refine x_retI (np := 15) (x := 0) (by decide +kernel) l64 (Or.inl (by decide +kernel)) ⟨_, rfl, l64, ?_⟩
        refine x_istore (np := 14) (x := 3) (lo' := [x_r 75, iv_c a1, iv_c ((h 76 (201 + 5 * u52))), iv_c ((h 76 (203 + 5 * u52)))]) (by decide +kernel) l64 (Nat.le_of_ble_eq_true rfl) rfl ?_
        refine x_aload (np := 15) (x := 0) (by decide +kernel) rfl (x_nc_le (by decide)) ?_
        refine x_iload (np := 16) (x := 1) (by decide +kernel) rfl la1 ?_
        refine x_const (np := 17) (x := 9223372039002259456) (a := 2147483648) (by decide +kernel) (by decide) (by decide) ?_
        refine x_nI (t := 6) (mj := 163) (n := 3) (rc := 12) (ml := 3) (nr := 0) (np := 20) (as := [x_r 75, iv_c a1, iv_c 2147483648]) (rest := []) (lo1 := [x_r 75, iv_c a1, iv_c 2147483648]) (by decide +kernel) (by decide) (by decide +kernel) (x_rb_of (by decide +kernel)) rfl rfl (x_wr (by decide) (x_wi la1 (x_wi (by decide) x_wn))) x_wn (by decide) rfl ?_
        refine x_aload (np := 1) (x := 0) (by decide +kernel) rfl (x_nc_le (by decide)) ?_
        have q65 : h45 75 1 = 76 := by have z := jB (e := 1) 0 j46 rg_75_1_0_1 (by decide) (by decide); omega
        refine x_getR (np := 4) (x := 705) (f := 1) (q := 76) (by decide +kernel) (by decide) (by decide +kernel) q65 ?_
        refine x_const (np := 7) (x := 9223372897995718856) (a := 2147483848) (by decide +kernel) (by decide) (by decide) ?_
        refine x_const (np := 8) (x := 9223372060477095941) (a := 2147483653) (by decide +kernel) (by decide) (by decide) ?_
        refine x_iload (np := 9) (x := 1) (by decide +kernel) rfl la1 ?_
        refine x_imul (np := 10) (x := 0) (i := 5) (j := u52) (v := (2147483648 + 5 * u52)) (by decide +kernel) (by first | decide | omega) (by first | decide | omega) (by first | decide | omega) (by first | decide | omega) (by decide) la1 ?_
        refine x_iadd (np := 11) (x := 0) (v := (2147483848 + 5 * u52)) (by decide +kernel) (by decide) (by first | decide | omega) (by first | decide | omega) (by first | decide | omega) ?_
        refine x_iload (np := 12) (x := 2) (by decide +kernel) rfl (by decide) ?_
        refine x_iadd (np := 13) (x := 0) (v := (2147483848 + 5 * u52)) (by decide +kernel) (by first | decide | omega) (by decide) (by first | decide | omega) (by first | decide | omega) ?_
        have q67 : h45 76 (200 + 5 * u52) = h1 76 (200 + 5 * u52) := jK u52 f47 rg_76_200_5_10 (by first | decide | omega) (by first | decide | omega) (by decide)
        have q68 : h1 76 (200 + 5 * u52) = h 76 (200 + 5 * u52) := by rw [← e3]; exact x_up_k (by decide)
        refine x_aldC (np := 14) (x := 0) (n := 1952) (i := (200 + 5 * u52)) (q := ((h 76 (200 + 5 * u52)))) (by decide +kernel) (by decide +kernel) (by first | decide | omega) (by first | decide | omega) (by decide) (q67.trans q68) (fun l69 => ?_)
        refine x_retI (np := 15) (x := 0) (by decide +kernel) l69 (Or.inl (by decide +kernel)) ⟨_, rfl, l69, ?_⟩
        refine x_const (np := 21) (x := 9223372043297226753) (a := 2147483649) (by decide +kernel) (by decide) (by decide) ?_
        refine x_icmp (k := 1) (tg := 33) (np := 24) (by decide +kernel) (by decide) l69 (by decide) (fun q70 => ?_) (fun q71 => ?_)
        · have q70 : ((h 76 (200 + 5 * u52))) ≠ 2147483649 := q70
          refine x_aload (np := 34) (x := 0) (by decide +kernel) rfl (x_nc_le (by decide)) ?_
          refine x_iload (np := 35) (x := 2) (by decide +kernel) rfl l58 ?_
          refine x_iload (np := 36) (x := 3) (by decide +kernel) rfl l64 ?_
          refine x_cP (t := 6) (mj := 200) (n := 3) (rc := 12) (ml := 3) (nr := 0) (np := 39) (as := [x_r 75, iv_c ((h 76 (201 + 5 * u52))), iv_c ((h 76 (203 + 5 * u52)))]) (rest := []) (lo1 := [x_r 75, iv_c ((h 76 (201 + 5 * u52))), iv_c ((h 76 (203 + 5 * u52)))]) (by decide +kernel) (by decide) (by decide +kernel) (x_rb_of (by decide +kernel)) rfl rfl (x_wr (by decide) (x_wi l58 (x_wi l64 x_wn))) x_wn (by decide) rfl (c200_75 j46  (by first | decide | omega) (by first | decide | omega)) (fun v72 l73 q74 => ?_)
          refine x_ifz (k := 0) (tg := 46) (np := 42) (by decide +kernel) (by decide) l73 (fun q75 => ?_) (fun q76 => ?_)
          · have q75 : v72 = 2147483648 := q75
            refine x_const (np := 47) (x := 9223372034707292159) (a := 2147483647) (by decide +kernel) (by decide) (by decide) ?_
            refine x_retI (np := 48) (x := 0) (by decide +kernel) (by decide) (Or.inl (by decide +kernel)) ⟨_, rfl, (by decide), ?_⟩
            refine x_retI (np := 30) (x := 0) (by decide +kernel) (by decide) (Or.inl (by decide +kernel)) ⟨_, rfl, (by decide), ?_⟩
            exact ⟨j46, f50, (by first | decide | omega)⟩
          have q76 : ¬ (v72 = 2147483648) := q76
          refine x_iload (np := 43) (x := 2) (by decide +kernel) rfl l58 ?_
          refine x_goto (np := 46) (x := 47) (by decide +kernel) ?_
          refine x_retI (np := 48) (x := 0) (by decide +kernel) l58 (Or.inl (by decide +kernel)) ⟨_, rfl, l58, ?_⟩
          refine x_retI (np := 30) (x := 0) (by decide +kernel) l58 (Or.inl (by decide +kernel)) ⟨_, rfl, l58, ?_⟩
          exact ⟨j46, f50, (by first | decide | omega)⟩
        have q71 : ¬ (((h 76 (200 + 5 * u52))) ≠ 2147483649) := q71
        refine x_aload (np := 25) (x := 0) (by decide +kernel) rfl (x_nc_le (by decide)) ?_
        refine x_iload (np := 26) (x := 2) (by decide +kernel) rfl l58 ?_
        refine x_iload (np := 27) (x := 3) (by decide +kernel) rfl l64 ?_
        refine x_nI (t := 6) (mj := 211) (n := 3) (rc := 12) (ml := 3) (nr := 0) (np := 30) (as := [x_r 75, iv_c ((h 76 (201 + 5 * u52))), iv_c ((h 76 (203 + 5 * u52)))]) (rest := []) (lo1 := [x_r 75, iv_c ((h 76 (201 + 5 * u52))), iv_c ((h 76 (203 + 5 * u52)))]) (by decide +kernel) (by decide) (by decide +kernel) (x_rb_of (by decide +kernel)) rfl rfl (x_wr (by decide) (x_wi l58 (x_wi l64 x_wn))) x_wn (by decide) rfl ?_
        refine x_aload (np := 1) (x := 0) (by decide +kernel) rfl (x_nc_le (by decide)) ?_
        have q77 : h45 75 20 = 87 := by have z := jB (e := 20) 0 j46 rg_75_20_0_1 (by decide) (by decide); omega
        refine x_getR (np := 4) (x := 724) (f := 20) (q := 87) (by decide +kernel) (by decide) (by decide +kernel) q77 ?_
        refine x_const (np := 6) (x := 9223372090541867020) (a := 2147483660) (by decide +kernel) (by decide) (by decide) ?_
        refine x_iload (np := 7) (x := 1) (by decide +kernel) rfl l58 ?_
        obtain ⟨u78, q79⟩ : ∃ z, ((h 76 (201 + 5 * u52))) = 2147483648 + z := ⟨((h 76 (201 + 5 * u52))) - 2147483648, by first | decide | omega⟩
        refine x_imul (np := 8) (x := 0) (i := 12) (j := u78) (v := (2147483648 + 12 * u78)) (by decide +kernel) (by first | decide | omega) (by first | decide | omega) (by first | decide | omega) (by first | decide | omega) (by decide) l58 ?_
        refine x_iload (np := 9) (x := 2) (by decide +kernel) rfl l64 ?_
        refine x_iadd (np := 10) (x := 0) (v := (12 * u78 + (h 76 (203 + 5 * u52)))) (by decide +kernel) (by first | decide | omega) l64 (by first | decide | omega) (by first | decide | omega) ?_
        obtain ⟨u81, q82⟩ : ∃ z, ((h 76 (203 + 5 * u52))) = 2147483648 + z := ⟨((h 76 (203 + 5 * u52))) - 2147483648, by first | decide | omega⟩
        have b83 := jB (e := (12 * u78 + u81)) (12 * u78 + u81) j46 rg_87_0_1_72 (by first | decide | omega) (by first | decide | omega)
        refine x_aldC (np := 11) (x := 0) (n := 72) (i := (12 * u78 + u81)) (q := ((h45 87 (12 * u78 + u81)))) (by decide +kernel) (by decide +kernel) (by first | decide | omega) (by first | decide | omega) (by decide) rfl (fun l84 => ?_)
        refine x_retI (np := 12) (x := 0) (by decide +kernel) l84 (Or.inl (by decide +kernel)) ⟨_, rfl, l84, ?_⟩
        refine x_goto (np := 33) (x := 47) (by decide +kernel) ?_
        refine x_retI (np := 48) (x := 0) (by decide +kernel) l84 (Or.inl (by decide +kernel)) ⟨_, rfl, l84, ?_⟩
        refine x_retI (np := 30) (x := 0) (by decide +kernel) l84 (Or.inl (by decide +kernel)) ⟨_, rfl, l84, ?_⟩
        exact ⟨j46, f50, (by first | decide | omega)⟩
      have q40 : ¬ (2147483648 = 2147483648) := q40
      exfalso; omega
    have q38 : ¬ (2147483648 = 2147483648) := q38
    exfalso; omega
  have q36 : ¬ (2147483649 ≠ 2147483648) := q36
  exfalso; omega
set_option maxHeartbeats 0 in
/-- LentNamesModel.bill(I)I -/
theorem c230_75 {sc : Nat × Nat} {d a1 : Nat} {h : xh} (hJ : J h) (ba1 : 0 ≤ a1 ∧ a1 ≤ 4294967295) (hW : WT 76 h) : X sc 230 (d + 5) (xI fun r h' => J h' ∧ Fr 135291600897 h h' ∧ (0 ≤ r ∧ r ≤ 4294967295)) 0 0 0 [x_r 75, iv_c a1, 147573952589676412928, 147573952589676412928] [] h := by
  have la1 : a1 < 4294967296 := by first | decide | omega
  have hF := Fr.refl 135291600897 h
  refine x_aload (np := 1) (x := 0) (by decide +kernel) rfl (x_nc_le (by decide)) ?_
  refine x_const (np := 2) (x := 9223372039002259456) (a := 2147483648) (by decide +kernel) (by decide) (by decide) ?_
  refine x_putI (np := 5) (x := 704) (f := 0) (by decide +kernel) (by decide +kernel) (by decide) (Or.inl (by decide)) ?_
  have j2 := jU (e := 0) (v := 2147483648) 0 hJ rg_75_0_0_1 (by first | decide | omega) (by first | decide | omega) (by first | decide | omega)
  have f4 := jF (e := 0) (v := 2147483648) 0 hF rg_75_0_0_1 (by first | decide | omega) (by first | decide | omega) (by decide)
  generalize e3 : x_up h 75 0 2147483648 = h1 at j2 f4 ⊢
  refine x_aload (np := 6) (x := 0) (by decide +kernel) rfl (x_nc_le (by decide)) ?_
  refine x_aload (np := 7) (x := 0) (by decide +kernel) rfl (x_nc_le (by decide)) ?_
  refine x_iload (np := 8) (x := 1) (by decide +kernel) rfl la1 ?_
  refine x_nI (t := 6) (mj := 159) (n := 2) (rc := 12) (ml := 2) (nr := 1) (np := 11) (as := [x_r 75, iv_c a1]) (rest := [x_r 75]) (lo1 := [x_r 75, iv_c a1]) (by decide +kernel) (by decide) (by decide +kernel) (x_rb_of (by decide +kernel)) rfl rfl (x_wr (by decide) (x_wi la1 x_wn)) (x_wr (by decide) x_wn) (by decide) rfl ?_
  refine x_aload (np := 1) (x := 0) (by decide +kernel) rfl (x_nc_le (by decide)) ?_
  refine x_iload (np := 2) (x := 1) (by decide +kernel) rfl la1 ?_
  refine x_const (np := 3) (x := 9223372039002259456) (a := 2147483648) (by decide +kernel) (by decide) (by decide) ?_
  refine x_nI (t := 6) (mj := 158) (n := 3) (rc := 12) (ml := 3) (nr := 0) (np := 6) (as := [x_r 75, iv_c a1, iv_c 2147483648]) (rest := []) (lo1 := [x_r 75, iv_c a1, iv_c 2147483648]) (by decide +kernel) (by decide) (by decide +kernel) (x_rb_of (by decide +kernel)) rfl rfl (x_wr (by decide) (x_wi la1 (x_wi (by decide) x_wn))) x_wn (by decide) rfl ?_
  refine x_iload (np := 1) (x := 1) (by decide +kernel) rfl la1 ?_
  refine x_const (np := 2) (x := 9223372039002259456) (a := 2147483648) (by decide +kernel) (by decide) (by decide) ?_
  refine x_aload (np := 3) (x := 0) (by decide +kernel) rfl (x_nc_le (by decide)) ?_
  have q5 : h1 75 1 = 76 := by have z := jB (e := 1) 0 j2 rg_75_1_0_1 (by decide) (by decide); omega
  refine x_getR (np := 6) (x := 705) (f := 1) (q := 76) (by decide +kernel) (by decide) (by decide +kernel) q5 ?_
  refine x_iload (np := 7) (x := 2) (by decide +kernel) rfl (by decide) ?_
  have q6 : h1 76 0 = h 76 0 := by rw [← e3]; exact x_up_k (by decide)
  have b7 := jB (e := 0) 0 hJ rg_76_0_0_1 (by first | decide | omega) (by first | decide | omega)
  refine x_aldC (np := 8) (x := 0) (n := 1952) (i := 0) (q := (h 76 0)) (by decide +kernel) (by decide +kernel) (by first | decide | omega) (by first | decide | omega) (by decide) q6 (fun l8 => ?_)
  refine x_const (np := 9) (x := 9223372043297226753) (a := 2147483649) (by decide +kernel) (by decide) (by decide) ?_
  obtain ⟨v9, q10⟩ : ∃ z, z + 2147483649 = (h 76 0) + 2147483648 := ⟨(h 76 0) + 2147483648 - 2147483649, by first | decide | omega⟩
  refine x_isub (np := 10) (x := 0) (v := v9) (by decide +kernel) l8 (by decide) (by first | decide | omega) (by first | decide | omega) ?_
  refine x_nI (t := 0) (mj := 153) (n := 3) (rc := 0) (ml := 3) (nr := 0) (np := 13) (as := [iv_c a1, iv_c 2147483648, iv_c v9]) (rest := []) (lo1 := [iv_c a1, iv_c 2147483648, iv_c v9]) (by decide +kernel) (by decide) (by decide +kernel) (Or.inl rfl) rfl rfl (x_wi la1 (x_wi (by decide) (x_wi (by first | decide | omega) x_wn))) x_wn (by decide) rfl ?_
  refine x_iload (np := 1) (x := 0) (by decide +kernel) rfl la1 ?_
  refine x_iload (np := 2) (x := 1) (by decide +kernel) rfl (by decide) ?_
  refine x_icmp (k := 2) (tg := 14) (np := 5) (by decide +kernel) (by decide) la1 (by decide) (fun q11 => ?_) (fun q12 => ?_)
  · have q11 : a1 < 2147483648 := q11
    refine x_const (np := 15) (x := 9223372039002259456) (a := 2147483648) (by decide +kernel) (by decide) (by decide) ?_
    refine x_retI (np := 16) (x := 0) (by decide +kernel) (by decide) (Or.inr ⟨by decide +kernel, by first | decide | omega, by first | decide | omega⟩) ⟨_, rfl, (by decide), ?_⟩
    refine x_ifz (k := 1) (tg := 20) (np := 16) (by decide +kernel) (by decide) (by decide) (fun q13 => ?_) (fun q14 => ?_)
    · have q13 : 2147483648 ≠ 2147483648 := q13
      exfalso; omega
    have q14 : ¬ (2147483648 ≠ 2147483648) := q14
    refine x_const (np := 17) (x := 9223372043297226753) (a := 2147483649) (by decide +kernel) (by decide) (by decide) ?_
    refine x_goto (np := 20) (x := 21) (by decide +kernel) ?_
    refine x_retI (np := 22) (x := 0) (by decide +kernel) (by decide) (Or.inr ⟨by decide +kernel, by first | decide | omega, by first | decide | omega⟩) ⟨_, rfl, (by decide), ?_⟩
    refine x_retI (np := 7) (x := 0) (by decide +kernel) (by decide) (Or.inr ⟨by decide +kernel, by first | decide | omega, by first | decide | omega⟩) ⟨_, rfl, (by decide), ?_⟩
    refine x_const (np := 12) (x := 9223372043297226753) (a := 2147483649) (by decide +kernel) (by decide) (by decide) ?_
    refine x_nI (t := 6) (mj := 152) (n := 3) (rc := 12) (ml := 3) (nr := 0) (np := 15) (as := [x_r 75, iv_c 2147483649, iv_c 2147483649]) (rest := []) (lo1 := [x_r 75, iv_c 2147483649, iv_c 2147483649]) (by decide +kernel) (by decide) (by decide +kernel) (x_rb_of (by decide +kernel)) rfl rfl (x_wr (by decide) (x_wi (by decide) (x_wi (by decide) x_wn))) x_wn (by decide) rfl ?_
    refine x_iload (np := 1) (x := 1) (by decide +kernel) rfl (by decide) ?_
    refine x_ifz (k := 0) (tg := 9) (np := 4) (by decide +kernel) (by decide) (by decide) (fun q15 => ?_) (fun q16 => ?_)
    · have q15 : 2147483649 = 2147483648 := q15
      exfalso; omega
    have q16 : ¬ (2147483649 = 2147483648) := q16
    refine x_aload (np := 5) (x := 0) (by decide +kernel) rfl (x_nc_le (by decide)) ?_
    refine x_iload (np := 6) (x := 2) (by decide +kernel) rfl (by decide) ?_
    refine x_putI (np := 9) (x := 704) (f := 0) (by decide +kernel) (by decide +kernel) (by decide) (Or.inl (by decide)) ?_
    have j18 := jU (e := 0) (v := 2147483649) 0 j2 rg_75_0_0_1 (by first | decide | omega) (by first | decide | omega) (by first | decide | omega)
    have f20 := jF (e := 0) (v := 2147483649) 0 f4 rg_75_0_0_1 (by first | decide | omega) (by first | decide | omega) (by decide)
    generalize e19 : x_up h1 75 0 2147483649 = h17 at j18 f20 ⊢
    refine x_iload (np := 10) (x := 1) (by decide +kernel) rfl (by decide) ?_
    refine x_retI (np := 11) (x := 0) (by decide +kernel) (by decide) (Or.inr ⟨by decide +kernel, by first | decide | omega, by first | decide | omega⟩) ⟨_, rfl, (by decide), ?_⟩
    refine x_ifz (k := 0) (tg := 20) (np := 18) (by decide +kernel) (by decide) (by decide) (fun q21 => ?_) (fun q22 => ?_)
    · have q21 : 2147483649 = 2147483648 := q21
      exfalso; omega
    have q22 : ¬ (2147483649 = 2147483648) := q22
    refine x_const (np := 19) (x := 9223372039002259456) (a := 2147483648) (by decide +kernel) (by decide) (by decide) ?_
    refine x_retI (np := 20) (x := 0) (by decide +kernel) (by decide) (Or.inl (by decide +kernel)) ⟨_, rfl, (by decide), ?_⟩
    exact ⟨j18, f20, (by first | decide | omega)⟩
  have q12 : ¬ (a1 < 2147483648) := q12
  refine x_iload (np := 6) (x := 0) (by decide +kernel) rfl la1 ?_
  refine x_iload (np := 7) (x := 2) (by decide +kernel) rfl (by first | decide | omega) ?_
  refine x_icmp (k := 4) (tg := 14) (np := 10) (by decide +kernel) (by decide) la1 (by first | decide | omega) (fun q23 => ?_) (fun q24 => ?_)
  · have q23 : v9 < a1 := q23
    refine x_const (np := 15) (x := 9223372039002259456) (a := 2147483648) (by decide +kernel) (by decide) (by decide) ?_
    refine x_retI (np := 16) (x := 0) (by decide +kernel) (by decide) (Or.inr ⟨by decide +kernel, by first | decide | omega, by first | decide | omega⟩) ⟨_, rfl, (by decide), ?_⟩
    refine x_ifz (k := 1) (tg := 20) (np := 16) (by decide +kernel) (by decide) (by decide) (fun q25 => ?_) (fun q26 => ?_)
    · have q25 : 2147483648 ≠ 2147483648 := q25
      exfalso; omega
    have q26 : ¬ (2147483648 ≠ 2147483648) := q26
    refine x_const (np := 17) (x := 9223372043297226753) (a := 2147483649) (by decide +kernel) (by decide) (by decide) ?_
    refine x_goto (np := 20) (x := 21) (by decide +kernel) ?_
    refine x_retI (np := 22) (x := 0) (by decide +kernel) (by decide) (Or.inr ⟨by decide +kernel, by first | decide | omega, by first | decide | omega⟩) ⟨_, rfl, (by decide), ?_⟩
    refine x_retI (np := 7) (x := 0) (by decide +kernel) (by decide) (Or.inr ⟨by decide +kernel, by first | decide | omega, by first | decide | omega⟩) ⟨_, rfl, (by decide), ?_⟩
    refine x_const (np := 12) (x := 9223372043297226753) (a := 2147483649) (by decide +kernel) (by decide) (by decide) ?_
    refine x_nI (t := 6) (mj := 152) (n := 3) (rc := 12) (ml := 3) (nr := 0) (np := 15) (as := [x_r 75, iv_c 2147483649, iv_c 2147483649]) (rest := []) (lo1 := [x_r 75, iv_c 2147483649, iv_c 2147483649]) (by decide +kernel) (by decide) (by decide +kernel) (x_rb_of (by decide +kernel)) rfl rfl (x_wr (by decide) (x_wi (by decide) (x_wi (by decide) x_wn))) x_wn (by decide) rfl ?_
    refine x_iload (np := 1) (x := 1) (by decide +kernel) rfl (by decide) ?_
    refine x_ifz (k := 0) (tg := 9) (np := 4) (by decide +kernel) (by decide) (by decide) (fun q27 => ?_) (fun q28 => ?_)
    · have q27 : 2147483649 = 2147483648 := q27
      exfalso; omega
    have q28 : ¬ (2147483649 = 2147483648) := q28
    refine x_aload (np := 5) (x := 0) (by decide +kernel) rfl (x_nc_le (by decide)) ?_
    refine x_iload (np := 6) (x := 2) (by decide +kernel) rfl (by decide) ?_
    refine x_putI (np := 9) (x := 704) (f := 0) (by decide +kernel) (by decide +kernel) (by decide) (Or.inl (by decide)) ?_
    have j30 := jU (e := 0) (v := 2147483649) 0 j2 rg_75_0_0_1 (by first | decide | omega) (by first | decide | omega) (by first | decide | omega)
    have f32 := jF (e := 0) (v := 2147483649) 0 f4 rg_75_0_0_1 (by first | decide | omega) (by first | decide | omega) (by decide)
    generalize e31 : x_up h1 75 0 2147483649 = h29 at j30 f32 ⊢
    refine x_iload (np := 10) (x := 1) (by decide +kernel) rfl (by decide) ?_
    refine x_retI (np := 11) (x := 0) (by decide +kernel) (by decide) (Or.inr ⟨by decide +kernel, by first | decide | omega, by first | decide | omega⟩) ⟨_, rfl, (by decide), ?_⟩
    refine x_ifz (k := 0) (tg := 20) (np := 18) (by decide +kernel) (by decide) (by decide) (fun q33 => ?_) (fun q34 => ?_)
    · have q33 : 2147483649 = 2147483648 := q33
      exfalso; omega
    have q34 : ¬ (2147483649 = 2147483648) := q34
    refine x_const (np := 19) (x := 9223372039002259456) (a := 2147483648) (by decide +kernel) (by decide) (by decide) ?_
    refine x_retI (np := 20) (x := 0) (by decide +kernel) (by decide) (Or.inl (by decide +kernel)) ⟨_, rfl, (by decide), ?_⟩
    exact ⟨j30, f32, (by first | decide | omega)⟩
  have q24 : ¬ (v9 < a1) := q24
  refine x_const (np := 11) (x := 9223372043297226753) (a := 2147483649) (by decide +kernel) (by decide) (by decide) ?_
  refine x_goto (np := 14) (x := 15) (by decide +kernel) ?_
  refine x_retI (np := 16) (x := 0) (by decide +kernel) (by decide) (Or.inr ⟨by decide +kernel, by first | decide | omega, by first | decide | omega⟩) ⟨_, rfl, (by decide), ?_⟩
  refine x_ifz (k := 1) (tg := 20) (np := 16) (by decide +kernel) (by decide) (by decide) (fun q35 => ?_) (fun q36 => ?_)
  · have q35 : 2147483649 ≠ 2147483648 := q35
    refine x_const (np := 21) (x := 9223372039002259456) (a := 2147483648) (by decide +kernel) (by decide) (by decide) ?_
    refine x_retI (np := 22) (x := 0) (by decide +kernel) (by decide) (Or.inr ⟨by decide +kernel, by first | decide | omega, by first | decide | omega⟩) ⟨_, rfl, (by decide), ?_⟩
    refine x_retI (np := 7) (x := 0) (by decide +kernel) (by decide) (Or.inr ⟨by decide +kernel, by first | decide | omega, by first | decide | omega⟩) ⟨_, rfl, (by decide), ?_⟩
    refine x_const (np := 12) (x := 9223372043297226753) (a := 2147483649) (by decide +kernel) (by decide) (by decide) ?_
    refine x_nI (t := 6) (mj := 152) (n := 3) (rc := 12) (ml := 3) (nr := 0) (np := 15) (as := [x_r 75, iv_c 2147483648, iv_c 2147483649]) (rest := []) (lo1 := [x_r 75, iv_c 2147483648, iv_c 2147483649]) (by decide +kernel) (by decide) (by decide +kernel) (x_rb_of (by decide +kernel)) rfl rfl (x_wr (by decide) (x_wi (by decide) (x_wi (by decide) x_wn))) x_wn (by decide) rfl ?_
    refine x_iload (np := 1) (x := 1) (by decide +kernel) rfl (by decide) ?_
    refine x_ifz (k := 0) (tg := 9) (np := 4) (by decide +kernel) (by decide) (by decide) (fun q37 => ?_) (fun q38 => ?_)
    · have q37 : 2147483648 = 2147483648 := q37
      refine x_iload (np := 10) (x := 1) (by decide +kernel) rfl (by decide) ?_
      refine x_retI (np := 11) (x := 0) (by decide +kernel) (by decide) (Or.inr ⟨by decide +kernel, by first | decide | omega, by first | decide | omega⟩) ⟨_, rfl, (by decide), ?_⟩
      refine x_ifz (k := 0) (tg := 20) (np := 18) (by decide +kernel) (by decide) (by decide) (fun q39 => ?_) (fun q40 => ?_)
      · have q39 : 2147483648 = 2147483648 := q39
        refine x_aload (np := 21) (x := 0) (by decide +kernel) rfl (x_nc_le (by decide)) ?_
        have m44 : WT 76 h1 := by rw [← e3]; exact WT.oth hW hJ (by decide)
        refine x_cV (t := 6) (mj := 210) (n := 1) (rc := 12) (ml := 5) (nr := 0) (np := 24) (as := [x_r 75]) (rest := []) (lo1 := [x_r 75, 147573952589676412928, 147573952589676412928, 147573952589676412928, 147573952589676412928]) (by decide +kernel) (by decide) (by decide +kernel) (x_rb_of (by decide +kernel)) rfl rfl (x_wr (by decide) x_wn) x_wn (by decide) rfl (c210_75 j2  m44) (fun h45 q43 => ?_)
        obtain ⟨j46, f47⟩ := q43
        have f50 := Fr.trans f4 f47 (by decide)
        refine x_const (np := 25) (x := 9223372039002259456) (a := 2147483648) (by decide +kernel) (by decide) (by decide) ?_
        refine x_istore (np := 26) (x := 2) (lo' := [x_r 75, iv_c a1, iv_c 2147483648, 147573952589676412928]) (by decide +kernel) (by decide) (Nat.le_of_ble_eq_true rfl) rfl ?_
        refine x_const (np := 27) (x := 9223372039002259456) (a := 2147483648) (by decide +kernel) (by decide) (by decide) ?_
        refine x_istore (np := 28) (x := 3) (lo' := [x_r 75, iv_c a1, iv_c 2147483648, iv_c 2147483648]) (by decide +kernel) (by decide) (Nat.le_of_ble_eq_true rfl) rfl ?_
        have p640 : ∀ (n : Nat) (v636 : Nat) (v638 : Nat), 4294967296 - v638 < n → (0 ≤ v636 ∧ v636 ≤ 4294967295) → (2147483648 ≤ v638 ∧ v638 ≤ 2147483658) → X sc 230 (d + 5) (xI fun r h' => J h' ∧ Fr 135291600897 h h' ∧ (0 ≤ r ∧ r ≤ 4294967295)) 0 0 28 [x_r 75, iv_c a1, iv_c v636, iv_c v638] [] h45 := by
          intro n
          induction n with
          | zero => intro v636 v638 q641; exact absurd q641 (Nat.not_lt_zero _)
          | succ n i642 =>
            intro v636 v638 q641 b637 b639
            refine x_iload (np := 29) (x := 3) (by decide +kernel) rfl (by first | decide | omega) ?_
            refine x_aload (np := 30) (x := 0) (by decide +kernel) rfl (x_nc_le (by decide)) ?_
            have q643 : h45 75 1 = 76 := by have z := jB (e := 1) 0 j46 rg_75_1_0_1 (by decide) (by decide); omega
            refine x_getR (np := 33) (x := 705) (f := 1) (q := 76) (by decide +kernel) (by decide) (by decide +kernel) q643 ?_
            refine x_const (np := 34) (x := 9223372056182128644) (a := 2147483652) (by decide +kernel) (by decide) (by decide) ?_
            have q644 : h45 76 4 = h1 76 4 := jK 0 f47 rg_76_4_0_1 (by first | decide | omega) (by first | decide | omega) (by decide)
            have q645 : h1 76 4 = h 76 4 := by rw [← e3]; exact x_up_k (by decide)
            have b646 := jB (e := 4) 0 hJ rg_76_4_0_1 (by first | decide | omega) (by first | decide | omega)
            refine x_aldC (np := 35) (x := 0) (n := 1952) (i := 4) (q := (h 76 4)) (by decide +kernel) (by decide +kernel) (by first | decide | omega) (by first | decide | omega) (by decide) (q644.trans q645) (fun l647 => ?_)
            refine x_icmp (k := 3) (tg := 66) (np := 38) (by decide +kernel) (by decide) (by first | decide | omega) l647 (fun q648 => ?_) (fun q649 => ?_)
            · have q648 : (h 76 4) ≤ v638 := q648
              refine x_iload (np := 67) (x := 2) (by decide +kernel) rfl (by first | decide | omega) ?_
              refine x_retI (np := 68) (x := 0) (by decide +kernel) (by first | decide | omega) (Or.inl (by decide +kernel)) ⟨_, rfl, (by first | decide | omega), ?_⟩
              exact ⟨j46, f50, (by first | decide | omega)⟩
            have q649 : ¬ ((h 76 4) ≤ v638) := q649
            refine x_iload (np := 39) (x := 2) (by decide +kernel) rfl (by first | decide | omega) ?_
            refine x_aload (np := 40) (x := 0) (by decide +kernel) rfl (x_nc_le (by decide)) ?_
            refine x_iload (np := 41) (x := 3) (by decide +kernel) rfl (by first | decide | omega) ?_
            refine x_nI (t := 6) (mj := 228) (n := 2) (rc := 12) (ml := 4) (nr := 1) (np := 44) (as := [x_r 75, iv_c v638]) (rest := [iv_c v636]) (lo1 := [x_r 75, iv_c v638, 147573952589676412928, 147573952589676412928]) (by decide +kernel) (by decide) (by decide +kernel) (x_rb_of (by decide +kernel)) rfl rfl (x_wr (by decide) (x_wi (by first | decide | omega) x_wn)) (x_wi (by first | decide | omega) x_wn) (by decide) rfl ?_
            refine x_aload (np := 1) (x := 0) (by decide +kernel) rfl (x_nc_le (by decide)) ?_
            refine x_iload (np := 2) (x := 1) (by decide +kernel) rfl (by first | decide | omega) ?_
            refine x_const (np := 3) (x := 9223372043297226753) (a := 2147483649) (by decide +kernel) (by decide) (by decide) ?_
            refine x_nI (t := 6) (mj := 163) (n := 3) (rc := 12) (ml := 3) (nr := 0) (np := 6) (as := [x_r 75, iv_c v638, iv_c 2147483649]) (rest := []) (lo1 := [x_r 75, iv_c v638, iv_c 2147483649]) (by decide +kernel) (by decide) (by decide +kernel) (x_rb_of (by decide +kernel)) rfl rfl (x_wr (by decide) (x_wi (by first | decide | omega) (x_wi (by decide) x_wn))) x_wn (by decide) rfl ?_
            refine x_aload (np := 1) (x := 0) (by decide +kernel) rfl (x_nc_le (by decide)) ?_
            have q650 : h45 75 1 = 76 := by have z := jB (e := 1) 0 j46 rg_75_1_0_1 (by decide) (by decide); omega
            refine x_getR (np := 4) (x := 705) (f := 1) (q := 76) (by decide +kernel) (by decide) (by decide +kernel) q650 ?_
            refine x_const (np := 7) (x := 9223372897995718856) (a := 2147483848) (by decide +kernel) (by decide) (by decide) ?_
            refine x_const (np := 8) (x := 9223372060477095941) (a := 2147483653) (by decide +kernel) (by decide) (by decide) ?_
            refine x_iload (np := 9) (x := 1) (by decide +kernel) rfl (by first | decide | omega) ?_
            obtain ⟨u651, q652⟩ : ∃ z, v638 = 2147483648 + z := ⟨v638 - 2147483648, by first | decide | omega⟩
            refine x_imul (np := 10) (x := 0) (i := 5) (j := u651) (v := (2147483648 + 5 * u651)) (by decide +kernel) (by first | decide | omega) (by first | decide | omega) (by first | decide | omega) (by first | decide | omega) (by decide) (by first | decide | omega) ?_
            refine x_iadd (np := 11) (x := 0) (v := (2147483848 + 5 * u651)) (by decide +kernel) (by decide) (by first | decide | omega) (by first | decide | omega) (by first | decide | omega) ?_
            refine x_iload (np := 12) (x := 2) (by decide +kernel) rfl (by decide) ?_
            refine x_iadd (np := 13) (x := 0) (v := (2147483849 + 5 * u651)) (by decide +kernel) (by first | decide | omega) (by decide) (by first | decide | omega) (by first | decide | omega) ?_
            have q654 : h45 76 (201 + 5 * u651) = h1 76 (201 + 5 * u651) := jK u651 f47 rg_76_201_5_10 (by first | decide | omega) (by first | decide | omega) (by decide)
            have q655 : h1 76 (201 + 5 * u651) = h 76 (201 + 5 * u651) := by rw [← e3]; exact x_up_k (by decide)
            have b656 := jB (e := (201 + 5 * u651)) u651 hJ rg_76_201_5_10 (by first | decide | omega) (by first | decide | omega)
            refine x_aldC (np := 14) (x := 0) (n := 1952) (i := (201 + 5 * u651)) (q := ((h 76 (201 + 5 * u651)))) (by decide +kernel) (by decide +kernel) (by first | decide | omega) (by first | decide | omega) (by decide) (q654.trans q655) (fun l657 => ?_)
            refine x_retI (np := 15) (x := 0) (by decide +kernel) l657 (Or.inl (by decide +kernel)) ⟨_, rfl, l657, ?_⟩
            refine x_istore (np := 7) (x := 2) (lo' := [x_r 75, iv_c v638, iv_c ((h 76 (201 + 5 * u651))), 147573952589676412928]) (by decide +kernel) l657 (Nat.le_of_ble_eq_true rfl) rfl ?_
            refine x_aload (np := 8) (x := 0) (by decide +kernel) rfl (x_nc_le (by decide)) ?_
            refine x_iload (np := 9) (x := 1) (by decide +kernel) rfl (by first | decide | omega) ?_
            refine x_const (np := 10) (x := 9223372051887161347) (a := 2147483651) (by decide +kernel) (by decide) (by decide) ?_
            refine x_nI (t := 6) (mj := 163) (n := 3) (rc := 12) (ml := 3) (nr := 0) (np := 13) (as := [x_r 75, iv_c v638, iv_c 2147483651]) (rest := []) (lo1 := [x_r 75, iv_c v638, iv_c 2147483651]) (by decide +kernel) (by decide) (by decide +kernel) (x_rb_of (by decide +kernel)) rfl rfl (x_wr (by decide) (x_wi (by first | decide | omega) (x_wi (by decide) x_wn))) x_wn (by decide) rfl ?_
            refine x_aload (np := 1) (x := 0) (by decide +kernel) rfl (x_nc_le (by decide)) ?_
            have q658 : h45 75 1 = 76 := by have z := jB (e := 1) 0 j46 rg_75_1_0_1 (by decide) (by decide); omega
            refine x_getR (np := 4) (x := 705) (f := 1) (q := 76) (by decide +kernel) (by decide) (by decide +kernel) q658 ?_
            refine x_const (np := 7) (x := 9223372897995718856) (a := 2147483848) (by decide +kernel) (by decide) (by decide) ?_
            refine x_const (np := 8) (x := 9223372060477095941) (a := 2147483653) (by decide +kernel) (by decide) (by decide) ?_
            refine x_iload (np := 9) (x := 1) (by decide +kernel) rfl (by first | decide | omega) ?_
            refine x_imul (np := 10) (x := 0) (i := 5) (j := u651) (v := (2147483648 + 5 * u651)) (by decide +kernel) (by first | decide | omega) (by first | decide | omega) (by first | decide | omega) (by first | decide | omega) (by decide) (by first | decide | omega) ?_
            refine x_iadd (np := 11) (x := 0) (v := (2147483848 + 5 * u651)) (by decide +kernel) (by decide) (by first | decide | omega) (by first | decide | omega) (by first | decide | omega) ?_
            refine x_iload (np := 12) (x := 2) (by decide +kernel) rfl (by decide) ?_
            refine x_iadd (np := 13) (x := 0) (v := (2147483851 + 5 * u651)) (by decide +kernel) (by first | decide | omega) (by decide) (by first | decide | omega) (by first | decide | omega) ?_
            have q660 : h45 76 (203 + 5 * u651) = h1 76 (203 + 5 * u651) := jK u651 f47 rg_76_203_5_10 (by first | decide | omega) (by first | decide | omega) (by decide)
            have q661 : h1 76 (203 + 5 * u651) = h 76 (203 + 5 * u651) := by rw [← e3]; exact x_up_k (by decide)
            have b662 := jB (e := (203 + 5 * u651)) u651 hJ rg_76_203_5_10 (by first | decide | omega) (by first | decide | omega)
            refine x_aldC (np := 14) (x := 0) (n := 1952) (i := (203 + 5 * u651)) (q := ((h 76 (203 + 5 * u651)))) (by decide +kernel) (by decide +kernel) (by first | decide | omega) (by first | decide | omega) (by decide) (q660.trans q661) (fun l663 => ?_)
            refine x_retI (np := 15) (x := 0) (by decide +kernel) l663 (Or.inl (by decide +kernel)) ⟨_, rfl, l663, ?_⟩
            refine x_istore (np := 14) (x := 3) (lo' := [x_r 75, iv_c v638, iv_c ((h 76 (201 + 5 * u651))), iv_c ((h 76 (203 + 5 * u651)))]) (by decide +kernel) l663 (Nat.le_of_ble_eq_true rfl) rfl ?_
            refine x_aload (np := 15) (x := 0) (by decide +kernel) rfl (x_nc_le (by decide)) ?_
            refine x_iload (np := 16) (x := 1) (by decide +kernel) rfl (by first | decide | omega) ?_
            refine x_const (np := 17) (x := 9223372039002259456) (a := 2147483648) (by decide +kernel) (by decide) (by decide) ?_
            refine x_nI (t := 6) (mj := 163) (n := 3) (rc := 12) (ml := 3) (nr := 0) (np := 20) (as := [x_r 75, iv_c v638, iv_c 2147483648]) (rest := []) (lo1 := [x_r 75, iv_c v638, iv_c 2147483648]) (by decide +kernel) (by decide) (by decide +kernel) (x_rb_of (by decide +kernel)) rfl rfl (x_wr (by decide) (x_wi (by first | decide | omega) (x_wi (by decide) x_wn))) x_wn (by decide) rfl ?_
            refine x_aload (np := 1) (x := 0) (by decide +kernel) rfl (x_nc_le (by decide)) ?_
            have q664 : h45 75 1 = 76 := by have z := jB (e := 1) 0 j46 rg_75_1_0_1 (by decide) (by decide); omega
            refine x_getR (np := 4) (x := 705) (f := 1) (q := 76) (by decide +kernel) (by decide) (by decide +kernel) q664 ?_
            refine x_const (np := 7) (x := 9223372897995718856) (a := 2147483848) (by decide +kernel) (by decide) (by decide) ?_
            refine x_const (np := 8) (x := 9223372060477095941) (a := 2147483653) (by decide +kernel) (by decide) (by decide) ?_
            refine x_iload (np := 9) (x := 1) (by decide +kernel) rfl (by first | decide | omega) ?_
            refine x_imul (np := 10) (x := 0) (i := 5) (j := u651) (v := (2147483648 + 5 * u651)) (by decide +kernel) (by first | decide | omega) (by first | decide | omega) (by first | decide | omega) (by first | decide | omega) (by decide) (by first | decide | omega) ?_
            refine x_iadd (np := 11) (x := 0) (v := (2147483848 + 5 * u651)) (by decide +kernel) (by decide) (by first | decide | omega) (by first | decide | omega) (by first | decide | omega) ?_
            refine x_iload (np := 12) (x := 2) (by decide +kernel) rfl (by decide) ?_
            refine x_iadd (np := 13) (x := 0) (v := (2147483848 + 5 * u651)) (by decide +kernel) (by first | decide | omega) (by decide) (by first | decide | omega) (by first | decide | omega) ?_
            have q666 : h45 76 (200 + 5 * u651) = h1 76 (200 + 5 * u651) := jK u651 f47 rg_76_200_5_10 (by first | decide | omega) (by first | decide | omega) (by decide)
            have q667 : h1 76 (200 + 5 * u651) = h 76 (200 + 5 * u651) := by rw [← e3]; exact x_up_k (by decide)
            refine x_aldC (np := 14) (x := 0) (n := 1952) (i := (200 + 5 * u651)) (q := ((h 76 (200 + 5 * u651)))) (by decide +kernel) (by decide +kernel) (by first | decide | omega) (by first | decide | omega) (by decide) (q666.trans q667) (fun l668 => ?_)
            refine x_retI (np := 15) (x := 0) (by decide +kernel) l668 (Or.inl (by decide +kernel)) ⟨_, rfl, l668, ?_⟩
            refine x_const (np := 21) (x := 9223372043297226753) (a := 2147483649) (by decide +kernel) (by decide) (by decide) ?_
            refine x_icmp (k := 1) (tg := 33) (np := 24) (by decide +kernel) (by decide) l668 (by decide) (fun q669 => ?_) (fun q670 => ?_)
            · have q669 : ((h 76 (200 + 5 * u651))) ≠ 2147483649 := q669
              refine x_aload (np := 34) (x := 0) (by decide +kernel) rfl (x_nc_le (by decide)) ?_
              refine x_iload (np := 35) (x := 2) (by decide +kernel) rfl l657 ?_
              refine x_iload (np := 36) (x := 3) (by decide +kernel) rfl l663 ?_
              refine x_cP (t := 6) (mj := 200) (n := 3) (rc := 12) (ml := 3) (nr := 0) (np := 39) (as := [x_r 75, iv_c ((h 76 (201 + 5 * u651))), iv_c ((h 76 (203 + 5 * u651)))]) (rest := []) (lo1 := [x_r 75, iv_c ((h 76 (201 + 5 * u651))), iv_c ((h 76 (203 + 5 * u651)))]) (by decide +kernel) (by decide) (by decide +kernel) (x_rb_of (by decide +kernel)) rfl rfl (x_wr (by decide) (x_wi l657 (x_wi l663 x_wn))) x_wn (by decide) rfl (c200_75 j46  (by first | decide | omega) (by first | decide | omega)) (fun v671 l672 q673 => ?_)
              refine x_ifz (k := 0) (tg := 46) (np := 42) (by decide +kernel) (by decide) l672 (fun q674 => ?_) (fun q675 => ?_)
              · have q674 : v671 = 2147483648 := q674
                refine x_const (np := 47) (x := 9223372034707292159) (a := 2147483647) (by decide +kernel) (by decide) (by decide) ?_
                refine x_retI (np := 48) (x := 0) (by decide +kernel) (by decide) (Or.inl (by decide +kernel)) ⟨_, rfl, (by decide), ?_⟩
                refine x_iload (np := 45) (x := 1) (by decide +kernel) rfl la1 ?_
                refine x_icmp (k := 1) (tg := 57) (np := 48) (by decide +kernel) (by decide) (by decide) la1 (fun q676 => ?_) (fun q677 => ?_)
                · have q676 : 2147483647 ≠ a1 := q676
                  refine x_const (np := 58) (x := 9223372039002259456) (a := 2147483648) (by decide +kernel) (by decide) (by decide) ?_
                  refine x_iadd (np := 59) (x := 0) (v := v636) (by decide +kernel) (by first | decide | omega) (by decide) (by first | decide | omega) (by first | decide | omega) ?_
                  refine x_istore (np := 60) (x := 2) (lo' := [x_r 75, iv_c a1, iv_c v636, iv_c v638]) (by decide +kernel) (by first | decide | omega) (Nat.le_of_ble_eq_true rfl) rfl ?_
                  refine x_iinc (np := 63) (i := 3) (j := 2147483649) (v := (1 + v638)) (lo' := [x_r 75, iv_c a1, iv_c v636, iv_c (1 + v638)]) (by decide +kernel) (by decide) (by decide) rfl (by first | decide | omega) (by first | decide | omega) (by first | decide | omega) rfl ?_
                  refine x_goto (np := 66) (x := 28) (by decide +kernel) ?_
                  exact i642 v636 (1 + v638) (by first | decide | omega) (by first | decide | omega) (by first | decide | omega)
                have q677 : ¬ (2147483647 ≠ a1) := q677
                exfalso; omega
              have q675 : ¬ (v671 = 2147483648) := q675
              refine x_iload (np := 43) (x := 2) (by decide +kernel) rfl l657 ?_
              refine x_goto (np := 46) (x := 47) (by decide +kernel) ?_
              refine x_retI (np := 48) (x := 0) (by decide +kernel) l657 (Or.inl (by decide +kernel)) ⟨_, rfl, l657, ?_⟩
              refine x_iload (np := 45) (x := 1) (by decide +kernel) rfl la1 ?_
              refine x_icmp (k := 1) (tg := 57) (np := 48) (by decide +kernel) (by decide) l657 la1 (fun q678 => ?_) (fun q679 => ?_)
              · have q678 : ((h 76 (201 + 5 * u651))) ≠ a1 := q678
                refine x_const (np := 58) (x := 9223372039002259456) (a := 2147483648) (by decide +kernel) (by decide) (by decide) ?_
                refine x_iadd (np := 59) (x := 0) (v := v636) (by decide +kernel) (by first | decide | omega) (by decide) (by first | decide | omega) (by first | decide | omega) ?_
                refine x_istore (np := 60) (x := 2) (lo' := [x_r 75, iv_c a1, iv_c v636, iv_c v638]) (by decide +kernel) (by first | decide | omega) (Nat.le_of_ble_eq_true rfl) rfl ?_
                refine x_iinc (np := 63) (i := 3) (j := 2147483649) (v := (1 + v638)) (lo' := [x_r 75, iv_c a1, iv_c v636, iv_c (1 + v638)]) (by decide +kernel) (by decide) (by decide) rfl (by first | decide | omega) (by first | decide | omega) (by first | decide | omega) rfl ?_
                refine x_goto (np := 66) (x := 28) (by decide +kernel) ?_
                exact i642 v636 (1 + v638) (by first | decide | omega) (by first | decide | omega) (by first | decide | omega)
              have q679 : ¬ (((h 76 (201 + 5 * u651))) ≠ a1) := q679
              refine x_aload (np := 49) (x := 0) (by decide +kernel) rfl (x_nc_le (by decide)) ?_
              refine x_iload (np := 50) (x := 3) (by decide +kernel) rfl (by first | decide | omega) ?_
              refine x_const (np := 51) (x := 9223372056182128644) (a := 2147483652) (by decide +kernel) (by decide) (by decide) ?_
              refine x_nI (t := 6) (mj := 163) (n := 3) (rc := 12) (ml := 3) (nr := 1) (np := 54) (as := [x_r 75, iv_c v638, iv_c 2147483652]) (rest := [iv_c v636]) (lo1 := [x_r 75, iv_c v638, iv_c 2147483652]) (by decide +kernel) (by decide) (by decide +kernel) (x_rb_of (by decide +kernel)) rfl rfl (x_wr (by decide) (x_wi (by first | decide | omega) (x_wi (by decide) x_wn))) (x_wi (by first | decide | omega) x_wn) (by decide) rfl ?_
              refine x_aload (np := 1) (x := 0) (by decide +kernel) rfl (x_nc_le (by decide)) ?_
              have q680 : h45 75 1 = 76 := by have z := jB (e := 1) 0 j46 rg_75_1_0_1 (by decide) (by decide); omega
              refine x_getR (np := 4) (x := 705) (f := 1) (q := 76) (by decide +kernel) (by decide) (by decide +kernel) q680 ?_
              refine x_const (np := 7) (x := 9223372897995718856) (a := 2147483848) (by decide +kernel) (by decide) (by decide) ?_
              refine x_const (np := 8) (x := 9223372060477095941) (a := 2147483653) (by decide +kernel) (by decide) (by decide) ?_
              refine x_iload (np := 9) (x := 1) (by decide +kernel) rfl (by first | decide | omega) ?_
              refine x_imul (np := 10) (x := 0) (i := 5) (j := u651) (v := (2147483648 + 5 * u651)) (by decide +kernel) (by first | decide | omega) (by first | decide | omega) (by first | decide | omega) (by first | decide | omega) (by decide) (by first | decide | omega) ?_
              refine x_iadd (np := 11) (x := 0) (v := (2147483848 + 5 * u651)) (by decide +kernel) (by decide) (by first | decide | omega) (by first | decide | omega) (by first | decide | omega) ?_
              refine x_iload (np := 12) (x := 2) (by decide +kernel) rfl (by decide) ?_
              refine x_iadd (np := 13) (x := 0) (v := (2147483852 + 5 * u651)) (by decide +kernel) (by first | decide | omega) (by decide) (by first | decide | omega) (by first | decide | omega) ?_
              have q682 : h45 76 (204 + 5 * u651) = h1 76 (204 + 5 * u651) := jK u651 f47 rg_76_204_5_10 (by first | decide | omega) (by first | decide | omega) (by decide)
              have q683 : h1 76 (204 + 5 * u651) = h 76 (204 + 5 * u651) := by rw [← e3]; exact x_up_k (by decide)
              refine x_aldC (np := 14) (x := 0) (n := 1952) (i := (204 + 5 * u651)) (q := ((h 76 (204 + 5 * u651)))) (by decide +kernel) (by decide +kernel) (by first | decide | omega) (by first | decide | omega) (by decide) (q682.trans q683) (fun l684 => ?_)
              refine x_retI (np := 15) (x := 0) (by decide +kernel) l684 (Or.inl (by decide +kernel)) ⟨_, rfl, l684, ?_⟩
              refine x_goto (np := 57) (x := 58) (by decide +kernel) ?_
              refine x_addA (by rw [tb_b230]; decide +kernel) (by first | decide | omega) l684 (fun v685 l686 => ?_)
              refine x_istore (np := 60) (x := 2) (lo' := [x_r 75, iv_c a1, iv_c v685, iv_c v638]) (by decide +kernel) l686 (Nat.le_of_ble_eq_true rfl) rfl ?_
              refine x_iinc (np := 63) (i := 3) (j := 2147483649) (v := (1 + v638)) (lo' := [x_r 75, iv_c a1, iv_c v685, iv_c (1 + v638)]) (by decide +kernel) (by decide) (by decide) rfl (by first | decide | omega) (by first | decide | omega) (by first | decide | omega) rfl ?_
              refine x_goto (np := 66) (x := 28) (by decide +kernel) ?_
              exact i642 v685 (1 + v638) (by first | decide | omega) (by first | decide | omega) (by first | decide | omega)
            have q670 : ¬ (((h 76 (200 + 5 * u651))) ≠ 2147483649) := q670
            refine x_aload (np := 25) (x := 0) (by decide +kernel) rfl (x_nc_le (by decide)) ?_
            refine x_iload (np := 26) (x := 2) (by decide +kernel) rfl l657 ?_
            refine x_iload (np := 27) (x := 3) (by decide +kernel) rfl l663 ?_
            refine x_nI (t := 6) (mj := 211) (n := 3) (rc := 12) (ml := 3) (nr := 0) (np := 30) (as := [x_r 75, iv_c ((h 76 (201 + 5 * u651))), iv_c ((h 76 (203 + 5 * u651)))]) (rest := []) (lo1 := [x_r 75, iv_c ((h 76 (201 + 5 * u651))), iv_c ((h 76 (203 + 5 * u651)))]) (by decide +kernel) (by decide) (by decide +kernel) (x_rb_of (by decide +kernel)) rfl rfl (x_wr (by decide) (x_wi l657 (x_wi l663 x_wn))) x_wn (by decide) rfl ?_
            refine x_aload (np := 1) (x := 0) (by decide +kernel) rfl (x_nc_le (by decide)) ?_
            have q687 : h45 75 20 = 87 := by have z := jB (e := 20) 0 j46 rg_75_20_0_1 (by decide) (by decide); omega
            refine x_getR (np := 4) (x := 724) (f := 20) (q := 87) (by decide +kernel) (by decide) (by decide +kernel) q687 ?_
            refine x_const (np := 6) (x := 9223372090541867020) (a := 2147483660) (by decide +kernel) (by decide) (by decide) ?_
            refine x_iload (np := 7) (x := 1) (by decide +kernel) rfl l657 ?_
            obtain ⟨u688, q689⟩ : ∃ z, ((h 76 (201 + 5 * u651))) = 2147483648 + z := ⟨((h 76 (201 + 5 * u651))) - 2147483648, by first | decide | omega⟩
            refine x_imul (np := 8) (x := 0) (i := 12) (j := u688) (v := (2147483648 + 12 * u688)) (by decide +kernel) (by first | decide | omega) (by first | decide | omega) (by first | decide | omega) (by first | decide | omega) (by decide) l657 ?_
            refine x_iload (np := 9) (x := 2) (by decide +kernel) rfl l663 ?_
            refine x_iadd (np := 10) (x := 0) (v := (12 * u688 + (h 76 (203 + 5 * u651)))) (by decide +kernel) (by first | decide | omega) l663 (by first | decide | omega) (by first | decide | omega) ?_
            obtain ⟨u691, q692⟩ : ∃ z, ((h 76 (203 + 5 * u651))) = 2147483648 + z := ⟨((h 76 (203 + 5 * u651))) - 2147483648, by first | decide | omega⟩
            have b693 := jB (e := (12 * u688 + u691)) (12 * u688 + u691) j46 rg_87_0_1_72 (by first | decide | omega) (by first | decide | omega)
            refine x_aldC (np := 11) (x := 0) (n := 72) (i := (12 * u688 + u691)) (q := ((h45 87 (12 * u688 + u691)))) (by decide +kernel) (by decide +kernel) (by first | decide | omega) (by first | decide | omega) (by decide) rfl (fun l694 => ?_)
            refine x_retI (np := 12) (x := 0) (by decide +kernel) l694 (Or.inl (by decide +kernel)) ⟨_, rfl, l694, ?_⟩
            refine x_goto (np := 33) (x := 47) (by decide +kernel) ?_
            refine x_retI (np := 48) (x := 0) (by decide +kernel) l694 (Or.inl (by decide +kernel)) ⟨_, rfl, l694, ?_⟩
            refine x_iload (np := 45) (x := 1) (by decide +kernel) rfl la1 ?_
            refine x_icmp (k := 1) (tg := 57) (np := 48) (by decide +kernel) (by decide) l694 la1 (fun q695 => ?_) (fun q696 => ?_)
            · have q695 : ((h45 87 (12 * u688 + u691))) ≠ a1 := q695
              refine x_const (np := 58) (x := 9223372039002259456) (a := 2147483648) (by decide +kernel) (by decide) (by decide) ?_
              refine x_iadd (np := 59) (x := 0) (v := v636) (by decide +kernel) (by first | decide | omega) (by decide) (by first | decide | omega) (by first | decide | omega) ?_
              refine x_istore (np := 60) (x := 2) (lo' := [x_r 75, iv_c a1, iv_c v636, iv_c v638]) (by decide +kernel) (by first | decide | omega) (Nat.le_of_ble_eq_true rfl) rfl ?_
              refine x_iinc (np := 63) (i := 3) (j := 2147483649) (v := (1 + v638)) (lo' := [x_r 75, iv_c a1, iv_c v636, iv_c (1 + v638)]) (by decide +kernel) (by decide) (by decide) rfl (by first | decide | omega) (by first | decide | omega) (by first | decide | omega) rfl ?_
              refine x_goto (np := 66) (x := 28) (by decide +kernel) ?_
              exact i642 v636 (1 + v638) (by first | decide | omega) (by first | decide | omega) (by first | decide | omega)
            have q696 : ¬ (((h45 87 (12 * u688 + u691))) ≠ a1) := q696
            refine x_aload (np := 49) (x := 0) (by decide +kernel) rfl (x_nc_le (by decide)) ?_
            refine x_iload (np := 50) (x := 3) (by decide +kernel) rfl (by first | decide | omega) ?_
            refine x_const (np := 51) (x := 9223372056182128644) (a := 2147483652) (by decide +kernel) (by decide) (by decide) ?_
            refine x_nI (t := 6) (mj := 163) (n := 3) (rc := 12) (ml := 3) (nr := 1) (np := 54) (as := [x_r 75, iv_c v638, iv_c 2147483652]) (rest := [iv_c v636]) (lo1 := [x_r 75, iv_c v638, iv_c 2147483652]) (by decide +kernel) (by decide) (by decide +kernel) (x_rb_of (by decide +kernel)) rfl rfl (x_wr (by decide) (x_wi (by first | decide | omega) (x_wi (by decide) x_wn))) (x_wi (by first | decide | omega) x_wn) (by decide) rfl ?_
            refine x_aload (np := 1) (x := 0) (by decide +kernel) rfl (x_nc_le (by decide)) ?_
            have q697 : h45 75 1 = 76 := by have z := jB (e := 1) 0 j46 rg_75_1_0_1 (by decide) (by decide); omega
            refine x_getR (np := 4) (x := 705) (f := 1) (q := 76) (by decide +kernel) (by decide) (by decide +kernel) q697 ?_
            refine x_const (np := 7) (x := 9223372897995718856) (a := 2147483848) (by decide +kernel) (by decide) (by decide) ?_
            refine x_const (np := 8) (x := 9223372060477095941) (a := 2147483653) (by decide +kernel) (by decide) (by decide) ?_
            refine x_iload (np := 9) (x := 1) (by decide +kernel) rfl (by first | decide | omega) ?_
            refine x_imul (np := 10) (x := 0) (i := 5) (j := u651) (v := (2147483648 + 5 * u651)) (by decide +kernel) (by first | decide | omega) (by first | decide | omega) (by first | decide | omega) (by first | decide | omega) (by decide) (by first | decide | omega) ?_
            refine x_iadd (np := 11) (x := 0) (v := (2147483848 + 5 * u651)) (by decide +kernel) (by decide) (by first | decide | omega) (by first | decide | omega) (by first | decide | omega) ?_
            refine x_iload (np := 12) (x := 2) (by decide +kernel) rfl (by decide) ?_
            refine x_iadd (np := 13) (x := 0) (v := (2147483852 + 5 * u651)) (by decide +kernel) (by first | decide | omega) (by decide) (by first | decide | omega) (by first | decide | omega) ?_
            have q699 : h45 76 (204 + 5 * u651) = h1 76 (204 + 5 * u651) := jK u651 f47 rg_76_204_5_10 (by first | decide | omega) (by first | decide | omega) (by decide)
            have q700 : h1 76 (204 + 5 * u651) = h 76 (204 + 5 * u651) := by rw [← e3]; exact x_up_k (by decide)
            refine x_aldC (np := 14) (x := 0) (n := 1952) (i := (204 + 5 * u651)) (q := ((h 76 (204 + 5 * u651)))) (by decide +kernel) (by decide +kernel) (by first | decide | omega) (by first | decide | omega) (by decide) (q699.trans q700) (fun l701 => ?_)
            refine x_retI (np := 15) (x := 0) (by decide +kernel) l701 (Or.inl (by decide +kernel)) ⟨_, rfl, l701, ?_⟩
            refine x_goto (np := 57) (x := 58) (by decide +kernel) ?_
            refine x_addA (by rw [tb_b230]; decide +kernel) (by first | decide | omega) l701 (fun v702 l703 => ?_)
            refine x_istore (np := 60) (x := 2) (lo' := [x_r 75, iv_c a1, iv_c v702, iv_c v638]) (by decide +kernel) l703 (Nat.le_of_ble_eq_true rfl) rfl ?_
            refine x_iinc (np := 63) (i := 3) (j := 2147483649) (v := (1 + v638)) (lo' := [x_r 75, iv_c a1, iv_c v702, iv_c (1 + v638)]) (by decide +kernel) (by decide) (by decide) rfl (by first | decide | omega) (by first | decide | omega) (by first | decide | omega) rfl ?_
            refine x_goto (np := 66) (x := 28) (by decide +kernel) ?_
            exact i642 v702 (1 + v638) (by first | decide | omega) (by first | decide | omega) (by first | decide | omega)
        exact p640 _ 2147483648 2147483648 (Nat.lt_succ_self _) (by first | decide | omega) (by first | decide | omega)
      have q40 : ¬ (2147483648 = 2147483648) := q40
      exfalso; omega
    have q38 : ¬ (2147483648 = 2147483648) := q38
    exfalso; omega
  have q36 : ¬ (2147483649 ≠ 2147483648) := q36
  exfalso; omega
set_option maxHeartbeats 0 in
/-- LentNamesModel.purse(II)I -/
theorem c231_75 {sc : Nat × Nat} {d a1 a2 : Nat} {h : xh} (hJ : J h) (ba1 : 0 ≤ a1 ∧ a1 ≤ 4294967295) (ba2 : 0 ≤ a2 ∧ a2 ≤ 4294967295) (hW : WT 76 h) : X sc 231 (d + 3) (xI fun r h' => J h' ∧ Fr 2251799813816320 h h' ∧ (0 ≤ r ∧ r ≤ 4294967295) ∧ WT 76 h') 0 0 0 [x_r 75, iv_c a1, iv_c a2, 147573952589676412928] [] h := by
  have la1 : a1 < 4294967296 := by first | decide | omega
  have la2 : a2 < 4294967296 := by first | decide | omega
  have hF := Fr.refl 2251799813816320 h
  refine x_aload (np := 1) (x := 0) (by decide +kernel) rfl (x_nc_le (by decide)) ?_
  refine x_const (np := 2) (x := 9223372039002259456) (a := 2147483648) (by decide +kernel) (by decide) (by decide) ?_
  refine x_putI (np := 5) (x := 704) (f := 0) (by decide +kernel) (by decide +kernel) (by decide) (Or.inl (by decide)) ?_
  have j2 := jU (e := 0) (v := 2147483648) 0 hJ rg_75_0_0_1 (by first | decide | omega) (by first | decide | omega) (by first | decide | omega)
  have f4 := jF (e := 0) (v := 2147483648) 0 hF rg_75_0_0_1 (by first | decide | omega) (by first | decide | omega) (by decide)
  generalize e3 : x_up h 75 0 2147483648 = h1 at j2 f4 ⊢
  refine x_aload (np := 6) (x := 0) (by decide +kernel) rfl (x_nc_le (by decide)) ?_
  refine x_aload (np := 7) (x := 0) (by decide +kernel) rfl (x_nc_le (by decide)) ?_
  refine x_iload (np := 8) (x := 1) (by decide +kernel) rfl la1 ?_
  refine x_nI (t := 6) (mj := 159) (n := 2) (rc := 12) (ml := 2) (nr := 1) (np := 11) (as := [x_r 75, iv_c a1]) (rest := [x_r 75]) (lo1 := [x_r 75, iv_c a1]) (by decide +kernel) (by decide) (by decide +kernel) (x_rb_of (by decide +kernel)) rfl rfl (x_wr (by decide) (x_wi la1 x_wn)) (x_wr (by decide) x_wn) (by decide) rfl ?_
  refine x_aload (np := 1) (x := 0) (by decide +kernel) rfl (x_nc_le (by decide)) ?_
  refine x_iload (np := 2) (x := 1) (by decide +kernel) rfl la1 ?_
  refine x_const (np := 3) (x := 9223372039002259456) (a := 2147483648) (by decide +kernel) (by decide) (by decide) ?_
  refine x_nI (t := 6) (mj := 158) (n := 3) (rc := 12) (ml := 3) (nr := 0) (np := 6) (as := [x_r 75, iv_c a1, iv_c 2147483648]) (rest := []) (lo1 := [x_r 75, iv_c a1, iv_c 2147483648]) (by decide +kernel) (by decide) (by decide +kernel) (x_rb_of (by decide +kernel)) rfl rfl (x_wr (by decide) (x_wi la1 (x_wi (by decide) x_wn))) x_wn (by decide) rfl ?_
  refine x_iload (np := 1) (x := 1) (by decide +kernel) rfl la1 ?_
  refine x_const (np := 2) (x := 9223372039002259456) (a := 2147483648) (by decide +kernel) (by decide) (by decide) ?_
  refine x_aload (np := 3) (x := 0) (by decide +kernel) rfl (x_nc_le (by decide)) ?_
  have q5 : h1 75 1 = 76 := by have z := jB (e := 1) 0 j2 rg_75_1_0_1 (by decide) (by decide); omega
  refine x_getR (np := 6) (x := 705) (f := 1) (q := 76) (by decide +kernel) (by decide) (by decide +kernel) q5 ?_
  refine x_iload (np := 7) (x := 2) (by decide +kernel) rfl (by decide) ?_
  have q6 : h1 76 0 = h 76 0 := by rw [← e3]; exact x_up_k (by decide)
  have b7 := jB (e := 0) 0 hJ rg_76_0_0_1 (by first | decide | omega) (by first | decide | omega)
  refine x_aldC (np := 8) (x := 0) (n := 1952) (i := 0) (q := (h 76 0)) (by decide +kernel) (by decide +kernel) (by first | decide | omega) (by first | decide | omega) (by decide) q6 (fun l8 => ?_)
  refine x_const (np := 9) (x := 9223372043297226753) (a := 2147483649) (by decide +kernel) (by decide) (by decide) ?_
  obtain ⟨v9, q10⟩ : ∃ z, z + 2147483649 = (h 76 0) + 2147483648 := ⟨(h 76 0) + 2147483648 - 2147483649, by first | decide | omega⟩
  refine x_isub (np := 10) (x := 0) (v := v9) (by decide +kernel) l8 (by decide) (by first | decide | omega) (by first | decide | omega) ?_
  refine x_nI (t := 0) (mj := 153) (n := 3) (rc := 0) (ml := 3) (nr := 0) (np := 13) (as := [iv_c a1, iv_c 2147483648, iv_c v9]) (rest := []) (lo1 := [iv_c a1, iv_c 2147483648, iv_c v9]) (by decide +kernel) (by decide) (by decide +kernel) (Or.inl rfl) rfl rfl (x_wi la1 (x_wi (by decide) (x_wi (by first | decide | omega) x_wn))) x_wn (by decide) rfl ?_
  refine x_iload (np := 1) (x := 0) (by decide +kernel) rfl la1 ?_
  refine x_iload (np := 2) (x := 1) (by decide +kernel) rfl (by decide) ?_
  refine x_icmp (k := 2) (tg := 14) (np := 5) (by decide +kernel) (by decide) la1 (by decide) (fun q11 => ?_) (fun q12 => ?_)
  · have q11 : a1 < 2147483648 := q11
    refine x_const (np := 15) (x := 9223372039002259456) (a := 2147483648) (by decide +kernel) (by decide) (by decide) ?_
    refine x_retI (np := 16) (x := 0) (by decide +kernel) (by decide) (Or.inr ⟨by decide +kernel, by first | decide | omega, by first | decide | omega⟩) ⟨_, rfl, (by decide), ?_⟩
    refine x_ifz (k := 1) (tg := 20) (np := 16) (by decide +kernel) (by decide) (by decide) (fun q13 => ?_) (fun q14 => ?_)
    · have q13 : 2147483648 ≠ 2147483648 := q13
      exfalso; omega
    have q14 : ¬ (2147483648 ≠ 2147483648) := q14
    refine x_const (np := 17) (x := 9223372043297226753) (a := 2147483649) (by decide +kernel) (by decide) (by decide) ?_
    refine x_goto (np := 20) (x := 21) (by decide +kernel) ?_
    refine x_retI (np := 22) (x := 0) (by decide +kernel) (by decide) (Or.inr ⟨by decide +kernel, by first | decide | omega, by first | decide | omega⟩) ⟨_, rfl, (by decide), ?_⟩
    refine x_retI (np := 7) (x := 0) (by decide +kernel) (by decide) (Or.inr ⟨by decide +kernel, by first | decide | omega, by first | decide | omega⟩) ⟨_, rfl, (by decide), ?_⟩
    refine x_const (np := 12) (x := 9223372043297226753) (a := 2147483649) (by decide +kernel) (by decide) (by decide) ?_
    refine x_nI (t := 6) (mj := 152) (n := 3) (rc := 12) (ml := 3) (nr := 0) (np := 15) (as := [x_r 75, iv_c 2147483649, iv_c 2147483649]) (rest := []) (lo1 := [x_r 75, iv_c 2147483649, iv_c 2147483649]) (by decide +kernel) (by decide) (by decide +kernel) (x_rb_of (by decide +kernel)) rfl rfl (x_wr (by decide) (x_wi (by decide) (x_wi (by decide) x_wn))) x_wn (by decide) rfl ?_
    refine x_iload (np := 1) (x := 1) (by decide +kernel) rfl (by decide) ?_
    refine x_ifz (k := 0) (tg := 9) (np := 4) (by decide +kernel) (by decide) (by decide) (fun q15 => ?_) (fun q16 => ?_)
    · have q15 : 2147483649 = 2147483648 := q15
      exfalso; omega
    have q16 : ¬ (2147483649 = 2147483648) := q16
    refine x_aload (np := 5) (x := 0) (by decide +kernel) rfl (x_nc_le (by decide)) ?_
    refine x_iload (np := 6) (x := 2) (by decide +kernel) rfl (by decide) ?_
    refine x_putI (np := 9) (x := 704) (f := 0) (by decide +kernel) (by decide +kernel) (by decide) (Or.inl (by decide)) ?_
    have j18 := jU (e := 0) (v := 2147483649) 0 j2 rg_75_0_0_1 (by first | decide | omega) (by first | decide | omega) (by first | decide | omega)
    have f20 := jF (e := 0) (v := 2147483649) 0 f4 rg_75_0_0_1 (by first | decide | omega) (by first | decide | omega) (by decide)
    generalize e19 : x_up h1 75 0 2147483649 = h17 at j18 f20 ⊢
    refine x_iload (np := 10) (x := 1) (by decide +kernel) rfl (by decide) ?_
    refine x_retI (np := 11) (x := 0) (by decide +kernel) (by decide) (Or.inr ⟨by decide +kernel, by first | decide | omega, by first | decide | omega⟩) ⟨_, rfl, (by decide), ?_⟩
    refine x_ifz (k := 1) (tg := 42) (np := 18) (by decide +kernel) (by decide) (by decide) (fun q21 => ?_) (fun q22 => ?_)
    · have q21 : 2147483649 ≠ 2147483648 := q21
      refine x_const (np := 43) (x := 9223372039002259456) (a := 2147483648) (by decide +kernel) (by decide) (by decide) ?_
      have m24 : WT 76 h1 := by rw [← e3]; exact WT.oth hW hJ (by decide)
      have m23 : WT 76 h17 := by rw [← e19]; exact WT.oth m24 j2 (by decide)
      refine x_retI (np := 44) (x := 0) (by decide +kernel) (by decide) (Or.inl (by decide +kernel)) ⟨_, rfl, (by decide), ?_⟩
      exact ⟨j18, f20, (by first | decide | omega), m23⟩
    have q22 : ¬ (2147483649 ≠ 2147483648) := q22
    exfalso; omega
  have q12 : ¬ (a1 < 2147483648) := q12
  refine x_iload (np := 6) (x := 0) (by decide +kernel) rfl la1 ?_
  refine x_iload (np := 7) (x := 2) (by decide +kernel) rfl (by first | decide | omega) ?_
  refine x_icmp (k := 4) (tg := 14) (np := 10) (by decide +kernel) (by decide) la1 (by first | decide | omega) (fun q25 => ?_) (fun q26 => ?_)
  · have q25 : v9 < a1 := q25
    refine x_const (np := 15) (x := 9223372039002259456) (a := 2147483648) (by decide +kernel) (by decide) (by decide) ?_
    refine x_retI (np := 16) (x := 0) (by decide +kernel) (by decide) (Or.inr ⟨by decide +kernel, by first | decide | omega, by first | decide | omega⟩) ⟨_, rfl, (by decide), ?_⟩
    refine x_ifz (k := 1) (tg := 20) (np := 16) (by decide +kernel) (by decide) (by decide) (fun q27 => ?_) (fun q28 => ?_)
    · have q27 : 2147483648 ≠ 2147483648 := q27
      exfalso; omega
    have q28 : ¬ (2147483648 ≠ 2147483648) := q28
    refine x_const (np := 17) (x := 9223372043297226753) (a := 2147483649) (by decide +kernel) (by decide) (by decide) ?_
    refine x_goto (np := 20) (x := 21) (by decide +kernel) ?_
    refine x_retI (np := 22) (x := 0) (by decide +kernel) (by decide) (Or.inr ⟨by decide +kernel, by first | decide | omega, by first | decide | omega⟩) ⟨_, rfl, (by decide), ?_⟩
    refine x_retI (np := 7) (x := 0) (by decide +kernel) (by decide) (Or.inr ⟨by decide +kernel, by first | decide | omega, by first | decide | omega⟩) ⟨_, rfl, (by decide), ?_⟩
    refine x_const (np := 12) (x := 9223372043297226753) (a := 2147483649) (by decide +kernel) (by decide) (by decide) ?_
    refine x_nI (t := 6) (mj := 152) (n := 3) (rc := 12) (ml := 3) (nr := 0) (np := 15) (as := [x_r 75, iv_c 2147483649, iv_c 2147483649]) (rest := []) (lo1 := [x_r 75, iv_c 2147483649, iv_c 2147483649]) (by decide +kernel) (by decide) (by decide +kernel) (x_rb_of (by decide +kernel)) rfl rfl (x_wr (by decide) (x_wi (by decide) (x_wi (by decide) x_wn))) x_wn (by decide) rfl ?_
    refine x_iload (np := 1) (x := 1) (by decide +kernel) rfl (by decide) ?_
    refine x_ifz (k := 0) (tg := 9) (np := 4) (by decide +kernel) (by decide) (by decide) (fun q29 => ?_) (fun q30 => ?_)
    · have q29 : 2147483649 = 2147483648 := q29
      exfalso; omega
    have q30 : ¬ (2147483649 = 2147483648) := q30
    refine x_aload (np := 5) (x := 0) (by decide +kernel) rfl (x_nc_le (by decide)) ?_
    refine x_iload (np := 6) (x := 2) (by decide +kernel) rfl (by decide) ?_
    refine x_putI (np := 9) (x := 704) (f := 0) (by decide +kernel) (by decide +kernel) (by decide) (Or.inl (by decide)) ?_
    have j32 := jU (e := 0) (v := 2147483649) 0 j2 rg_75_0_0_1 (by first | decide | omega) (by first | decide | omega) (by first | decide | omega)
    have f34 := jF (e := 0) (v := 2147483649) 0 f4 rg_75_0_0_1 (by first | decide | omega) (by first | decide | omega) (by decide)
    generalize e33 : x_up h1 75 0 2147483649 = h31 at j32 f34 ⊢
    refine x_iload (np := 10) (x := 1) (by decide +kernel) rfl (by decide) ?_
    refine x_retI (np := 11) (x := 0) (by decide +kernel) (by decide) (Or.inr ⟨by decide +kernel, by first | decide | omega, by first | decide | omega⟩) ⟨_, rfl, (by decide), ?_⟩
    refine x_ifz (k := 1) (tg := 42) (np := 18) (by decide +kernel) (by decide) (by decide) (fun q35 => ?_) (fun q36 => ?_)
    · have q35 : 2147483649 ≠ 2147483648 := q35
      refine x_const (np := 43) (x := 9223372039002259456) (a := 2147483648) (by decide +kernel) (by decide) (by decide) ?_
      have m38 : WT 76 h1 := by rw [← e3]; exact WT.oth hW hJ (by decide)
      have m37 : WT 76 h31 := by rw [← e33]; exact WT.oth m38 j2 (by decide)
      refine x_retI (np := 44) (x := 0) (by decide +kernel) (by decide) (Or.inl (by decide +kernel)) ⟨_, rfl, (by decide), ?_⟩
      exact ⟨j32, f34, (by first | decide | omega), m37⟩
    have q36 : ¬ (2147483649 ≠ 2147483648) := q36
    exfalso; omega
  have q26 : ¬ (v9 < a1) := q26
  refine x_const (np := 11) (x := 9223372043297226753) (a := 2147483649) (by decide +kernel) (by decide) (by decide) ?_
  refine x_goto (np := 14) (x := 15) (by decide +kernel) ?_
  refine x_retI (np := 16) (x := 0) (by decide +kernel) (by decide) (Or.inr ⟨by decide +kernel, by first | decide | omega, by first | decide | omega⟩) ⟨_, rfl, (by decide), ?_⟩
  refine x_ifz (k := 1) (tg := 20) (np := 16) (by decide +kernel) (by decide) (by decide) (fun q39 => ?_) (fun q40 => ?_)
  · have q39 : 2147483649 ≠ 2147483648 := q39
    refine x_const (np := 21) (x := 9223372039002259456) (a := 2147483648) (by decide +kernel) (by decide) (by decide) ?_
    refine x_retI (np := 22) (x := 0) (by decide +kernel) (by decide) (Or.inr ⟨by decide +kernel, by first | decide | omega, by first | decide | omega⟩) ⟨_, rfl, (by decide), ?_⟩
    refine x_retI (np := 7) (x := 0) (by decide +kernel) (by decide) (Or.inr ⟨by decide +kernel, by first | decide | omega, by first | decide | omega⟩) ⟨_, rfl, (by decide), ?_⟩
    refine x_const (np := 12) (x := 9223372043297226753) (a := 2147483649) (by decide +kernel) (by decide) (by decide) ?_
    refine x_nI (t := 6) (mj := 152) (n := 3) (rc := 12) (ml := 3) (nr := 0) (np := 15) (as := [x_r 75, iv_c 2147483648, iv_c 2147483649]) (rest := []) (lo1 := [x_r 75, iv_c 2147483648, iv_c 2147483649]) (by decide +kernel) (by decide) (by decide +kernel) (x_rb_of (by decide +kernel)) rfl rfl (x_wr (by decide) (x_wi (by decide) (x_wi (by decide) x_wn))) x_wn (by decide) rfl ?_
    refine x_iload (np := 1) (x := 1) (by decide +kernel) rfl (by decide) ?_
    refine x_ifz (k := 0) (tg := 9) (np := 4) (by decide +kernel) (by decide) (by decide) (fun q41 => ?_) (fun q42 => ?_)
    · have q41 : 2147483648 = 2147483648 := q41
      refine x_iload (np := 10) (x := 1) (by decide +kernel) rfl (by decide) ?_
      refine x_retI (np := 11) (x := 0) (by decide +kernel) (by decide) (Or.inr ⟨by decide +kernel, by first | decide | omega, by first | decide | omega⟩) ⟨_, rfl, (by decide), ?_⟩
      refine x_ifz (k := 1) (tg := 42) (np := 18) (by decide +kernel) (by decide) (by decide) (fun q43 => ?_) (fun q44 => ?_)
      · have q43 : 2147483648 ≠ 2147483648 := q43
        exfalso; omega
      have q44 : ¬ (2147483648 ≠ 2147483648) := q44
      refine x_aload (np := 19) (x := 0) (by decide +kernel) rfl (x_nc_le (by decide)) ?_
      refine x_iload (np := 20) (x := 2) (by decide +kernel) rfl la2 ?_
      refine x_const (np := 21) (x := 9223372039002259456) (a := 2147483648) (by decide +kernel) (by decide) (by decide) ?_
      refine x_const (np := 24) (x := 9223414984380262159) (a := 2147493647) (by decide +kernel) (by decide) (by decide) ?_
      refine x_nI (t := 0) (mj := 153) (n := 3) (rc := 0) (ml := 3) (nr := 1) (np := 27) (as := [iv_c a2, iv_c 2147483648, iv_c 2147493647]) (rest := [x_r 75]) (lo1 := [iv_c a2, iv_c 2147483648, iv_c 2147493647]) (by decide +kernel) (by decide) (by decide +kernel) (Or.inl rfl) rfl rfl (x_wi la2 (x_wi (by decide) (x_wi (by decide) x_wn))) (x_wr (by decide) x_wn) (by decide) rfl ?_
      refine x_iload (np := 1) (x := 0) (by decide +kernel) rfl la2 ?_
      refine x_iload (np := 2) (x := 1) (by decide +kernel) rfl (by decide) ?_
      refine x_icmp (k := 2) (tg := 14) (np := 5) (by decide +kernel) (by decide) la2 (by decide) (fun q45 => ?_) (fun q46 => ?_)
      · have q45 : a2 < 2147483648 := q45
        refine x_const (np := 15) (x := 9223372039002259456) (a := 2147483648) (by decide +kernel) (by decide) (by decide) ?_
        refine x_retI (np := 16) (x := 0) (by decide +kernel) (by decide) (Or.inr ⟨by decide +kernel, by first | decide | omega, by first | decide | omega⟩) ⟨_, rfl, (by decide), ?_⟩
        refine x_ifz (k := 1) (tg := 34) (np := 30) (by decide +kernel) (by decide) (by decide) (fun q47 => ?_) (fun q48 => ?_)
        · have q47 : 2147483648 ≠ 2147483648 := q47
          exfalso; omega
        have q48 : ¬ (2147483648 ≠ 2147483648) := q48
        refine x_const (np := 31) (x := 9223372043297226753) (a := 2147483649) (by decide +kernel) (by decide) (by decide) ?_
        refine x_goto (np := 34) (x := 35) (by decide +kernel) ?_
        refine x_const (np := 36) (x := 9223372047592194050) (a := 2147483650) (by decide +kernel) (by decide) (by decide) ?_
        refine x_nI (t := 6) (mj := 152) (n := 3) (rc := 12) (ml := 3) (nr := 0) (np := 39) (as := [x_r 75, iv_c 2147483649, iv_c 2147483650]) (rest := []) (lo1 := [x_r 75, iv_c 2147483649, iv_c 2147483650]) (by decide +kernel) (by decide) (by decide +kernel) (x_rb_of (by decide +kernel)) rfl rfl (x_wr (by decide) (x_wi (by decide) (x_wi (by decide) x_wn))) x_wn (by decide) rfl ?_
        refine x_iload (np := 1) (x := 1) (by decide +kernel) rfl (by decide) ?_
        refine x_ifz (k := 0) (tg := 9) (np := 4) (by decide +kernel) (by decide) (by decide) (fun q49 => ?_) (fun q50 => ?_)
        · have q49 : 2147483649 = 2147483648 := q49
          exfalso; omega
        have q50 : ¬ (2147483649 = 2147483648) := q50
        refine x_aload (np := 5) (x := 0) (by decide +kernel) rfl (x_nc_le (by decide)) ?_
        refine x_iload (np := 6) (x := 2) (by decide +kernel) rfl (by decide) ?_
        refine x_putI (np := 9) (x := 704) (f := 0) (by decide +kernel) (by decide +kernel) (by decide) (Or.inl (by decide)) ?_
        have j52 := jU (e := 0) (v := 2147483650) 0 j2 rg_75_0_0_1 (by first | decide | omega) (by first | decide | omega) (by first | decide | omega)
        have f54 := jF (e := 0) (v := 2147483650) 0 f4 rg_75_0_0_1 (by first | decide | omega) (by first | decide | omega) (by decide)
        generalize e53 : x_up h1 75 0 2147483650 = h51 at j52 f54 ⊢
        refine x_iload (np := 10) (x := 1) (by decide +kernel) rfl (by decide) ?_
        refine x_retI (np := 11) (x := 0) (by decide +kernel) (by decide) (Or.inr ⟨by decide +kernel, by first | decide | omega, by first | decide | omega⟩) ⟨_, rfl, (by decide), ?_⟩
        refine x_ifz (k := 0) (tg := 44) (np := 42) (by decide +kernel) (by decide) (by decide) (fun q55 => ?_) (fun q56 => ?_)
        · have q55 : 2147483649 = 2147483648 := q55
          exfalso; omega
        have q56 : ¬ (2147483649 = 2147483648) := q56
        refine x_const (np := 43) (x := 9223372039002259456) (a := 2147483648) (by decide +kernel) (by decide) (by decide) ?_
        have m58 : WT 76 h1 := by rw [← e3]; exact WT.oth hW hJ (by decide)
        have m57 : WT 76 h51 := by rw [← e53]; exact WT.oth m58 j2 (by decide)
        refine x_retI (np := 44) (x := 0) (by decide +kernel) (by decide) (Or.inl (by decide +kernel)) ⟨_, rfl, (by decide), ?_⟩
        exact ⟨j52, f54, (by first | decide | omega), m57⟩
      have q46 : ¬ (a2 < 2147483648) := q46
      refine x_iload (np := 6) (x := 0) (by decide +kernel) rfl la2 ?_
      refine x_iload (np := 7) (x := 2) (by decide +kernel) rfl (by decide) ?_
      refine x_icmp (k := 4) (tg := 14) (np := 10) (by decide +kernel) (by decide) la2 (by decide) (fun q59 => ?_) (fun q60 => ?_)
      · have q59 : 2147493647 < a2 := q59
        refine x_const (np := 15) (x := 9223372039002259456) (a := 2147483648) (by decide +kernel) (by decide) (by decide) ?_
        refine x_retI (np := 16) (x := 0) (by decide +kernel) (by decide) (Or.inr ⟨by decide +kernel, by first | decide | omega, by first | decide | omega⟩) ⟨_, rfl, (by decide), ?_⟩
        refine x_ifz (k := 1) (tg := 34) (np := 30) (by decide +kernel) (by decide) (by decide) (fun q61 => ?_) (fun q62 => ?_)
        · have q61 : 2147483648 ≠ 2147483648 := q61
          exfalso; omega
        have q62 : ¬ (2147483648 ≠ 2147483648) := q62
        refine x_const (np := 31) (x := 9223372043297226753) (a := 2147483649) (by decide +kernel) (by decide) (by decide) ?_
        refine x_goto (np := 34) (x := 35) (by decide +kernel) ?_
        refine x_const (np := 36) (x := 9223372047592194050) (a := 2147483650) (by decide +kernel) (by decide) (by decide) ?_
        refine x_nI (t := 6) (mj := 152) (n := 3) (rc := 12) (ml := 3) (nr := 0) (np := 39) (as := [x_r 75, iv_c 2147483649, iv_c 2147483650]) (rest := []) (lo1 := [x_r 75, iv_c 2147483649, iv_c 2147483650]) (by decide +kernel) (by decide) (by decide +kernel) (x_rb_of (by decide +kernel)) rfl rfl (x_wr (by decide) (x_wi (by decide) (x_wi (by decide) x_wn))) x_wn (by decide) rfl ?_
        refine x_iload (np := 1) (x := 1) (by decide +kernel) rfl (by decide) ?_
        refine x_ifz (k := 0) (tg := 9) (np := 4) (by decide +kernel) (by decide) (by decide) (fun q63 => ?_) (fun q64 => ?_)
        · have q63 : 2147483649 = 2147483648 := q63
          exfalso; omega
        have q64 : ¬ (2147483649 = 2147483648) := q64
        refine x_aload (np := 5) (x := 0) (by decide +kernel) rfl (x_nc_le (by decide)) ?_
        refine x_iload (np := 6) (x := 2) (by decide +kernel) rfl (by decide) ?_
        refine x_putI (np := 9) (x := 704) (f := 0) (by decide +kernel) (by decide +kernel) (by decide) (Or.inl (by decide)) ?_
        have j66 := jU (e := 0) (v := 2147483650) 0 j2 rg_75_0_0_1 (by first | decide | omega) (by first | decide | omega) (by first | decide | omega)
        have f68 := jF (e := 0) (v := 2147483650) 0 f4 rg_75_0_0_1 (by first | decide | omega) (by first | decide | omega) (by decide)
        generalize e67 : x_up h1 75 0 2147483650 = h65 at j66 f68 ⊢
        refine x_iload (np := 10) (x := 1) (by decide +kernel) rfl (by decide) ?_
        refine x_retI (np := 11) (x := 0) (by decide +kernel) (by decide) (Or.inr ⟨by decide +kernel, by first | decide | omega, by first | decide | omega⟩) ⟨_, rfl, (by decide), ?_⟩
        refine x_ifz (k := 0) (tg := 44) (np := 42) (by decide +kernel) (by decide) (by decide) (fun q69 => ?_) (fun q70 => ?_)
        · have q69 : 2147483649 = 2147483648 := q69
          exfalso; omega
        have q70 : ¬ (2147483649 = 2147483648) := q70
        refine x_const (np := 43) (x := 9223372039002259456) (a := 2147483648) (by decide +kernel) (by decide) (by decide) ?_
        have m72 : WT 76 h1 := by rw [← e3]; exact WT.oth hW hJ (by decide)
        have m71 : WT 76 h65 := by rw [← e67]; exact WT.oth m72 j2 (by decide)
        refine x_retI (np := 44) (x := 0) (by decide +kernel) (by decide) (Or.inl (by decide +kernel)) ⟨_, rfl, (by decide), ?_⟩
        exact ⟨j66, f68, (by first | decide | omega), m71⟩
      have q60 : ¬ (2147493647 < a2) := q60
      refine x_const (np := 11) (x := 9223372043297226753) (a := 2147483649) (by decide +kernel) (by decide) (by decide) ?_
      refine x_goto (np := 14) (x := 15) (by decide +kernel) ?_
      refine x_retI (np := 16) (x := 0) (by decide +kernel) (by decide) (Or.inr ⟨by decide +kernel, by first | decide | omega, by first | decide | omega⟩) ⟨_, rfl, (by decide), ?_⟩
      refine x_ifz (k := 1) (tg := 34) (np := 30) (by decide +kernel) (by decide) (by decide) (fun q73 => ?_) (fun q74 => ?_)
      · have q73 : 2147483649 ≠ 2147483648 := q73
        refine x_const (np := 35) (x := 9223372039002259456) (a := 2147483648) (by decide +kernel) (by decide) (by decide) ?_
        refine x_const (np := 36) (x := 9223372047592194050) (a := 2147483650) (by decide +kernel) (by decide) (by decide) ?_
        refine x_nI (t := 6) (mj := 152) (n := 3) (rc := 12) (ml := 3) (nr := 0) (np := 39) (as := [x_r 75, iv_c 2147483648, iv_c 2147483650]) (rest := []) (lo1 := [x_r 75, iv_c 2147483648, iv_c 2147483650]) (by decide +kernel) (by decide) (by decide +kernel) (x_rb_of (by decide +kernel)) rfl rfl (x_wr (by decide) (x_wi (by decide) (x_wi (by decide) x_wn))) x_wn (by decide) rfl ?_
        refine x_iload (np := 1) (x := 1) (by decide +kernel) rfl (by decide) ?_
        refine x_ifz (k := 0) (tg := 9) (np := 4) (by decide +kernel) (by decide) (by decide) (fun q75 => ?_) (fun q76 => ?_)
        · have q75 : 2147483648 = 2147483648 := q75
          refine x_iload (np := 10) (x := 1) (by decide +kernel) rfl (by decide) ?_
          refine x_retI (np := 11) (x := 0) (by decide +kernel) (by decide) (Or.inr ⟨by decide +kernel, by first | decide | omega, by first | decide | omega⟩) ⟨_, rfl, (by decide), ?_⟩
          refine x_ifz (k := 0) (tg := 44) (np := 42) (by decide +kernel) (by decide) (by decide) (fun q77 => ?_) (fun q78 => ?_)
          · have q77 : 2147483648 = 2147483648 := q77
            refine x_aload (np := 45) (x := 0) (by decide +kernel) rfl (x_nc_le (by decide)) ?_
            have q79 : h1 75 1 = 76 := by have z := jB (e := 1) 0 j2 rg_75_1_0_1 (by decide) (by decide); omega
            refine x_getR (np := 48) (x := 705) (f := 1) (q := 76) (by decide +kernel) (by decide) (by decide +kernel) q79 ?_
            refine x_const (np := 50) (x := 9223372099131801614) (a := 2147483662) (by decide +kernel) (by decide) (by decide) ?_
            refine x_iload (np := 51) (x := 1) (by decide +kernel) rfl la1 ?_
            refine x_iadd (np := 52) (x := 0) (v := (14 + a1)) (by decide +kernel) (by decide) la1 (by first | decide | omega) (by first | decide | omega) ?_
            obtain ⟨u80, q81⟩ : ∃ z, a1 = 2147483648 + z := ⟨a1 - 2147483648, by first | decide | omega⟩
            have q82 : h1 76 (14 + u80) = h 76 (14 + u80) := by rw [← e3]; exact x_up_k (by decide)
            refine x_aldC (np := 53) (x := 0) (n := 1952) (i := (14 + u80)) (q := (h 76 (14 + u80))) (by decide +kernel) (by decide +kernel) (by first | decide | omega) (by first | decide | omega) (by decide) q82 (fun l83 => ?_)
            refine x_istore (np := 54) (x := 3) (lo' := [x_r 75, iv_c a1, iv_c a2, iv_c (h 76 (14 + u80))]) (by decide +kernel) l83 (Nat.le_of_ble_eq_true rfl) rfl ?_
            refine x_aload (np := 55) (x := 0) (by decide +kernel) rfl (x_nc_le (by decide)) ?_
            have q84 : h1 75 1 = 76 := by have z := jB (e := 1) 0 j2 rg_75_1_0_1 (by decide) (by decide); omega
            refine x_getR (np := 58) (x := 705) (f := 1) (q := 76) (by decide +kernel) (by decide) (by decide +kernel) q84 ?_
            refine x_const (np := 60) (x := 9223372099131801614) (a := 2147483662) (by decide +kernel) (by decide) (by decide) ?_
            refine x_iload (np := 61) (x := 1) (by decide +kernel) rfl la1 ?_
            refine x_iadd (np := 62) (x := 0) (v := (14 + a1)) (by decide +kernel) (by decide) la1 (by first | decide | omega) (by first | decide | omega) ?_
            refine x_iload (np := 63) (x := 2) (by decide +kernel) rfl la2 ?_
            refine x_ast (np := 64) (x := 0) (kd := 1) (n := 1952) (i := (14 + u80)) (by decide +kernel) (Or.inl rfl) (by decide +kernel) (by first | decide | omega) (by first | decide | omega) (by decide) la2 (fun z => absurd z (by decide)) ?_
            have j86 := jU (e := (14 + u80)) (v := a2) u80 j2 rg_76_14_1_6 (by first | decide | omega) (by first | decide | omega) (by first | decide | omega)
            have f88 := jF (e := (14 + u80)) (v := a2) u80 f4 rg_76_14_1_6 (by first | decide | omega) (by first | decide | omega) (by decide)
            generalize e87 : x_up h1 76 (14 + u80) a2 = h85 at j86 f88 ⊢
            refine x_iload (np := 65) (x := 3) (by decide +kernel) rfl l83 ?_
            have m90 : WT 76 h1 := by rw [← e3]; exact WT.oth hW hJ (by decide)
            have m89 : WT 76 h85 := by rw [← e87]; exact WT.up m90 j2 (by first | decide | omega)
            refine x_retI (np := 66) (x := 0) (by decide +kernel) l83 (Or.inl (by decide +kernel)) ⟨_, rfl, l83, ?_⟩
            exact ⟨j86, f88, (by first | decide | omega), m89⟩
          have q78 : ¬ (2147483648 = 2147483648) := q78
          exfalso; omega
        have q76 : ¬ (2147483648 = 2147483648) := q76
        exfalso; omega
      have q74 : ¬ (2147483649 ≠ 2147483648) := q74
      exfalso; omega
    have q42 : ¬ (2147483648 = 2147483648) := q42
    exfalso; omega
  have q40 : ¬ (2147483649 ≠ 2147483648) := q40
  exfalso; omega
