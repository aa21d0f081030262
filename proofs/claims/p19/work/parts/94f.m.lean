/-! ===== methods ===== -/
set_option maxHeartbeats 0 in
/-- LentNamesModel.readDebt()Z -/
theorem c184_75 {sc : Nat × Nat} {d  : Nat} {h : xh} (hJ : J h) (hC : Cl h) : X sc 184 (d + 6) (xI fun r h' => J h' ∧ Fr 273678337 h h' ∧ (2147483648 ≤ r ∧ r ≤ 2147483649) ∧ (r = 2147483649 → Cl h')) 0 0 0 [x_r 75, 147573952589676412928] [] h := by
  have hF := Fr.refl 273678337 h
  refine x_aload (np := 1) (x := 0) (by decide +kernel) rfl (x_nc_le (by decide)) ?_
  have q1 : h 75 3 = 78 := by have z := jB (e := 3) 0 hJ rg_75_3_0_1 (by decide) (by decide); omega
  refine x_getR (np := 4) (x := 707) (f := 3) (q := 78) (by decide +kernel) (by decide) (by decide +kernel) q1 ?_
  refine x_const (np := 5) (x := 9223372056182128644) (a := 2147483652) (by decide +kernel) (by decide) (by decide) ?_
  have b2 := jB (e := 4) 0 hJ rg_78_4_0_1 (by omega) (by omega)
  refine x_aldC (np := 6) (x := 0) (n := 290) (i := 4) (q := (h 78 4)) (by decide +kernel) (by decide +kernel) (by omega) (by omega) (by decide) rfl (fun l3 => ?_)
  refine x_const (np := 8) (x := 9223372081951932426) (a := 2147483658) (by decide +kernel) (by decide) (by decide) ?_
  refine x_icmp (k := 1) (tg := 13) (np := 11) (by decide +kernel) (by decide) l3 (by decide) (fun q4 => ?_) (fun q5 => ?_)
  · have q4 : (h 78 4) ≠ 2147483658 := q4
    refine x_const (np := 16) (x := 9223372897995718856) (a := 2147483848) (by decide +kernel) (by decide) (by decide) ?_
    refine x_const (np := 17) (x := 9223372060477095941) (a := 2147483653) (by decide +kernel) (by decide) (by decide) ?_
    refine x_aload (np := 18) (x := 0) (by decide +kernel) rfl (x_nc_le (by decide)) ?_
    have q6 : h 75 3 = 78 := by have z := jB (e := 3) 0 hJ rg_75_3_0_1 (by decide) (by decide); omega
    refine x_getR (np := 21) (x := 707) (f := 3) (q := 78) (by decide +kernel) (by decide) (by decide +kernel) q6 ?_
    refine x_const (np := 22) (x := 9223372056182128644) (a := 2147483652) (by decide +kernel) (by decide) (by decide) ?_
    refine x_aldC (np := 23) (x := 0) (n := 290) (i := 4) (q := (h 78 4)) (by decide +kernel) (by decide +kernel) (by omega) (by omega) (by decide) rfl (fun l7 => ?_)
    obtain ⟨u8, q9⟩ : ∃ z, (h 78 4) = 2147483648 + z := ⟨(h 78 4) - 2147483648, by omega⟩
    refine x_imul (np := 24) (x := 0) (i := 5) (j := u8) (v := (2147483648 + 5 * u8)) (by decide +kernel) (by omega) (by omega) (by omega) (by omega) (by decide) l3 ?_
    refine x_iadd (np := 25) (x := 0) (v := (2147483848 + 5 * u8)) (by decide +kernel) (by decide) (by omega) (by omega) (by omega) ?_
    refine x_istore (np := 26) (x := 1) (lo' := [x_r 75, iv_c (2147483848 + 5 * u8)]) (by decide +kernel) (by omega) (Nat.le_of_ble_eq_true rfl) rfl ?_
    refine x_aload (np := 27) (x := 0) (by decide +kernel) rfl (x_nc_le (by decide)) ?_
    refine x_cV (t := 6) (mj := 169) (n := 1) (rc := 12) (ml := 1) (nr := 0) (np := 30) (as := [x_r 75]) (rest := []) (lo1 := [x_r 75]) (by decide +kernel) (by decide) (by decide +kernel) (x_rb_of (by decide +kernel)) rfl rfl (x_wr (by decide) x_wn) x_wn (by decide) rfl (c169_75 hJ ) (fun h14 q13 => ?_)
    obtain ⟨j15, f16, c19, c20⟩ := q13
    have f21 := Fr.trans hF f16 (by decide)
    have b22 := jB (e := 7) 0 hJ rg_75_7_0_1 (by omega) (by omega)
    have b23 := jB (e := 9) 0 j15 rg_75_9_0_1 (by omega) (by omega)
    have b24 := jB (e := 7) 0 j15 rg_75_7_0_1 (by omega) (by omega)
    refine x_aload (np := 31) (x := 0) (by decide +kernel) rfl (x_nc_le (by decide)) ?_
    have q25 : h14 75 3 = 78 := by have z := jB (e := 3) 0 j15 rg_75_3_0_1 (by decide) (by decide); omega
    refine x_getR (np := 34) (x := 707) (f := 3) (q := 78) (by decide +kernel) (by decide) (by decide +kernel) q25 ?_
    refine x_iload (np := 35) (x := 1) (by decide +kernel) rfl (by omega) ?_
    refine x_aload (np := 36) (x := 0) (by decide +kernel) rfl (x_nc_le (by decide)) ?_
    refine x_ldcB (i := 10) (idx := 169) (tx := "name") (by rw [tb_y184]; exact List.mem_of_getElem? (i := 48) rfl) (by decide) (by rw [tb_b184]; decide +kernel) ?_
    refine x_cP (t := 6) (mj := 170) (n := 2) (rc := 12) (ml := 4) (nr := 2) (np := 41) (as := [x_r 75, x_b (10 + 1)]) (rest := [iv_c (2147483848 + 5 * u8), x_r 78]) (lo1 := [x_r 75, x_b (10 + 1), 147573952589676412928, 147573952589676412928]) (by decide +kernel) (by decide) (by decide +kernel) (x_rb_of (by decide +kernel)) rfl rfl (x_wr (by decide) (x_wB (by decide) x_wn)) (x_wi (by omega) (x_wr (by decide) x_wn)) (by decide) rfl (c170_75_S0 j15  (by decide)) (fun v26 l27 q28 => ?_)
    obtain ⟨b30, c29⟩ := q28
    have b31 : iv_tl 10 = 4 := by decide
    refine x_ifz (k := 0) (tg := 48) (np := 44) (by decide +kernel) (by decide) l27 (fun q32 => ?_) (fun q33 => ?_)
    · have q32 : v26 = 2147483648 := q32
      refine x_const (np := 49) (x := 9223372039002259456) (a := 2147483648) (by decide +kernel) (by decide) (by decide) ?_
      refine x_ast (np := 50) (x := 0) (kd := 1) (n := 290) (i := (200 + 5 * u8)) (by decide +kernel) (Or.inl rfl) (by decide +kernel) (by omega) (by omega) (by decide) (by decide) (fun z => absurd z (by decide)) ?_
      have j35 := jU (e := (200 + 5 * u8)) (v := 2147483648) u8 j15 rg_78_200_5_10 (by omega) (by omega) (by omega)
      have f37 := jF (e := (200 + 5 * u8)) (v := 2147483648) u8 f21 rg_78_200_5_10 (by omega) (by omega) (by decide)
      generalize e36 : x_up h14 78 (200 + 5 * u8) 2147483648 = h34 at j35 f37 ⊢
      refine x_aload (np := 51) (x := 0) (by decide +kernel) rfl (x_nc_le (by decide)) ?_
      have q38 : h34 75 3 = 78 := by have z := jB (e := 3) 0 j35 rg_75_3_0_1 (by decide) (by decide); omega
      refine x_getR (np := 54) (x := 707) (f := 3) (q := 78) (by decide +kernel) (by decide) (by decide +kernel) q38 ?_
      refine x_iload (np := 55) (x := 1) (by decide +kernel) rfl (by omega) ?_
      have q39 : h34 78 (200 + 5 * u8) = 2147483648 := by rw [← e36]; exact x_up_at
      refine x_aldC (np := 56) (x := 0) (n := 290) (i := (200 + 5 * u8)) (q := 2147483648) (by decide +kernel) (by decide +kernel) (by omega) (by omega) (by decide) q39 (fun l40 => ?_)
      refine x_ifz (k := 1) (tg := 70) (np := 59) (by decide +kernel) (by decide) (by decide) (fun q41 => ?_) (fun q42 => ?_)
      · have q41 : 2147483648 ≠ 2147483648 := q41
        exfalso; omega
      have q42 : ¬ (2147483648 ≠ 2147483648) := q42
      refine x_aload (np := 60) (x := 0) (by decide +kernel) rfl (x_nc_le (by decide)) ?_
      refine x_ldcB (i := 9) (idx := 171) (tx := "body") (by rw [tb_y184]; exact List.mem_of_getElem? (i := 49) rfl) (by decide) (by rw [tb_b184]; decide +kernel) ?_
      refine x_cP (t := 6) (mj := 170) (n := 2) (rc := 12) (ml := 4) (nr := 0) (np := 65) (as := [x_r 75, x_b (9 + 1)]) (rest := []) (lo1 := [x_r 75, x_b (9 + 1), 147573952589676412928, 147573952589676412928]) (by decide +kernel) (by decide) (by decide +kernel) (x_rb_of (by decide +kernel)) rfl rfl (x_wr (by decide) (x_wB (by decide) x_wn)) x_wn (by decide) rfl (c170_75_S0 j35  (by decide)) (fun v43 l44 q45 => ?_)
      obtain ⟨b47, c46⟩ := q45
      have q48 : h34 75 7 = h14 75 7 := by rw [← e36]; exact x_up_k (by decide)
      have q49 : h34 75 9 = h14 75 9 := by rw [← e36]; exact x_up_k (by decide)
      have b50 : iv_tl 9 = 4 := by decide
      refine x_ifz (k := 1) (tg := 70) (np := 68) (by decide +kernel) (by decide) l44 (fun q51 => ?_) (fun q52 => ?_)
      · have q51 : v43 ≠ 2147483648 := q51
        have b53 := c46 (by omega)
        refine x_aload (np := 71) (x := 0) (by decide +kernel) rfl (x_nc_le (by decide)) ?_
        refine x_iload (np := 72) (x := 1) (by decide +kernel) rfl (by omega) ?_
        refine x_const (np := 73) (x := 9223372043297226753) (a := 2147483649) (by decide +kernel) (by decide) (by decide) ?_
        refine x_iadd (np := 74) (x := 0) (v := (2147483849 + 5 * u8)) (by decide +kernel) (by omega) (by decide) (by omega) (by omega) ?_
        refine x_nI (t := 6) (mj := 177) (n := 2) (rc := 12) (ml := 2) (nr := 0) (np := 77) (as := [x_r 75, iv_c (2147483849 + 5 * u8)]) (rest := []) (lo1 := [x_r 75, iv_c (2147483849 + 5 * u8)]) (by decide +kernel) (by decide) (by decide +kernel) (x_rb_of (by decide +kernel)) rfl rfl (x_wr (by decide) (x_wi (by omega) x_wn)) x_wn (by decide) rfl ?_
        refine x_aload (np := 1) (x := 0) (by decide +kernel) rfl (x_nc_le (by decide)) ?_
        refine x_iload (np := 2) (x := 1) (by decide +kernel) rfl (by omega) ?_
        refine x_aload (np := 3) (x := 0) (by decide +kernel) rfl (x_nc_le (by decide)) ?_
        refine x_const (np := 4) (x := 9223372039002259456) (a := 2147483648) (by decide +kernel) (by decide) (by decide) ?_
        refine x_aload (np := 5) (x := 0) (by decide +kernel) rfl (x_nc_le (by decide)) ?_
        refine x_nI (t := 6) (mj := 157) (n := 1) (rc := 12) (ml := 1) (nr := 4) (np := 8) (as := [x_r 75]) (rest := [iv_c 2147483648, x_r 75, iv_c (2147483849 + 5 * u8), x_r 75]) (lo1 := [x_r 75]) (by decide +kernel) (by decide) (by decide +kernel) (x_rb_of (by decide +kernel)) rfl rfl (x_wr (by decide) x_wn) (x_wi (by decide) (x_wr (by decide) (x_wi (by omega) (x_wr (by decide) x_wn)))) (by decide) rfl ?_
        refine x_aload (np := 1) (x := 0) (by decide +kernel) rfl (x_nc_le (by decide)) ?_
        have q54 : h34 75 1 = 76 := by have z := jB (e := 1) 0 j35 rg_75_1_0_1 (by decide) (by decide); omega
        refine x_getR (np := 4) (x := 705) (f := 1) (q := 76) (by decide +kernel) (by decide) (by decide +kernel) q54 ?_
        refine x_const (np := 5) (x := 9223372039002259456) (a := 2147483648) (by decide +kernel) (by decide) (by decide) ?_
        have q55 : h34 76 0 = h14 76 0 := by rw [← e36]; exact x_up_k (by decide)
        have q56 : h14 76 0 = h 76 0 := jK 0 f16 rg_76_0_0_1 (by omega) (by omega) (by decide)
        have b57 := jB (e := 0) 0 hJ rg_76_0_0_1 (by omega) (by omega)
        refine x_aldC (np := 6) (x := 0) (n := 1952) (i := 0) (q := (h 76 0)) (by decide +kernel) (by decide +kernel) (by omega) (by omega) (by decide) (q55.trans q56) (fun l58 => ?_)
        refine x_retI (np := 7) (x := 0) (by decide +kernel) l58 (Or.inl (by decide +kernel)) ⟨_, rfl, l58, ?_⟩
        refine x_const (np := 9) (x := 9223372043297226753) (a := 2147483649) (by decide +kernel) (by decide) (by decide) ?_
        obtain ⟨v59, q60⟩ : ∃ z, z + 2147483649 = (h 76 0) + 2147483648 := ⟨(h 76 0) + 2147483648 - 2147483649, by omega⟩
        refine x_isub (np := 10) (x := 0) (v := v59) (by decide +kernel) l58 (by decide) (by omega) (by omega) ?_
        refine x_cI (t := 6) (mj := 174) (n := 3) (rc := 12) (ml := 4) (nr := 2) (np := 13) (as := [x_r 75, iv_c 2147483648, iv_c v59]) (rest := [iv_c (2147483849 + 5 * u8), x_r 75]) (lo1 := [x_r 75, iv_c 2147483648, iv_c v59, 147573952589676412928]) (by decide +kernel) (by decide) (by decide +kernel) (x_rb_of (by decide +kernel)) rfl rfl (x_wr (by decide) (x_wi (by decide) (x_wi (by omega) x_wn))) (x_wi (by omega) (x_wr (by decide) x_wn)) (by decide) rfl (c174_75 j35  (by omega) (by omega)) (fun v61 h64 l62 q63 => ?_)
        obtain ⟨j65, f66, b67, c68, c69, c70, c71, c72⟩ := q63
        have f73 := Fr.trans f37 f66 (by decide)
        have q74 : h34 75 7 = h14 75 7 := by rw [← e36]; exact x_up_k (by decide)
        have b75 := jB (e := 7) 0 j65 rg_75_7_0_1 (by omega) (by omega)
        have q76 : h34 75 7 = h14 75 7 := by rw [← e36]; exact x_up_k (by decide)
        have b77 := c72 (by omega)
        refine x_nI (t := 6) (mj := 176) (n := 3) (rc := 12) (ml := 3) (nr := 0) (np := 16) (as := [x_r 75, iv_c (2147483849 + 5 * u8), iv_c v61]) (rest := []) (lo1 := [x_r 75, iv_c (2147483849 + 5 * u8), iv_c v61]) (by decide +kernel) (by decide) (by decide +kernel) (x_rb_of (by decide +kernel)) rfl rfl (x_wr (by decide) (x_wi (by omega) (x_wi l62 x_wn))) x_wn (by decide) rfl ?_
        refine x_aload (np := 1) (x := 0) (by decide +kernel) rfl (x_nc_le (by decide)) ?_
        have q78 : h64 75 3 = 78 := by have z := jB (e := 3) 0 j65 rg_75_3_0_1 (by decide) (by decide); omega
        refine x_getR (np := 4) (x := 707) (f := 3) (q := 78) (by decide +kernel) (by decide) (by decide +kernel) q78 ?_
        refine x_iload (np := 5) (x := 1) (by decide +kernel) rfl (by omega) ?_
        refine x_iload (np := 6) (x := 2) (by decide +kernel) rfl l62 ?_
        refine x_ast (np := 7) (x := 0) (kd := 1) (n := 290) (i := (201 + 5 * u8)) (by decide +kernel) (Or.inl rfl) (by decide +kernel) (by omega) (by omega) (by decide) l62 (fun z => absurd z (by decide)) ?_
        have j80 := jU (e := (201 + 5 * u8)) (v := v61) u8 j65 rg_78_201_5_10 (by omega) (by omega) (by omega)
        have f82 := jF (e := (201 + 5 * u8)) (v := v61) u8 f73 rg_78_201_5_10 (by omega) (by omega) (by decide)
        generalize e81 : x_up h64 78 (201 + 5 * u8) v61 = h79 at j80 f82 ⊢
        refine x_iload (np := 8) (x := 2) (by decide +kernel) rfl l62 ?_
        refine x_ifz (k := 2) (tg := 15) (np := 11) (by decide +kernel) (by decide) l62 (fun q83 => ?_) (fun q84 => ?_)
        · have q83 : v61 < 2147483648 := q83
          refine x_const (np := 16) (x := 9223372039002259456) (a := 2147483648) (by decide +kernel) (by decide) (by decide) ?_
          refine x_retI (np := 17) (x := 0) (by decide +kernel) (by decide) (Or.inr ⟨by decide +kernel, by omega, by omega⟩) ⟨_, rfl, (by decide), ?_⟩
          refine x_retI (np := 17) (x := 0) (by decide +kernel) (by decide) (Or.inr ⟨by decide +kernel, by omega, by omega⟩) ⟨_, rfl, (by decide), ?_⟩
          refine x_ifz (k := 0) (tg := 154) (np := 80) (by decide +kernel) (by decide) (by decide) (fun q85 => ?_) (fun q86 => ?_)
          · have q85 : 2147483648 = 2147483648 := q85
            refine x_const (np := 155) (x := 9223372039002259456) (a := 2147483648) (by decide +kernel) (by decide) (by decide) ?_
            refine x_retI (np := 156) (x := 0) (by decide +kernel) (by decide) (Or.inr ⟨by decide +kernel, by omega, by omega⟩) ⟨_, rfl, (by decide), ?_⟩
            exact ⟨j80, f82, (by omega), (fun z => absurd z (by omega))⟩
          have q86 : ¬ (2147483648 = 2147483648) := q86
          exfalso; omega
        have q84 : ¬ (v61 < 2147483648) := q84
        have b87 := c69 (by omega)
        have b88 := c70 (by omega)
        have b89 := c71 (by omega)
        refine x_const (np := 12) (x := 9223372043297226753) (a := 2147483649) (by decide +kernel) (by decide) (by decide) ?_
        refine x_goto (np := 15) (x := 16) (by decide +kernel) ?_
        refine x_retI (np := 17) (x := 0) (by decide +kernel) (by decide) (Or.inr ⟨by decide +kernel, by omega, by omega⟩) ⟨_, rfl, (by decide), ?_⟩
        refine x_retI (np := 17) (x := 0) (by decide +kernel) (by decide) (Or.inr ⟨by decide +kernel, by omega, by omega⟩) ⟨_, rfl, (by decide), ?_⟩
        refine x_ifz (k := 0) (tg := 154) (np := 80) (by decide +kernel) (by decide) (by decide) (fun q90 => ?_) (fun q91 => ?_)
        · have q90 : 2147483649 = 2147483648 := q90
          exfalso; omega
        have q91 : ¬ (2147483649 = 2147483648) := q91
        refine x_aload (np := 81) (x := 0) (by decide +kernel) rfl (x_nc_le (by decide)) ?_
        refine x_ldcB (i := 2) (idx := 147) (tx := "day") (by rw [tb_y184]; exact List.mem_of_getElem? (i := 37) rfl) (by decide) (by rw [tb_b184]; decide +kernel) ?_
        refine x_cI (t := 6) (mj := 172) (n := 2) (rc := 12) (ml := 2) (nr := 0) (np := 86) (as := [x_r 75, x_b (2 + 1)]) (rest := []) (lo1 := [x_r 75, x_b (2 + 1)]) (by decide +kernel) (by decide) (by decide +kernel) (x_rb_of (by decide +kernel)) rfl rfl (x_wr (by decide) (x_wB (by decide) x_wn)) x_wn (by decide) rfl (c172_75_S0 j80  (by decide)) (fun v92 h95 l93 q94 => ?_)
        obtain ⟨j96, f97, b98, c99, c100⟩ := q94
        have f101 := Fr.trans f82 f97 (by decide)
        have q102 : h79 75 7 = h64 75 7 := by rw [← e81]; exact x_up_k (by decide)
        have b103 := jB (e := 7) 0 j96 rg_75_7_0_1 (by omega) (by omega)
        have q104 : h79 75 7 = h64 75 7 := by rw [← e81]; exact x_up_k (by decide)
        refine x_ifz (k := 0) (tg := 154) (np := 89) (by decide +kernel) (by decide) l93 (fun q105 => ?_) (fun q106 => ?_)
        · have q105 : v92 = 2147483648 := q105
          refine x_const (np := 155) (x := 9223372039002259456) (a := 2147483648) (by decide +kernel) (by decide) (by decide) ?_
          refine x_retI (np := 156) (x := 0) (by decide +kernel) (by decide) (Or.inr ⟨by decide +kernel, by omega, by omega⟩) ⟨_, rfl, (by decide), ?_⟩
          exact ⟨j96, f101, (by omega), (fun z => absurd z (by omega))⟩
        have q106 : ¬ (v92 = 2147483648) := q106
        have b107 := c100 (by omega)
        refine x_aload (np := 90) (x := 0) (by decide +kernel) rfl (x_nc_le (by decide)) ?_
        refine x_iload (np := 91) (x := 1) (by decide +kernel) rfl (by omega) ?_
        refine x_const (np := 92) (x := 9223372047592194050) (a := 2147483650) (by decide +kernel) (by decide) (by decide) ?_
        refine x_iadd (np := 93) (x := 0) (v := (2147483850 + 5 * u8)) (by decide +kernel) (by omega) (by decide) (by omega) (by omega) ?_
        refine x_const (np := 94) (x := 9223372039002259456) (a := 2147483648) (by decide +kernel) (by decide) (by decide) ?_
        refine x_nI (t := 6) (mj := 178) (n := 3) (rc := 12) (ml := 3) (nr := 0) (np := 97) (as := [x_r 75, iv_c (2147483850 + 5 * u8), iv_c 2147483648]) (rest := []) (lo1 := [x_r 75, iv_c (2147483850 + 5 * u8), iv_c 2147483648]) (by decide +kernel) (by decide) (by decide +kernel) (x_rb_of (by decide +kernel)) rfl rfl (x_wr (by decide) (x_wi (by omega) (x_wi (by decide) x_wn))) x_wn (by decide) rfl ?_
        refine x_aload (np := 1) (x := 0) (by decide +kernel) rfl (x_nc_le (by decide)) ?_
        refine x_iload (np := 2) (x := 1) (by decide +kernel) rfl (by omega) ?_
        refine x_aload (np := 3) (x := 0) (by decide +kernel) rfl (x_nc_le (by decide)) ?_
        refine x_iload (np := 4) (x := 2) (by decide +kernel) rfl (by decide) ?_
        refine x_const (np := 6) (x := 9223372086246899723) (a := 2147483659) (by decide +kernel) (by decide) (by decide) ?_
        refine x_cI (t := 6) (mj := 174) (n := 3) (rc := 12) (ml := 4) (nr := 2) (np := 9) (as := [x_r 75, iv_c 2147483648, iv_c 2147483659]) (rest := [iv_c (2147483850 + 5 * u8), x_r 75]) (lo1 := [x_r 75, iv_c 2147483648, iv_c 2147483659, 147573952589676412928]) (by decide +kernel) (by decide) (by decide +kernel) (x_rb_of (by decide +kernel)) rfl rfl (x_wr (by decide) (x_wi (by decide) (x_wi (by decide) x_wn))) (x_wi (by omega) (x_wr (by decide) x_wn)) (by decide) rfl (c174_75 j96  (by omega) (by omega)) (fun v108 h111 l109 q110 => ?_)
        obtain ⟨j112, f113, b114, c115, c116, c117, c118, c119⟩ := q110
        have f120 := Fr.trans f101 f113 (by decide)
        have b121 := jB (e := 7) 0 j112 rg_75_7_0_1 (by omega) (by omega)
        have b122 := c119 (by omega)
        refine x_nI (t := 6) (mj := 176) (n := 3) (rc := 12) (ml := 3) (nr := 0) (np := 12) (as := [x_r 75, iv_c (2147483850 + 5 * u8), iv_c v108]) (rest := []) (lo1 := [x_r 75, iv_c (2147483850 + 5 * u8), iv_c v108]) (by decide +kernel) (by decide) (by decide +kernel) (x_rb_of (by decide +kernel)) rfl rfl (x_wr (by decide) (x_wi (by omega) (x_wi l109 x_wn))) x_wn (by decide) rfl ?_
        refine x_aload (np := 1) (x := 0) (by decide +kernel) rfl (x_nc_le (by decide)) ?_
        have q123 : h111 75 3 = 78 := by have z := jB (e := 3) 0 j112 rg_75_3_0_1 (by decide) (by decide); omega
        refine x_getR (np := 4) (x := 707) (f := 3) (q := 78) (by decide +kernel) (by decide) (by decide +kernel) q123 ?_
        refine x_iload (np := 5) (x := 1) (by decide +kernel) rfl (by omega) ?_
        refine x_iload (np := 6) (x := 2) (by decide +kernel) rfl l109 ?_
        refine x_ast (np := 7) (x := 0) (kd := 1) (n := 290) (i := (202 + 5 * u8)) (by decide +kernel) (Or.inl rfl) (by decide +kernel) (by omega) (by omega) (by decide) l109 (fun z => absurd z (by decide)) ?_
        have j125 := jU (e := (202 + 5 * u8)) (v := v108) u8 j112 rg_78_202_5_10 (by omega) (by omega) (by omega)
        have f127 := jF (e := (202 + 5 * u8)) (v := v108) u8 f120 rg_78_202_5_10 (by omega) (by omega) (by decide)
        generalize e126 : x_up h111 78 (202 + 5 * u8) v108 = h124 at j125 f127 ⊢
        refine x_iload (np := 8) (x := 2) (by decide +kernel) rfl l109 ?_
        refine x_ifz (k := 2) (tg := 15) (np := 11) (by decide +kernel) (by decide) l109 (fun q128 => ?_) (fun q129 => ?_)
        · have q128 : v108 < 2147483648 := q128
          refine x_const (np := 16) (x := 9223372039002259456) (a := 2147483648) (by decide +kernel) (by decide) (by decide) ?_
          refine x_retI (np := 17) (x := 0) (by decide +kernel) (by decide) (Or.inr ⟨by decide +kernel, by omega, by omega⟩) ⟨_, rfl, (by decide), ?_⟩
          refine x_retI (np := 13) (x := 0) (by decide +kernel) (by decide) (Or.inr ⟨by decide +kernel, by omega, by omega⟩) ⟨_, rfl, (by decide), ?_⟩
          refine x_ifz (k := 0) (tg := 154) (np := 100) (by decide +kernel) (by decide) (by decide) (fun q130 => ?_) (fun q131 => ?_)
          · have q130 : 2147483648 = 2147483648 := q130
            refine x_const (np := 155) (x := 9223372039002259456) (a := 2147483648) (by decide +kernel) (by decide) (by decide) ?_
            refine x_retI (np := 156) (x := 0) (by decide +kernel) (by decide) (Or.inr ⟨by decide +kernel, by omega, by omega⟩) ⟨_, rfl, (by decide), ?_⟩
            exact ⟨j125, f127, (by omega), (fun z => absurd z (by omega))⟩
          have q131 : ¬ (2147483648 = 2147483648) := q131
          exfalso; omega
        have q129 : ¬ (v108 < 2147483648) := q129
        have b132 := c116 (by omega)
        have b133 := c117 (by omega)
        have b134 := c118 (by omega)
        refine x_const (np := 12) (x := 9223372043297226753) (a := 2147483649) (by decide +kernel) (by decide) (by decide) ?_
        refine x_goto (np := 15) (x := 16) (by decide +kernel) ?_
        refine x_retI (np := 17) (x := 0) (by decide +kernel) (by decide) (Or.inr ⟨by decide +kernel, by omega, by omega⟩) ⟨_, rfl, (by decide), ?_⟩
        refine x_retI (np := 13) (x := 0) (by decide +kernel) (by decide) (Or.inr ⟨by decide +kernel, by omega, by omega⟩) ⟨_, rfl, (by decide), ?_⟩
        refine x_ifz (k := 0) (tg := 154) (np := 100) (by decide +kernel) (by decide) (by decide) (fun q135 => ?_) (fun q136 => ?_)
        · have q135 : 2147483649 = 2147483648 := q135
          exfalso; omega
        have q136 : ¬ (2147483649 = 2147483648) := q136
        refine x_aload (np := 101) (x := 0) (by decide +kernel) rfl (x_nc_le (by decide)) ?_
        refine x_ldcB (i := 11) (idx := 173) (tx := "judged") (by rw [tb_y184]; exact List.mem_of_getElem? (i := 50) rfl) (by decide) (by rw [tb_b184]; decide +kernel) ?_
        refine x_cI (t := 6) (mj := 172) (n := 2) (rc := 12) (ml := 2) (nr := 0) (np := 106) (as := [x_r 75, x_b (11 + 1)]) (rest := []) (lo1 := [x_r 75, x_b (11 + 1)]) (by decide +kernel) (by decide) (by decide +kernel) (x_rb_of (by decide +kernel)) rfl rfl (x_wr (by decide) (x_wB (by decide) x_wn)) x_wn (by decide) rfl (c172_75_S0 j125  (by decide)) (fun v137 h140 l138 q139 => ?_)
        obtain ⟨j141, f142, b143, c144, c145⟩ := q139
        have f146 := Fr.trans f127 f142 (by decide)
        have q147 : h124 75 7 = h111 75 7 := by rw [← e126]; exact x_up_k (by decide)
        have b148 := jB (e := 7) 0 j141 rg_75_7_0_1 (by omega) (by omega)
        have q149 : h124 75 7 = h111 75 7 := by rw [← e126]; exact x_up_k (by decide)
        refine x_ifz (k := 0) (tg := 154) (np := 109) (by decide +kernel) (by decide) l138 (fun q150 => ?_) (fun q151 => ?_)
        · have q150 : v137 = 2147483648 := q150
          refine x_const (np := 155) (x := 9223372039002259456) (a := 2147483648) (by decide +kernel) (by decide) (by decide) ?_
          refine x_retI (np := 156) (x := 0) (by decide +kernel) (by decide) (Or.inr ⟨by decide +kernel, by omega, by omega⟩) ⟨_, rfl, (by decide), ?_⟩
          exact ⟨j141, f146, (by omega), (fun z => absurd z (by omega))⟩
        have q151 : ¬ (v137 = 2147483648) := q151
        have b152 := c145 (by omega)
        refine x_aload (np := 110) (x := 0) (by decide +kernel) rfl (x_nc_le (by decide)) ?_
        refine x_iload (np := 111) (x := 1) (by decide +kernel) rfl (by omega) ?_
        refine x_const (np := 112) (x := 9223372051887161347) (a := 2147483651) (by decide +kernel) (by decide) (by decide) ?_
        refine x_iadd (np := 113) (x := 0) (v := (2147483851 + 5 * u8)) (by decide +kernel) (by omega) (by decide) (by omega) (by omega) ?_
        refine x_aload (np := 114) (x := 0) (by decide +kernel) rfl (x_nc_le (by decide)) ?_
        have q153 : h140 75 3 = 78 := by have z := jB (e := 3) 0 j141 rg_75_3_0_1 (by decide) (by decide); omega
        refine x_getR (np := 117) (x := 707) (f := 3) (q := 78) (by decide +kernel) (by decide) (by decide +kernel) q153 ?_
        refine x_iload (np := 118) (x := 1) (by decide +kernel) rfl (by omega) ?_
        refine x_const (np := 119) (x := 9223372047592194050) (a := 2147483650) (by decide +kernel) (by decide) (by decide) ?_
        refine x_iadd (np := 120) (x := 0) (v := (2147483850 + 5 * u8)) (by decide +kernel) (by omega) (by decide) (by omega) (by omega) ?_
        have q154 : h140 78 (202 + 5 * u8) = h124 78 (202 + 5 * u8) := jK u8 f142 rg_78_202_5_10 (by omega) (by omega) (by decide)
        have q155 : h124 78 (202 + 5 * u8) = v108 := by rw [← e126]; exact x_up_at
        refine x_aldC (np := 121) (x := 0) (n := 290) (i := (202 + 5 * u8)) (q := v108) (by decide +kernel) (by decide +kernel) (by omega) (by omega) (by decide) (q154.trans q155) (fun l156 => ?_)
        refine x_nI (t := 6) (mj := 178) (n := 3) (rc := 12) (ml := 3) (nr := 0) (np := 124) (as := [x_r 75, iv_c (2147483851 + 5 * u8), iv_c v108]) (rest := []) (lo1 := [x_r 75, iv_c (2147483851 + 5 * u8), iv_c v108]) (by decide +kernel) (by decide) (by decide +kernel) (x_rb_of (by decide +kernel)) rfl rfl (x_wr (by decide) (x_wi (by omega) (x_wi l109 x_wn))) x_wn (by decide) rfl ?_
        refine x_aload (np := 1) (x := 0) (by decide +kernel) rfl (x_nc_le (by decide)) ?_
        refine x_iload (np := 2) (x := 1) (by decide +kernel) rfl (by omega) ?_
        refine x_aload (np := 3) (x := 0) (by decide +kernel) rfl (x_nc_le (by decide)) ?_
        refine x_iload (np := 4) (x := 2) (by decide +kernel) rfl l109 ?_
        refine x_const (np := 6) (x := 9223372086246899723) (a := 2147483659) (by decide +kernel) (by decide) (by decide) ?_
        refine x_cI (t := 6) (mj := 174) (n := 3) (rc := 12) (ml := 4) (nr := 2) (np := 9) (as := [x_r 75, iv_c v108, iv_c 2147483659]) (rest := [iv_c (2147483851 + 5 * u8), x_r 75]) (lo1 := [x_r 75, iv_c v108, iv_c 2147483659, 147573952589676412928]) (by decide +kernel) (by decide) (by decide +kernel) (x_rb_of (by decide +kernel)) rfl rfl (x_wr (by decide) (x_wi l109 (x_wi (by decide) x_wn))) (x_wi (by omega) (x_wr (by decide) x_wn)) (by decide) rfl (c174_75 j141  (by omega) (by omega)) (fun v157 h160 l158 q159 => ?_)
        obtain ⟨j161, f162, b163, c164, c165, c166, c167, c168⟩ := q159
        have f169 := Fr.trans f146 f162 (by decide)
        have b170 := jB (e := 7) 0 j161 rg_75_7_0_1 (by omega) (by omega)
        have b171 := c168 (by omega)
        refine x_nI (t := 6) (mj := 176) (n := 3) (rc := 12) (ml := 3) (nr := 0) (np := 12) (as := [x_r 75, iv_c (2147483851 + 5 * u8), iv_c v157]) (rest := []) (lo1 := [x_r 75, iv_c (2147483851 + 5 * u8), iv_c v157]) (by decide +kernel) (by decide) (by decide +kernel) (x_rb_of (by decide +kernel)) rfl rfl (x_wr (by decide) (x_wi (by omega) (x_wi l158 x_wn))) x_wn (by decide) rfl ?_
        refine x_aload (np := 1) (x := 0) (by decide +kernel) rfl (x_nc_le (by decide)) ?_
        have q172 : h160 75 3 = 78 := by have z := jB (e := 3) 0 j161 rg_75_3_0_1 (by decide) (by decide); omega
        refine x_getR (np := 4) (x := 707) (f := 3) (q := 78) (by decide +kernel) (by decide) (by decide +kernel) q172 ?_
        refine x_iload (np := 5) (x := 1) (by decide +kernel) rfl (by omega) ?_
        refine x_iload (np := 6) (x := 2) (by decide +kernel) rfl l158 ?_
        refine x_ast (np := 7) (x := 0) (kd := 1) (n := 290) (i := (203 + 5 * u8)) (by decide +kernel) (Or.inl rfl) (by decide +kernel) (by omega) (by omega) (by decide) l158 (fun z => absurd z (by decide)) ?_
        have j174 := jU (e := (203 + 5 * u8)) (v := v157) u8 j161 rg_78_203_5_10 (by omega) (by omega) (by omega)
        have f176 := jF (e := (203 + 5 * u8)) (v := v157) u8 f169 rg_78_203_5_10 (by omega) (by omega) (by decide)
        generalize e175 : x_up h160 78 (203 + 5 * u8) v157 = h173 at j174 f176 ⊢
        refine x_iload (np := 8) (x := 2) (by decide +kernel) rfl l158 ?_
        refine x_ifz (k := 2) (tg := 15) (np := 11) (by decide +kernel) (by decide) l158 (fun q177 => ?_) (fun q178 => ?_)
        · have q177 : v157 < 2147483648 := q177
          refine x_const (np := 16) (x := 9223372039002259456) (a := 2147483648) (by decide +kernel) (by decide) (by decide) ?_
          refine x_retI (np := 17) (x := 0) (by decide +kernel) (by decide) (Or.inr ⟨by decide +kernel, by omega, by omega⟩) ⟨_, rfl, (by decide), ?_⟩
          refine x_retI (np := 13) (x := 0) (by decide +kernel) (by decide) (Or.inr ⟨by decide +kernel, by omega, by omega⟩) ⟨_, rfl, (by decide), ?_⟩
          refine x_ifz (k := 0) (tg := 154) (np := 127) (by decide +kernel) (by decide) (by decide) (fun q179 => ?_) (fun q180 => ?_)
          · have q179 : 2147483648 = 2147483648 := q179
            refine x_const (np := 155) (x := 9223372039002259456) (a := 2147483648) (by decide +kernel) (by decide) (by decide) ?_
            refine x_retI (np := 156) (x := 0) (by decide +kernel) (by decide) (Or.inr ⟨by decide +kernel, by omega, by omega⟩) ⟨_, rfl, (by decide), ?_⟩
            exact ⟨j174, f176, (by omega), (fun z => absurd z (by omega))⟩
          have q180 : ¬ (2147483648 = 2147483648) := q180
          exfalso; omega
        have q178 : ¬ (v157 < 2147483648) := q178
        have b181 := c165 (by omega)
        have b182 := c166 (by omega)
        have b183 := c167 (by omega)
        refine x_const (np := 12) (x := 9223372043297226753) (a := 2147483649) (by decide +kernel) (by decide) (by decide) ?_
        refine x_goto (np := 15) (x := 16) (by decide +kernel) ?_
        refine x_retI (np := 17) (x := 0) (by decide +kernel) (by decide) (Or.inr ⟨by decide +kernel, by omega, by omega⟩) ⟨_, rfl, (by decide), ?_⟩
        refine x_retI (np := 13) (x := 0) (by decide +kernel) (by decide) (Or.inr ⟨by decide +kernel, by omega, by omega⟩) ⟨_, rfl, (by decide), ?_⟩
        refine x_ifz (k := 0) (tg := 154) (np := 127) (by decide +kernel) (by decide) (by decide) (fun q184 => ?_) (fun q185 => ?_)
        · have q184 : 2147483649 = 2147483648 := q184
          exfalso; omega
        have q185 : ¬ (2147483649 = 2147483648) := q185
        refine x_aload (np := 128) (x := 0) (by decide +kernel) rfl (x_nc_le (by decide)) ?_
        refine x_ldcB (i := 12) (idx := 175) (tx := "of") (by rw [tb_y184]; exact List.mem_of_getElem? (i := 51) rfl) (by decide) (by rw [tb_b184]; decide +kernel) ?_
        refine x_cI (t := 6) (mj := 172) (n := 2) (rc := 12) (ml := 2) (nr := 0) (np := 133) (as := [x_r 75, x_b (12 + 1)]) (rest := []) (lo1 := [x_r 75, x_b (12 + 1)]) (by decide +kernel) (by decide) (by decide +kernel) (x_rb_of (by decide +kernel)) rfl rfl (x_wr (by decide) (x_wB (by decide) x_wn)) x_wn (by decide) rfl (c172_75_S0 j174  (by decide)) (fun v186 h189 l187 q188 => ?_)
        obtain ⟨j190, f191, b192, c193, c194⟩ := q188
        have f195 := Fr.trans f176 f191 (by decide)
        have q196 : h173 75 7 = h160 75 7 := by rw [← e175]; exact x_up_k (by decide)
        have b197 := jB (e := 7) 0 j190 rg_75_7_0_1 (by omega) (by omega)
        have q198 : h173 75 7 = h160 75 7 := by rw [← e175]; exact x_up_k (by decide)
        refine x_ifz (k := 0) (tg := 154) (np := 136) (by decide +kernel) (by decide) l187 (fun q199 => ?_) (fun q200 => ?_)
        · have q199 : v186 = 2147483648 := q199
          refine x_const (np := 155) (x := 9223372039002259456) (a := 2147483648) (by decide +kernel) (by decide) (by decide) ?_
          refine x_retI (np := 156) (x := 0) (by decide +kernel) (by decide) (Or.inr ⟨by decide +kernel, by omega, by omega⟩) ⟨_, rfl, (by decide), ?_⟩
          exact ⟨j190, f195, (by omega), (fun z => absurd z (by omega))⟩
        have q200 : ¬ (v186 = 2147483648) := q200
        have b201 := c194 (by omega)
        refine x_aload (np := 137) (x := 0) (by decide +kernel) rfl (x_nc_le (by decide)) ?_
        refine x_iload (np := 138) (x := 1) (by decide +kernel) rfl (by omega) ?_
        refine x_const (np := 139) (x := 9223372056182128644) (a := 2147483652) (by decide +kernel) (by decide) (by decide) ?_
        refine x_iadd (np := 140) (x := 0) (v := (2147483852 + 5 * u8)) (by decide +kernel) (by omega) (by decide) (by omega) (by omega) ?_
        refine x_aload (np := 141) (x := 0) (by decide +kernel) rfl (x_nc_le (by decide)) ?_
        refine x_const (np := 142) (x := 9223372039002259456) (a := 2147483648) (by decide +kernel) (by decide) (by decide) ?_
        refine x_const (np := 145) (x := 9223376329674589159) (a := 2147484647) (by decide +kernel) (by decide) (by decide) ?_
        refine x_cI (t := 6) (mj := 174) (n := 3) (rc := 12) (ml := 4) (nr := 2) (np := 148) (as := [x_r 75, iv_c 2147483648, iv_c 2147484647]) (rest := [iv_c (2147483852 + 5 * u8), x_r 75]) (lo1 := [x_r 75, iv_c 2147483648, iv_c 2147484647, 147573952589676412928]) (by decide +kernel) (by decide) (by decide +kernel) (x_rb_of (by decide +kernel)) rfl rfl (x_wr (by decide) (x_wi (by decide) (x_wi (by decide) x_wn))) (x_wi (by omega) (x_wr (by decide) x_wn)) (by decide) rfl (c174_75 j190  (by omega) (by omega)) (fun v202 h205 l203 q204 => ?_)
        obtain ⟨j206, f207, b208, c209, c210, c211, c212, c213⟩ := q204
        have f214 := Fr.trans f195 f207 (by decide)
        have b215 := jB (e := 7) 0 j206 rg_75_7_0_1 (by omega) (by omega)
        have b216 := c213 (by omega)
        refine x_nI (t := 6) (mj := 176) (n := 3) (rc := 12) (ml := 3) (nr := 0) (np := 151) (as := [x_r 75, iv_c (2147483852 + 5 * u8), iv_c v202]) (rest := []) (lo1 := [x_r 75, iv_c (2147483852 + 5 * u8), iv_c v202]) (by decide +kernel) (by decide) (by decide +kernel) (x_rb_of (by decide +kernel)) rfl rfl (x_wr (by decide) (x_wi (by omega) (x_wi l203 x_wn))) x_wn (by decide) rfl ?_
        refine x_aload (np := 1) (x := 0) (by decide +kernel) rfl (x_nc_le (by decide)) ?_
        have q217 : h205 75 3 = 78 := by have z := jB (e := 3) 0 j206 rg_75_3_0_1 (by decide) (by decide); omega
        refine x_getR (np := 4) (x := 707) (f := 3) (q := 78) (by decide +kernel) (by decide) (by decide +kernel) q217 ?_
        refine x_iload (np := 5) (x := 1) (by decide +kernel) rfl (by omega) ?_
        refine x_iload (np := 6) (x := 2) (by decide +kernel) rfl l203 ?_
        refine x_ast (np := 7) (x := 0) (kd := 1) (n := 290) (i := (204 + 5 * u8)) (by decide +kernel) (Or.inl rfl) (by decide +kernel) (by omega) (by omega) (by decide) l203 (fun z => absurd z (by decide)) ?_
        have j219 := jU (e := (204 + 5 * u8)) (v := v202) u8 j206 rg_78_204_5_10 (by omega) (by omega) (by omega)
        have f221 := jF (e := (204 + 5 * u8)) (v := v202) u8 f214 rg_78_204_5_10 (by omega) (by omega) (by decide)
        generalize e220 : x_up h205 78 (204 + 5 * u8) v202 = h218 at j219 f221 ⊢
        refine x_iload (np := 8) (x := 2) (by decide +kernel) rfl l203 ?_
        refine x_ifz (k := 2) (tg := 15) (np := 11) (by decide +kernel) (by decide) l203 (fun q222 => ?_) (fun q223 => ?_)
        · have q222 : v202 < 2147483648 := q222
          refine x_const (np := 16) (x := 9223372039002259456) (a := 2147483648) (by decide +kernel) (by decide) (by decide) ?_
          refine x_retI (np := 17) (x := 0) (by decide +kernel) (by decide) (Or.inr ⟨by decide +kernel, by omega, by omega⟩) ⟨_, rfl, (by decide), ?_⟩
          refine x_ifz (k := 1) (tg := 156) (np := 154) (by decide +kernel) (by decide) (by decide) (fun q224 => ?_) (fun q225 => ?_)
          · have q224 : 2147483648 ≠ 2147483648 := q224
            exfalso; omega
          have q225 : ¬ (2147483648 ≠ 2147483648) := q225
          refine x_const (np := 155) (x := 9223372039002259456) (a := 2147483648) (by decide +kernel) (by decide) (by decide) ?_
          refine x_retI (np := 156) (x := 0) (by decide +kernel) (by decide) (Or.inr ⟨by decide +kernel, by omega, by omega⟩) ⟨_, rfl, (by decide), ?_⟩
          exact ⟨j219, f221, (by omega), (fun z => absurd z (by omega))⟩
        have q223 : ¬ (v202 < 2147483648) := q223
        have b226 := c210 (by omega)
        have b227 := c211 (by omega)
        have b228 := c212 (by omega)
        refine x_const (np := 12) (x := 9223372043297226753) (a := 2147483649) (by decide +kernel) (by decide) (by decide) ?_
        refine x_goto (np := 15) (x := 16) (by decide +kernel) ?_
        refine x_retI (np := 17) (x := 0) (by decide +kernel) (by decide) (Or.inr ⟨by decide +kernel, by omega, by omega⟩) ⟨_, rfl, (by decide), ?_⟩
        refine x_ifz (k := 1) (tg := 156) (np := 154) (by decide +kernel) (by decide) (by decide) (fun q229 => ?_) (fun q230 => ?_)
        · have q229 : 2147483649 ≠ 2147483648 := q229
          refine x_aload (np := 157) (x := 0) (by decide +kernel) rfl (x_nc_le (by decide)) ?_
          have q231 : h218 75 3 = 78 := by have z := jB (e := 3) 0 j219 rg_75_3_0_1 (by decide) (by decide); omega
          refine x_getR (np := 160) (x := 707) (f := 3) (q := 78) (by decide +kernel) (by decide) (by decide +kernel) q231 ?_
          refine x_const (np := 161) (x := 9223372056182128644) (a := 2147483652) (by decide +kernel) (by decide) (by decide) ?_
          refine x_dup2 (np := 162) (x := 0) (by decide +kernel) (by have z := (iw_c_lt (a := 2147483652) (by decide)).1; omega) (by have z := x_nc_le (k := 78) (by decide); unfold x_r; omega) ?_
          have q232 : h218 78 4 = h205 78 4 := by rw [← e220]; exact x_up_i (by omega)
          have q233 : h205 78 4 = h189 78 4 := jK 0 f207 rg_78_4_0_1 (by omega) (by omega) (by decide)
          have q234 : h189 78 4 = h173 78 4 := jK 0 f191 rg_78_4_0_1 (by omega) (by omega) (by decide)
          have q235 : h173 78 4 = h160 78 4 := by rw [← e175]; exact x_up_i (by omega)
          have q236 : h160 78 4 = h140 78 4 := jK 0 f162 rg_78_4_0_1 (by omega) (by omega) (by decide)
          have q237 : h140 78 4 = h124 78 4 := jK 0 f142 rg_78_4_0_1 (by omega) (by omega) (by decide)
          have q238 : h124 78 4 = h111 78 4 := by rw [← e126]; exact x_up_i (by omega)
          have q239 : h111 78 4 = h95 78 4 := jK 0 f113 rg_78_4_0_1 (by omega) (by omega) (by decide)
          have q240 : h95 78 4 = h79 78 4 := jK 0 f97 rg_78_4_0_1 (by omega) (by omega) (by decide)
          have q241 : h79 78 4 = h64 78 4 := by rw [← e81]; exact x_up_i (by omega)
          have q242 : h64 78 4 = h34 78 4 := jK 0 f66 rg_78_4_0_1 (by omega) (by omega) (by decide)
          have q243 : h34 78 4 = h14 78 4 := by rw [← e36]; exact x_up_i (by omega)
          have q244 : h14 78 4 = h 78 4 := jK 0 f16 rg_78_4_0_1 (by omega) (by omega) (by decide)
          refine x_aldC (np := 163) (x := 0) (n := 290) (i := 4) (q := (h 78 4)) (by decide +kernel) (by decide +kernel) (by omega) (by omega) (by decide) ((((((((((((q232.trans q233).trans q234).trans q235).trans q236).trans q237).trans q238).trans q239).trans q240).trans q241).trans q242).trans q243).trans q244) (fun l245 => ?_)
          refine x_const (np := 164) (x := 9223372043297226753) (a := 2147483649) (by decide +kernel) (by decide) (by decide) ?_
          refine x_iadd (np := 165) (x := 0) (v := (1 + (h 78 4))) (by decide +kernel) l3 (by decide) (by omega) (by omega) ?_
          refine x_ast (np := 166) (x := 0) (kd := 1) (n := 290) (i := 4) (by decide +kernel) (Or.inl rfl) (by decide +kernel) (by omega) (by omega) (by decide) (by omega) (fun z => absurd z (by decide)) ?_
          have j247 := jU (e := 4) (v := (1 + (h 78 4))) 0 j219 rg_78_4_0_1 (by omega) (by omega) (by omega)
          have f249 := jF (e := 4) (v := (1 + (h 78 4))) 0 f221 rg_78_4_0_1 (by omega) (by omega) (by decide)
          generalize e248 : x_up h218 78 4 (1 + (h 78 4)) = h246 at j247 f249 ⊢
          refine x_const (np := 167) (x := 9223372043297226753) (a := 2147483649) (by decide +kernel) (by decide) (by decide) ?_
          have m263 := Cl.fr hC f16 (by decide)
          have m262 : Cl h34 := by rw [← e36]; exact Cl.upR (e := (200 + 5 * u8)) (v := 2147483648) u8 m263 rg_76_200_5_10 (by omega) (by omega) (by omega)
          have m261 := Cl.fr m262 f66 (by decide)
          have m260 : Cl h79 := by rw [← e81]; exact Cl.upR (e := (201 + 5 * u8)) (v := v61) u8 m261 rg_76_201_5_10 (by omega) (by omega) (by omega)
          have m259 := Cl.fr m260 f97 (by decide)
          have m258 := Cl.fr m259 f113 (by decide)
          have m257 : Cl h124 := by rw [← e126]; exact Cl.upR (e := (202 + 5 * u8)) (v := v108) u8 m258 rg_76_202_5_10 (by omega) (by omega) (by omega)
          have m256 := Cl.fr m257 f142 (by decide)
          have m255 := Cl.fr m256 f162 (by decide)
          have m254 : Cl h173 := by rw [← e175]; exact Cl.upR (e := (203 + 5 * u8)) (v := v157) u8 m255 rg_76_203_5_10 (by omega) (by omega) (by omega)
          have m253 := Cl.fr m254 f191 (by decide)
          have m252 := Cl.fr m253 f207 (by decide)
          have m251 : Cl h218 := by rw [← e220]; exact Cl.upR (e := (204 + 5 * u8)) (v := v202) u8 m252 rg_76_204_5_10 (by omega) (by omega) (by omega)
          have m250 : Cl h246 := by rw [← e248]; exact Cl.upR (e := 4) (v := (1 + (h 78 4))) 0 m251 rg_76_4_0_1 (by omega) (by omega) (by omega)
          refine x_retI (np := 168) (x := 0) (by decide +kernel) (by decide) (Or.inr ⟨by decide +kernel, by omega, by omega⟩) ⟨_, rfl, (by decide), ?_⟩
          exact ⟨j247, f249, (by omega), (fun _ => m250)⟩
        have q230 : ¬ (2147483649 ≠ 2147483648) := q230
        exfalso; omega
      have q52 : ¬ (v43 ≠ 2147483648) := q52
      refine x_const (np := 69) (x := 9223372039002259456) (a := 2147483648) (by decide +kernel) (by decide) (by decide) ?_
      refine x_retI (np := 70) (x := 0) (by decide +kernel) (by decide) (Or.inr ⟨by decide +kernel, by omega, by omega⟩) ⟨_, rfl, (by decide), ?_⟩
      exact ⟨j35, f37, (by omega), (fun z => absurd z (by omega))⟩
    have q33 : ¬ (v26 = 2147483648) := q33
    have b264 := c29 (by omega)
    refine x_const (np := 45) (x := 9223372043297226753) (a := 2147483649) (by decide +kernel) (by decide) (by decide) ?_
    refine x_goto (np := 48) (x := 49) (by decide +kernel) ?_
    refine x_ast (np := 50) (x := 0) (kd := 1) (n := 290) (i := (200 + 5 * u8)) (by decide +kernel) (Or.inl rfl) (by decide +kernel) (by omega) (by omega) (by decide) (by decide) (fun z => absurd z (by decide)) ?_
    have j266 := jU (e := (200 + 5 * u8)) (v := 2147483649) u8 j15 rg_78_200_5_10 (by omega) (by omega) (by omega)
    have f268 := jF (e := (200 + 5 * u8)) (v := 2147483649) u8 f21 rg_78_200_5_10 (by omega) (by omega) (by decide)
    generalize e267 : x_up h14 78 (200 + 5 * u8) 2147483649 = h265 at j266 f268 ⊢
    refine x_aload (np := 51) (x := 0) (by decide +kernel) rfl (x_nc_le (by decide)) ?_
    have q269 : h265 75 3 = 78 := by have z := jB (e := 3) 0 j266 rg_75_3_0_1 (by decide) (by decide); omega
    refine x_getR (np := 54) (x := 707) (f := 3) (q := 78) (by decide +kernel) (by decide) (by decide +kernel) q269 ?_
    refine x_iload (np := 55) (x := 1) (by decide +kernel) rfl (by omega) ?_
    have q270 : h265 78 (200 + 5 * u8) = 2147483649 := by rw [← e267]; exact x_up_at
    refine x_aldC (np := 56) (x := 0) (n := 290) (i := (200 + 5 * u8)) (q := 2147483649) (by decide +kernel) (by decide +kernel) (by omega) (by omega) (by decide) q270 (fun l271 => ?_)
    refine x_ifz (k := 1) (tg := 70) (np := 59) (by decide +kernel) (by decide) (by decide) (fun q272 => ?_) (fun q273 => ?_)
    · have q272 : 2147483649 ≠ 2147483648 := q272
      refine x_aload (np := 71) (x := 0) (by decide +kernel) rfl (x_nc_le (by decide)) ?_
      refine x_iload (np := 72) (x := 1) (by decide +kernel) rfl (by omega) ?_
      refine x_const (np := 73) (x := 9223372043297226753) (a := 2147483649) (by decide +kernel) (by decide) (by decide) ?_
      refine x_iadd (np := 74) (x := 0) (v := (2147483849 + 5 * u8)) (by decide +kernel) (by omega) (by decide) (by omega) (by omega) ?_
      refine x_nI (t := 6) (mj := 177) (n := 2) (rc := 12) (ml := 2) (nr := 0) (np := 77) (as := [x_r 75, iv_c (2147483849 + 5 * u8)]) (rest := []) (lo1 := [x_r 75, iv_c (2147483849 + 5 * u8)]) (by decide +kernel) (by decide) (by decide +kernel) (x_rb_of (by decide +kernel)) rfl rfl (x_wr (by decide) (x_wi (by omega) x_wn)) x_wn (by decide) rfl ?_
      refine x_aload (np := 1) (x := 0) (by decide +kernel) rfl (x_nc_le (by decide)) ?_
      refine x_iload (np := 2) (x := 1) (by decide +kernel) rfl (by omega) ?_
      refine x_aload (np := 3) (x := 0) (by decide +kernel) rfl (x_nc_le (by decide)) ?_
      refine x_const (np := 4) (x := 9223372039002259456) (a := 2147483648) (by decide +kernel) (by decide) (by decide) ?_
      refine x_aload (np := 5) (x := 0) (by decide +kernel) rfl (x_nc_le (by decide)) ?_
      refine x_nI (t := 6) (mj := 157) (n := 1) (rc := 12) (ml := 1) (nr := 4) (np := 8) (as := [x_r 75]) (rest := [iv_c 2147483648, x_r 75, iv_c (2147483849 + 5 * u8), x_r 75]) (lo1 := [x_r 75]) (by decide +kernel) (by decide) (by decide +kernel) (x_rb_of (by decide +kernel)) rfl rfl (x_wr (by decide) x_wn) (x_wi (by decide) (x_wr (by decide) (x_wi (by omega) (x_wr (by decide) x_wn)))) (by decide) rfl ?_
      refine x_aload (np := 1) (x := 0) (by decide +kernel) rfl (x_nc_le (by decide)) ?_
      have q274 : h265 75 1 = 76 := by have z := jB (e := 1) 0 j266 rg_75_1_0_1 (by decide) (by decide); omega
      refine x_getR (np := 4) (x := 705) (f := 1) (q := 76) (by decide +kernel) (by decide) (by decide +kernel) q274 ?_
      refine x_const (np := 5) (x := 9223372039002259456) (a := 2147483648) (by decide +kernel) (by decide) (by decide) ?_
      have q275 : h265 76 0 = h14 76 0 := by rw [← e267]; exact x_up_k (by decide)
      have q276 : h14 76 0 = h 76 0 := jK 0 f16 rg_76_0_0_1 (by omega) (by omega) (by decide)
      have b277 := jB (e := 0) 0 hJ rg_76_0_0_1 (by omega) (by omega)
      refine x_aldC (np := 6) (x := 0) (n := 1952) (i := 0) (q := (h 76 0)) (by decide +kernel) (by decide +kernel) (by omega) (by omega) (by decide) (q275.trans q276) (fun l278 => ?_)
      refine x_retI (np := 7) (x := 0) (by decide +kernel) l278 (Or.inl (by decide +kernel)) ⟨_, rfl, l278, ?_⟩
      refine x_const (np := 9) (x := 9223372043297226753) (a := 2147483649) (by decide +kernel) (by decide) (by decide) ?_
      obtain ⟨v279, q280⟩ : ∃ z, z + 2147483649 = (h 76 0) + 2147483648 := ⟨(h 76 0) + 2147483648 - 2147483649, by omega⟩
      refine x_isub (np := 10) (x := 0) (v := v279) (by decide +kernel) l278 (by decide) (by omega) (by omega) ?_
      refine x_cI (t := 6) (mj := 174) (n := 3) (rc := 12) (ml := 4) (nr := 2) (np := 13) (as := [x_r 75, iv_c 2147483648, iv_c v279]) (rest := [iv_c (2147483849 + 5 * u8), x_r 75]) (lo1 := [x_r 75, iv_c 2147483648, iv_c v279, 147573952589676412928]) (by decide +kernel) (by decide) (by decide +kernel) (x_rb_of (by decide +kernel)) rfl rfl (x_wr (by decide) (x_wi (by decide) (x_wi (by omega) x_wn))) (x_wi (by omega) (x_wr (by decide) x_wn)) (by decide) rfl (c174_75 j266  (by omega) (by omega)) (fun v281 h284 l282 q283 => ?_)
      obtain ⟨j285, f286, b287, c288, c289, c290, c291, c292⟩ := q283
      have f293 := Fr.trans f268 f286 (by decide)
      have q294 : h265 75 7 = h14 75 7 := by rw [← e267]; exact x_up_k (by decide)
      have b295 := jB (e := 7) 0 j285 rg_75_7_0_1 (by omega) (by omega)
      have q296 : h265 75 7 = h14 75 7 := by rw [← e267]; exact x_up_k (by decide)
      have b297 := c292 (by omega)
      refine x_nI (t := 6) (mj := 176) (n := 3) (rc := 12) (ml := 3) (nr := 0) (np := 16) (as := [x_r 75, iv_c (2147483849 + 5 * u8), iv_c v281]) (rest := []) (lo1 := [x_r 75, iv_c (2147483849 + 5 * u8), iv_c v281]) (by decide +kernel) (by decide) (by decide +kernel) (x_rb_of (by decide +kernel)) rfl rfl (x_wr (by decide) (x_wi (by omega) (x_wi l282 x_wn))) x_wn (by decide) rfl ?_
      refine x_aload (np := 1) (x := 0) (by decide +kernel) rfl (x_nc_le (by decide)) ?_
      have q298 : h284 75 3 = 78 := by have z := jB (e := 3) 0 j285 rg_75_3_0_1 (by decide) (by decide); omega
      refine x_getR (np := 4) (x := 707) (f := 3) (q := 78) (by decide +kernel) (by decide) (by decide +kernel) q298 ?_
      refine x_iload (np := 5) (x := 1) (by decide +kernel) rfl (by omega) ?_
      refine x_iload (np := 6) (x := 2) (by decide +kernel) rfl l282 ?_
      refine x_ast (np := 7) (x := 0) (kd := 1) (n := 290) (i := (201 + 5 * u8)) (by decide +kernel) (Or.inl rfl) (by decide +kernel) (by omega) (by omega) (by decide) l282 (fun z => absurd z (by decide)) ?_
      have j300 := jU (e := (201 + 5 * u8)) (v := v281) u8 j285 rg_78_201_5_10 (by omega) (by omega) (by omega)
      have f302 := jF (e := (201 + 5 * u8)) (v := v281) u8 f293 rg_78_201_5_10 (by omega) (by omega) (by decide)
      generalize e301 : x_up h284 78 (201 + 5 * u8) v281 = h299 at j300 f302 ⊢
      refine x_iload (np := 8) (x := 2) (by decide +kernel) rfl l282 ?_
      refine x_ifz (k := 2) (tg := 15) (np := 11) (by decide +kernel) (by decide) l282 (fun q303 => ?_) (fun q304 => ?_)
      · have q303 : v281 < 2147483648 := q303
        refine x_const (np := 16) (x := 9223372039002259456) (a := 2147483648) (by decide +kernel) (by decide) (by decide) ?_
        refine x_retI (np := 17) (x := 0) (by decide +kernel) (by decide) (Or.inr ⟨by decide +kernel, by omega, by omega⟩) ⟨_, rfl, (by decide), ?_⟩
        refine x_retI (np := 17) (x := 0) (by decide +kernel) (by decide) (Or.inr ⟨by decide +kernel, by omega, by omega⟩) ⟨_, rfl, (by decide), ?_⟩
        refine x_ifz (k := 0) (tg := 154) (np := 80) (by decide +kernel) (by decide) (by decide) (fun q305 => ?_) (fun q306 => ?_)
        · have q305 : 2147483648 = 2147483648 := q305
          refine x_const (np := 155) (x := 9223372039002259456) (a := 2147483648) (by decide +kernel) (by decide) (by decide) ?_
          refine x_retI (np := 156) (x := 0) (by decide +kernel) (by decide) (Or.inr ⟨by decide +kernel, by omega, by omega⟩) ⟨_, rfl, (by decide), ?_⟩
          exact ⟨j300, f302, (by omega), (fun z => absurd z (by omega))⟩
        have q306 : ¬ (2147483648 = 2147483648) := q306
        exfalso; omega
      have q304 : ¬ (v281 < 2147483648) := q304
      have b307 := c289 (by omega)
      have b308 := c290 (by omega)
      have b309 := c291 (by omega)
      refine x_const (np := 12) (x := 9223372043297226753) (a := 2147483649) (by decide +kernel) (by decide) (by decide) ?_
      refine x_goto (np := 15) (x := 16) (by decide +kernel) ?_
      refine x_retI (np := 17) (x := 0) (by decide +kernel) (by decide) (Or.inr ⟨by decide +kernel, by omega, by omega⟩) ⟨_, rfl, (by decide), ?_⟩
      refine x_retI (np := 17) (x := 0) (by decide +kernel) (by decide) (Or.inr ⟨by decide +kernel, by omega, by omega⟩) ⟨_, rfl, (by decide), ?_⟩
      refine x_ifz (k := 0) (tg := 154) (np := 80) (by decide +kernel) (by decide) (by decide) (fun q310 => ?_) (fun q311 => ?_)
      · have q310 : 2147483649 = 2147483648 := q310
        exfalso; omega
      have q311 : ¬ (2147483649 = 2147483648) := q311
      refine x_aload (np := 81) (x := 0) (by decide +kernel) rfl (x_nc_le (by decide)) ?_
      refine x_ldcB (i := 2) (idx := 147) (tx := "day") (by rw [tb_y184]; exact List.mem_of_getElem? (i := 37) rfl) (by decide) (by rw [tb_b184]; decide +kernel) ?_
      refine x_cI (t := 6) (mj := 172) (n := 2) (rc := 12) (ml := 2) (nr := 0) (np := 86) (as := [x_r 75, x_b (2 + 1)]) (rest := []) (lo1 := [x_r 75, x_b (2 + 1)]) (by decide +kernel) (by decide) (by decide +kernel) (x_rb_of (by decide +kernel)) rfl rfl (x_wr (by decide) (x_wB (by decide) x_wn)) x_wn (by decide) rfl (c172_75_S0 j300  (by decide)) (fun v312 h315 l313 q314 => ?_)
      obtain ⟨j316, f317, b318, c319, c320⟩ := q314
      have f321 := Fr.trans f302 f317 (by decide)
      have q322 : h299 75 7 = h284 75 7 := by rw [← e301]; exact x_up_k (by decide)
      have b323 := jB (e := 7) 0 j316 rg_75_7_0_1 (by omega) (by omega)
      have q324 : h299 75 7 = h284 75 7 := by rw [← e301]; exact x_up_k (by decide)
      refine x_ifz (k := 0) (tg := 154) (np := 89) (by decide +kernel) (by decide) l313 (fun q325 => ?_) (fun q326 => ?_)
      · have q325 : v312 = 2147483648 := q325
        refine x_const (np := 155) (x := 9223372039002259456) (a := 2147483648) (by decide +kernel) (by decide) (by decide) ?_
        refine x_retI (np := 156) (x := 0) (by decide +kernel) (by decide) (Or.inr ⟨by decide +kernel, by omega, by omega⟩) ⟨_, rfl, (by decide), ?_⟩
        exact ⟨j316, f321, (by omega), (fun z => absurd z (by omega))⟩
      have q326 : ¬ (v312 = 2147483648) := q326
      have b327 := c320 (by omega)
      refine x_aload (np := 90) (x := 0) (by decide +kernel) rfl (x_nc_le (by decide)) ?_
      refine x_iload (np := 91) (x := 1) (by decide +kernel) rfl (by omega) ?_
      refine x_const (np := 92) (x := 9223372047592194050) (a := 2147483650) (by decide +kernel) (by decide) (by decide) ?_
      refine x_iadd (np := 93) (x := 0) (v := (2147483850 + 5 * u8)) (by decide +kernel) (by omega) (by decide) (by omega) (by omega) ?_
      refine x_const (np := 94) (x := 9223372039002259456) (a := 2147483648) (by decide +kernel) (by decide) (by decide) ?_
      refine x_nI (t := 6) (mj := 178) (n := 3) (rc := 12) (ml := 3) (nr := 0) (np := 97) (as := [x_r 75, iv_c (2147483850 + 5 * u8), iv_c 2147483648]) (rest := []) (lo1 := [x_r 75, iv_c (2147483850 + 5 * u8), iv_c 2147483648]) (by decide +kernel) (by decide) (by decide +kernel) (x_rb_of (by decide +kernel)) rfl rfl (x_wr (by decide) (x_wi (by omega) (x_wi (by decide) x_wn))) x_wn (by decide) rfl ?_
      refine x_aload (np := 1) (x := 0) (by decide +kernel) rfl (x_nc_le (by decide)) ?_
      refine x_iload (np := 2) (x := 1) (by decide +kernel) rfl (by omega) ?_
      refine x_aload (np := 3) (x := 0) (by decide +kernel) rfl (x_nc_le (by decide)) ?_
      refine x_iload (np := 4) (x := 2) (by decide +kernel) rfl (by decide) ?_
      refine x_const (np := 6) (x := 9223372086246899723) (a := 2147483659) (by decide +kernel) (by decide) (by decide) ?_
      refine x_cI (t := 6) (mj := 174) (n := 3) (rc := 12) (ml := 4) (nr := 2) (np := 9) (as := [x_r 75, iv_c 2147483648, iv_c 2147483659]) (rest := [iv_c (2147483850 + 5 * u8), x_r 75]) (lo1 := [x_r 75, iv_c 2147483648, iv_c 2147483659, 147573952589676412928]) (by decide +kernel) (by decide) (by decide +kernel) (x_rb_of (by decide +kernel)) rfl rfl (x_wr (by decide) (x_wi (by decide) (x_wi (by decide) x_wn))) (x_wi (by omega) (x_wr (by decide) x_wn)) (by decide) rfl (c174_75 j316  (by omega) (by omega)) (fun v328 h331 l329 q330 => ?_)
      obtain ⟨j332, f333, b334, c335, c336, c337, c338, c339⟩ := q330
      have f340 := Fr.trans f321 f333 (by decide)
      have b341 := jB (e := 7) 0 j332 rg_75_7_0_1 (by omega) (by omega)
      have b342 := c339 (by omega)
      refine x_nI (t := 6) (mj := 176) (n := 3) (rc := 12) (ml := 3) (nr := 0) (np := 12) (as := [x_r 75, iv_c (2147483850 + 5 * u8), iv_c v328]) (rest := []) (lo1 := [x_r 75, iv_c (2147483850 + 5 * u8), iv_c v328]) (by decide +kernel) (by decide) (by decide +kernel) (x_rb_of (by decide +kernel)) rfl rfl (x_wr (by decide) (x_wi (by omega) (x_wi l329 x_wn))) x_wn (by decide) rfl ?_
      refine x_aload (np := 1) (x := 0) (by decide +kernel) rfl (x_nc_le (by decide)) ?_
      have q343 : h331 75 3 = 78 := by have z := jB (e := 3) 0 j332 rg_75_3_0_1 (by decide) (by decide); omega
      refine x_getR (np := 4) (x := 707) (f := 3) (q := 78) (by decide +kernel) (by decide) (by decide +kernel) q343 ?_
      refine x_iload (np := 5) (x := 1) (by decide +kernel) rfl (by omega) ?_
      refine x_iload (np := 6) (x := 2) (by decide +kernel) rfl l329 ?_
      refine x_ast (np := 7) (x := 0) (kd := 1) (n := 290) (i := (202 + 5 * u8)) (by decide +kernel) (Or.inl rfl) (by decide +kernel) (by omega) (by omega) (by decide) l329 (fun z => absurd z (by decide)) ?_
      have j345 := jU (e := (202 + 5 * u8)) (v := v328) u8 j332 rg_78_202_5_10 (by omega) (by omega) (by omega)
      have f347 := jF (e := (202 + 5 * u8)) (v := v328) u8 f340 rg_78_202_5_10 (by omega) (by omega) (by decide)
      generalize e346 : x_up h331 78 (202 + 5 * u8) v328 = h344 at j345 f347 ⊢
      refine x_iload (np := 8) (x := 2) (by decide +kernel) rfl l329 ?_
      refine x_ifz (k := 2) (tg := 15) (np := 11) (by decide +kernel) (by decide) l329 (fun q348 => ?_) (fun q349 => ?_)
      · have q348 : v328 < 2147483648 := q348
        refine x_const (np := 16) (x := 9223372039002259456) (a := 2147483648) (by decide +kernel) (by decide) (by decide) ?_
        refine x_retI (np := 17) (x := 0) (by decide +kernel) (by decide) (Or.inr ⟨by decide +kernel, by omega, by omega⟩) ⟨_, rfl, (by decide), ?_⟩
        refine x_retI (np := 13) (x := 0) (by decide +kernel) (by decide) (Or.inr ⟨by decide +kernel, by omega, by omega⟩) ⟨_, rfl, (by decide), ?_⟩
        refine x_ifz (k := 0) (tg := 154) (np := 100) (by decide +kernel) (by decide) (by decide) (fun q350 => ?_) (fun q351 => ?_)
        · have q350 : 2147483648 = 2147483648 := q350
          refine x_const (np := 155) (x := 9223372039002259456) (a := 2147483648) (by decide +kernel) (by decide) (by decide) ?_
          refine x_retI (np := 156) (x := 0) (by decide +kernel) (by decide) (Or.inr ⟨by decide +kernel, by omega, by omega⟩) ⟨_, rfl, (by decide), ?_⟩
          exact ⟨j345, f347, (by omega), (fun z => absurd z (by omega))⟩
        have q351 : ¬ (2147483648 = 2147483648) := q351
        exfalso; omega
      have q349 : ¬ (v328 < 2147483648) := q349
      have b352 := c336 (by omega)
      have b353 := c337 (by omega)
      have b354 := c338 (by omega)
      refine x_const (np := 12) (x := 9223372043297226753) (a := 2147483649) (by decide +kernel) (by decide) (by decide) ?_
      refine x_goto (np := 15) (x := 16) (by decide +kernel) ?_
      refine x_retI (np := 17) (x := 0) (by decide +kernel) (by decide) (Or.inr ⟨by decide +kernel, by omega, by omega⟩) ⟨_, rfl, (by decide), ?_⟩
      refine x_retI (np := 13) (x := 0) (by decide +kernel) (by decide) (Or.inr ⟨by decide +kernel, by omega, by omega⟩) ⟨_, rfl, (by decide), ?_⟩
      refine x_ifz (k := 0) (tg := 154) (np := 100) (by decide +kernel) (by decide) (by decide) (fun q355 => ?_) (fun q356 => ?_)
      · have q355 : 2147483649 = 2147483648 := q355
        exfalso; omega
      have q356 : ¬ (2147483649 = 2147483648) := q356
      refine x_aload (np := 101) (x := 0) (by decide +kernel) rfl (x_nc_le (by decide)) ?_
      refine x_ldcB (i := 11) (idx := 173) (tx := "judged") (by rw [tb_y184]; exact List.mem_of_getElem? (i := 50) rfl) (by decide) (by rw [tb_b184]; decide +kernel) ?_
      refine x_cI (t := 6) (mj := 172) (n := 2) (rc := 12) (ml := 2) (nr := 0) (np := 106) (as := [x_r 75, x_b (11 + 1)]) (rest := []) (lo1 := [x_r 75, x_b (11 + 1)]) (by decide +kernel) (by decide) (by decide +kernel) (x_rb_of (by decide +kernel)) rfl rfl (x_wr (by decide) (x_wB (by decide) x_wn)) x_wn (by decide) rfl (c172_75_S0 j345  (by decide)) (fun v357 h360 l358 q359 => ?_)
      obtain ⟨j361, f362, b363, c364, c365⟩ := q359
      have f366 := Fr.trans f347 f362 (by decide)
      have q367 : h344 75 7 = h331 75 7 := by rw [← e346]; exact x_up_k (by decide)
      have b368 := jB (e := 7) 0 j361 rg_75_7_0_1 (by omega) (by omega)
      have q369 : h344 75 7 = h331 75 7 := by rw [← e346]; exact x_up_k (by decide)
      refine x_ifz (k := 0) (tg := 154) (np := 109) (by decide +kernel) (by decide) l358 (fun q370 => ?_) (fun q371 => ?_)
      · have q370 : v357 = 2147483648 := q370
        refine x_const (np := 155) (x := 9223372039002259456) (a := 2147483648) (by decide +kernel) (by decide) (by decide) ?_
        refine x_retI (np := 156) (x := 0) (by decide +kernel) (by decide) (Or.inr ⟨by decide +kernel, by omega, by omega⟩) ⟨_, rfl, (by decide), ?_⟩
        exact ⟨j361, f366, (by omega), (fun z => absurd z (by omega))⟩
      have q371 : ¬ (v357 = 2147483648) := q371
      have b372 := c365 (by omega)
      refine x_aload (np := 110) (x := 0) (by decide +kernel) rfl (x_nc_le (by decide)) ?_
      refine x_iload (np := 111) (x := 1) (by decide +kernel) rfl (by omega) ?_
      refine x_const (np := 112) (x := 9223372051887161347) (a := 2147483651) (by decide +kernel) (by decide) (by decide) ?_
      refine x_iadd (np := 113) (x := 0) (v := (2147483851 + 5 * u8)) (by decide +kernel) (by omega) (by decide) (by omega) (by omega) ?_
      refine x_aload (np := 114) (x := 0) (by decide +kernel) rfl (x_nc_le (by decide)) ?_
      have q373 : h360 75 3 = 78 := by have z := jB (e := 3) 0 j361 rg_75_3_0_1 (by decide) (by decide); omega
      refine x_getR (np := 117) (x := 707) (f := 3) (q := 78) (by decide +kernel) (by decide) (by decide +kernel) q373 ?_
      refine x_iload (np := 118) (x := 1) (by decide +kernel) rfl (by omega) ?_
      refine x_const (np := 119) (x := 9223372047592194050) (a := 2147483650) (by decide +kernel) (by decide) (by decide) ?_
      refine x_iadd (np := 120) (x := 0) (v := (2147483850 + 5 * u8)) (by decide +kernel) (by omega) (by decide) (by omega) (by omega) ?_
      have q374 : h360 78 (202 + 5 * u8) = h344 78 (202 + 5 * u8) := jK u8 f362 rg_78_202_5_10 (by omega) (by omega) (by decide)
      have q375 : h344 78 (202 + 5 * u8) = v328 := by rw [← e346]; exact x_up_at
      refine x_aldC (np := 121) (x := 0) (n := 290) (i := (202 + 5 * u8)) (q := v328) (by decide +kernel) (by decide +kernel) (by omega) (by omega) (by decide) (q374.trans q375) (fun l376 => ?_)
      refine x_nI (t := 6) (mj := 178) (n := 3) (rc := 12) (ml := 3) (nr := 0) (np := 124) (as := [x_r 75, iv_c (2147483851 + 5 * u8), iv_c v328]) (rest := []) (lo1 := [x_r 75, iv_c (2147483851 + 5 * u8), iv_c v328]) (by decide +kernel) (by decide) (by decide +kernel) (x_rb_of (by decide +kernel)) rfl rfl (x_wr (by decide) (x_wi (by omega) (x_wi l329 x_wn))) x_wn (by decide) rfl ?_
      refine x_aload (np := 1) (x := 0) (by decide +kernel) rfl (x_nc_le (by decide)) ?_
      refine x_iload (np := 2) (x := 1) (by decide +kernel) rfl (by omega) ?_
      refine x_aload (np := 3) (x := 0) (by decide +kernel) rfl (x_nc_le (by decide)) ?_
      refine x_iload (np := 4) (x := 2) (by decide +kernel) rfl l329 ?_
      refine x_const (np := 6) (x := 9223372086246899723) (a := 2147483659) (by decide +kernel) (by decide) (by decide) ?_
      refine x_cI (t := 6) (mj := 174) (n := 3) (rc := 12) (ml := 4) (nr := 2) (np := 9) (as := [x_r 75, iv_c v328, iv_c 2147483659]) (rest := [iv_c (2147483851 + 5 * u8), x_r 75]) (lo1 := [x_r 75, iv_c v328, iv_c 2147483659, 147573952589676412928]) (by decide +kernel) (by decide) (by decide +kernel) (x_rb_of (by decide +kernel)) rfl rfl (x_wr (by decide) (x_wi l329 (x_wi (by decide) x_wn))) (x_wi (by omega) (x_wr (by decide) x_wn)) (by decide) rfl (c174_75 j361  (by omega) (by omega)) (fun v377 h380 l378 q379 => ?_)
      obtain ⟨j381, f382, b383, c384, c385, c386, c387, c388⟩ := q379
      have f389 := Fr.trans f366 f382 (by decide)
      have b390 := jB (e := 7) 0 j381 rg_75_7_0_1 (by omega) (by omega)
      have b391 := c388 (by omega)
      refine x_nI (t := 6) (mj := 176) (n := 3) (rc := 12) (ml := 3) (nr := 0) (np := 12) (as := [x_r 75, iv_c (2147483851 + 5 * u8), iv_c v377]) (rest := []) (lo1 := [x_r 75, iv_c (2147483851 + 5 * u8), iv_c v377]) (by decide +kernel) (by decide) (by decide +kernel) (x_rb_of (by decide +kernel)) rfl rfl (x_wr (by decide) (x_wi (by omega) (x_wi l378 x_wn))) x_wn (by decide) rfl ?_
      refine x_aload (np := 1) (x := 0) (by decide +kernel) rfl (x_nc_le (by decide)) ?_
      have q392 : h380 75 3 = 78 := by have z := jB (e := 3) 0 j381 rg_75_3_0_1 (by decide) (by decide); omega
      refine x_getR (np := 4) (x := 707) (f := 3) (q := 78) (by decide +kernel) (by decide) (by decide +kernel) q392 ?_
      refine x_iload (np := 5) (x := 1) (by decide +kernel) rfl (by omega) ?_
      refine x_iload (np := 6) (x := 2) (by decide +kernel) rfl l378 ?_
      refine x_ast (np := 7) (x := 0) (kd := 1) (n := 290) (i := (203 + 5 * u8)) (by decide +kernel) (Or.inl rfl) (by decide +kernel) (by omega) (by omega) (by decide) l378 (fun z => absurd z (by decide)) ?_
      have j394 := jU (e := (203 + 5 * u8)) (v := v377) u8 j381 rg_78_203_5_10 (by omega) (by omega) (by omega)
      have f396 := jF (e := (203 + 5 * u8)) (v := v377) u8 f389 rg_78_203_5_10 (by omega) (by omega) (by decide)
      generalize e395 : x_up h380 78 (203 + 5 * u8) v377 = h393 at j394 f396 ⊢
      refine x_iload (np := 8) (x := 2) (by decide +kernel) rfl l378 ?_
      refine x_ifz (k := 2) (tg := 15) (np := 11) (by decide +kernel) (by decide) l378 (fun q397 => ?_) (fun q398 => ?_)
      · have q397 : v377 < 2147483648 := q397
        refine x_const (np := 16) (x := 9223372039002259456) (a := 2147483648) (by decide +kernel) (by decide) (by decide) ?_
        refine x_retI (np := 17) (x := 0) (by decide +kernel) (by decide) (Or.inr ⟨by decide +kernel, by omega, by omega⟩) ⟨_, rfl, (by decide), ?_⟩
        refine x_retI (np := 13) (x := 0) (by decide +kernel) (by decide) (Or.inr ⟨by decide +kernel, by omega, by omega⟩) ⟨_, rfl, (by decide), ?_⟩
        refine x_ifz (k := 0) (tg := 154) (np := 127) (by decide +kernel) (by decide) (by decide) (fun q399 => ?_) (fun q400 => ?_)
        · have q399 : 2147483648 = 2147483648 := q399
          refine x_const (np := 155) (x := 9223372039002259456) (a := 2147483648) (by decide +kernel) (by decide) (by decide) ?_
          refine x_retI (np := 156) (x := 0) (by decide +kernel) (by decide) (Or.inr ⟨by decide +kernel, by omega, by omega⟩) ⟨_, rfl, (by decide), ?_⟩
          exact ⟨j394, f396, (by omega), (fun z => absurd z (by omega))⟩
        have q400 : ¬ (2147483648 = 2147483648) := q400
        exfalso; omega
      have q398 : ¬ (v377 < 2147483648) := q398
      have b401 := c385 (by omega)
      have b402 := c386 (by omega)
      have b403 := c387 (by omega)
      refine x_const (np := 12) (x := 9223372043297226753) (a := 2147483649) (by decide +kernel) (by decide) (by decide) ?_
      refine x_goto (np := 15) (x := 16) (by decide +kernel) ?_
      refine x_retI (np := 17) (x := 0) (by decide +kernel) (by decide) (Or.inr ⟨by decide +kernel, by omega, by omega⟩) ⟨_, rfl, (by decide), ?_⟩
      refine x_retI (np := 13) (x := 0) (by decide +kernel) (by decide) (Or.inr ⟨by decide +kernel, by omega, by omega⟩) ⟨_, rfl, (by decide), ?_⟩
      refine x_ifz (k := 0) (tg := 154) (np := 127) (by decide +kernel) (by decide) (by decide) (fun q404 => ?_) (fun q405 => ?_)
      · have q404 : 2147483649 = 2147483648 := q404
        exfalso; omega
      have q405 : ¬ (2147483649 = 2147483648) := q405
      refine x_aload (np := 128) (x := 0) (by decide +kernel) rfl (x_nc_le (by decide)) ?_
      refine x_ldcB (i := 12) (idx := 175) (tx := "of") (by rw [tb_y184]; exact List.mem_of_getElem? (i := 51) rfl) (by decide) (by rw [tb_b184]; decide +kernel) ?_
      refine x_cI (t := 6) (mj := 172) (n := 2) (rc := 12) (ml := 2) (nr := 0) (np := 133) (as := [x_r 75, x_b (12 + 1)]) (rest := []) (lo1 := [x_r 75, x_b (12 + 1)]) (by decide +kernel) (by decide) (by decide +kernel) (x_rb_of (by decide +kernel)) rfl rfl (x_wr (by decide) (x_wB (by decide) x_wn)) x_wn (by decide) rfl (c172_75_S0 j394  (by decide)) (fun v406 h409 l407 q408 => ?_)
      obtain ⟨j410, f411, b412, c413, c414⟩ := q408
      have f415 := Fr.trans f396 f411 (by decide)
      have q416 : h393 75 7 = h380 75 7 := by rw [← e395]; exact x_up_k (by decide)
      have b417 := jB (e := 7) 0 j410 rg_75_7_0_1 (by omega) (by omega)
      have q418 : h393 75 7 = h380 75 7 := by rw [← e395]; exact x_up_k (by decide)
      refine x_ifz (k := 0) (tg := 154) (np := 136) (by decide +kernel) (by decide) l407 (fun q419 => ?_) (fun q420 => ?_)
      · have q419 : v406 = 2147483648 := q419
        refine x_const (np := 155) (x := 9223372039002259456) (a := 2147483648) (by decide +kernel) (by decide) (by decide) ?_
        refine x_retI (np := 156) (x := 0) (by decide +kernel) (by decide) (Or.inr ⟨by decide +kernel, by omega, by omega⟩) ⟨_, rfl, (by decide), ?_⟩
        exact ⟨j410, f415, (by omega), (fun z => absurd z (by omega))⟩
      have q420 : ¬ (v406 = 2147483648) := q420
      have b421 := c414 (by omega)
      refine x_aload (np := 137) (x := 0) (by decide +kernel) rfl (x_nc_le (by decide)) ?_
      refine x_iload (np := 138) (x := 1) (by decide +kernel) rfl (by omega) ?_
      refine x_const (np := 139) (x := 9223372056182128644) (a := 2147483652) (by decide +kernel) (by decide) (by decide) ?_
      refine x_iadd (np := 140) (x := 0) (v := (2147483852 + 5 * u8)) (by decide +kernel) (by omega) (by decide) (by omega) (by omega) ?_
      refine x_aload (np := 141) (x := 0) (by decide +kernel) rfl (x_nc_le (by decide)) ?_
      refine x_const (np := 142) (x := 9223372039002259456) (a := 2147483648) (by decide +kernel) (by decide) (by decide) ?_
      refine x_const (np := 145) (x := 9223376329674589159) (a := 2147484647) (by decide +kernel) (by decide) (by decide) ?_
      refine x_cI (t := 6) (mj := 174) (n := 3) (rc := 12) (ml := 4) (nr := 2) (np := 148) (as := [x_r 75, iv_c 2147483648, iv_c 2147484647]) (rest := [iv_c (2147483852 + 5 * u8), x_r 75]) (lo1 := [x_r 75, iv_c 2147483648, iv_c 2147484647, 147573952589676412928]) (by decide +kernel) (by decide) (by decide +kernel) (x_rb_of (by decide +kernel)) rfl rfl (x_wr (by decide) (x_wi (by decide) (x_wi (by decide) x_wn))) (x_wi (by omega) (x_wr (by decide) x_wn)) (by decide) rfl (c174_75 j410  (by omega) (by omega)) (fun v422 h425 l423 q424 => ?_)
      obtain ⟨j426, f427, b428, c429, c430, c431, c432, c433⟩ := q424
      have f434 := Fr.trans f415 f427 (by decide)
      have b435 := jB (e := 7) 0 j426 rg_75_7_0_1 (by omega) (by omega)
      have b436 := c433 (by omega)
      refine x_nI (t := 6) (mj := 176) (n := 3) (rc := 12) (ml := 3) (nr := 0) (np := 151) (as := [x_r 75, iv_c (2147483852 + 5 * u8), iv_c v422]) (rest := []) (lo1 := [x_r 75, iv_c (2147483852 + 5 * u8), iv_c v422]) (by decide +kernel) (by decide) (by decide +kernel) (x_rb_of (by decide +kernel)) rfl rfl (x_wr (by decide) (x_wi (by omega) (x_wi l423 x_wn))) x_wn (by decide) rfl ?_
      refine x_aload (np := 1) (x := 0) (by decide +kernel) rfl (x_nc_le (by decide)) ?_
      have q437 : h425 75 3 = 78 := by have z := jB (e := 3) 0 j426 rg_75_3_0_1 (by decide) (by decide); omega
      refine x_getR (np := 4) (x := 707) (f := 3) (q := 78) (by decide +kernel) (by decide) (by decide +kernel) q437 ?_
      refine x_iload (np := 5) (x := 1) (by decide +kernel) rfl (by omega) ?_
      refine x_iload (np := 6) (x := 2) (by decide +kernel) rfl l423 ?_
      refine x_ast (np := 7) (x := 0) (kd := 1) (n := 290) (i := (204 + 5 * u8)) (by decide +kernel) (Or.inl rfl) (by decide +kernel) (by omega) (by omega) (by decide) l423 (fun z => absurd z (by decide)) ?_
      have j439 := jU (e := (204 + 5 * u8)) (v := v422) u8 j426 rg_78_204_5_10 (by omega) (by omega) (by omega)
      have f441 := jF (e := (204 + 5 * u8)) (v := v422) u8 f434 rg_78_204_5_10 (by omega) (by omega) (by decide)
      generalize e440 : x_up h425 78 (204 + 5 * u8) v422 = h438 at j439 f441 ⊢
      refine x_iload (np := 8) (x := 2) (by decide +kernel) rfl l423 ?_
      refine x_ifz (k := 2) (tg := 15) (np := 11) (by decide +kernel) (by decide) l423 (fun q442 => ?_) (fun q443 => ?_)
      · have q442 : v422 < 2147483648 := q442
        refine x_const (np := 16) (x := 9223372039002259456) (a := 2147483648) (by decide +kernel) (by decide) (by decide) ?_
        refine x_retI (np := 17) (x := 0) (by decide +kernel) (by decide) (Or.inr ⟨by decide +kernel, by omega, by omega⟩) ⟨_, rfl, (by decide), ?_⟩
        refine x_ifz (k := 1) (tg := 156) (np := 154) (by decide +kernel) (by decide) (by decide) (fun q444 => ?_) (fun q445 => ?_)
        · have q444 : 2147483648 ≠ 2147483648 := q444
          exfalso; omega
        have q445 : ¬ (2147483648 ≠ 2147483648) := q445
        refine x_const (np := 155) (x := 9223372039002259456) (a := 2147483648) (by decide +kernel) (by decide) (by decide) ?_
        refine x_retI (np := 156) (x := 0) (by decide +kernel) (by decide) (Or.inr ⟨by decide +kernel, by omega, by omega⟩) ⟨_, rfl, (by decide), ?_⟩
        exact ⟨j439, f441, (by omega), (fun z => absurd z (by omega))⟩
      have q443 : ¬ (v422 < 2147483648) := q443
      have b446 := c430 (by omega)
      have b447 := c431 (by omega)
      have b448 := c432 (by omega)
      refine x_const (np := 12) (x := 9223372043297226753) (a := 2147483649) (by decide +kernel) (by decide) (by decide) ?_
      refine x_goto (np := 15) (x := 16) (by decide +kernel) ?_
      refine x_retI (np := 17) (x := 0) (by decide +kernel) (by decide) (Or.inr ⟨by decide +kernel, by omega, by omega⟩) ⟨_, rfl, (by decide), ?_⟩
      refine x_ifz (k := 1) (tg := 156) (np := 154) (by decide +kernel) (by decide) (by decide) (fun q449 => ?_) (fun q450 => ?_)
      · have q449 : 2147483649 ≠ 2147483648 := q449
        refine x_aload (np := 157) (x := 0) (by decide +kernel) rfl (x_nc_le (by decide)) ?_
        have q451 : h438 75 3 = 78 := by have z := jB (e := 3) 0 j439 rg_75_3_0_1 (by decide) (by decide); omega
        refine x_getR (np := 160) (x := 707) (f := 3) (q := 78) (by decide +kernel) (by decide) (by decide +kernel) q451 ?_
        refine x_const (np := 161) (x := 9223372056182128644) (a := 2147483652) (by decide +kernel) (by decide) (by decide) ?_
        refine x_dup2 (np := 162) (x := 0) (by decide +kernel) (by have z := (iw_c_lt (a := 2147483652) (by decide)).1; omega) (by have z := x_nc_le (k := 78) (by decide); unfold x_r; omega) ?_
        have q452 : h438 78 4 = h425 78 4 := by rw [← e440]; exact x_up_i (by omega)
        have q453 : h425 78 4 = h409 78 4 := jK 0 f427 rg_78_4_0_1 (by omega) (by omega) (by decide)
        have q454 : h409 78 4 = h393 78 4 := jK 0 f411 rg_78_4_0_1 (by omega) (by omega) (by decide)
        have q455 : h393 78 4 = h380 78 4 := by rw [← e395]; exact x_up_i (by omega)
        have q456 : h380 78 4 = h360 78 4 := jK 0 f382 rg_78_4_0_1 (by omega) (by omega) (by decide)
        have q457 : h360 78 4 = h344 78 4 := jK 0 f362 rg_78_4_0_1 (by omega) (by omega) (by decide)
        have q458 : h344 78 4 = h331 78 4 := by rw [← e346]; exact x_up_i (by omega)
        have q459 : h331 78 4 = h315 78 4 := jK 0 f333 rg_78_4_0_1 (by omega) (by omega) (by decide)
        have q460 : h315 78 4 = h299 78 4 := jK 0 f317 rg_78_4_0_1 (by omega) (by omega) (by decide)
        have q461 : h299 78 4 = h284 78 4 := by rw [← e301]; exact x_up_i (by omega)
        have q462 : h284 78 4 = h265 78 4 := jK 0 f286 rg_78_4_0_1 (by omega) (by omega) (by decide)
        have q463 : h265 78 4 = h14 78 4 := by rw [← e267]; exact x_up_i (by omega)
        have q464 : h14 78 4 = h 78 4 := jK 0 f16 rg_78_4_0_1 (by omega) (by omega) (by decide)
        refine x_aldC (np := 163) (x := 0) (n := 290) (i := 4) (q := (h 78 4)) (by decide +kernel) (by decide +kernel) (by omega) (by omega) (by decide) ((((((((((((q452.trans q453).trans q454).trans q455).trans q456).trans q457).trans q458).trans q459).trans q460).trans q461).trans q462).trans q463).trans q464) (fun l465 => ?_)
        refine x_const (np := 164) (x := 9223372043297226753) (a := 2147483649) (by decide +kernel) (by decide) (by decide) ?_
        refine x_iadd (np := 165) (x := 0) (v := (1 + (h 78 4))) (by decide +kernel) l3 (by decide) (by omega) (by omega) ?_
        refine x_ast (np := 166) (x := 0) (kd := 1) (n := 290) (i := 4) (by decide +kernel) (Or.inl rfl) (by decide +kernel) (by omega) (by omega) (by decide) (by omega) (fun z => absurd z (by decide)) ?_
        have j467 := jU (e := 4) (v := (1 + (h 78 4))) 0 j439 rg_78_4_0_1 (by omega) (by omega) (by omega)
        have f469 := jF (e := 4) (v := (1 + (h 78 4))) 0 f441 rg_78_4_0_1 (by omega) (by omega) (by decide)
        generalize e468 : x_up h438 78 4 (1 + (h 78 4)) = h466 at j467 f469 ⊢
        refine x_const (np := 167) (x := 9223372043297226753) (a := 2147483649) (by decide +kernel) (by decide) (by decide) ?_
        have m483 := Cl.fr hC f16 (by decide)
        have m482 : Cl h265 := by rw [← e267]; exact Cl.upR (e := (200 + 5 * u8)) (v := 2147483649) u8 m483 rg_76_200_5_10 (by omega) (by omega) (by omega)
        have m481 := Cl.fr m482 f286 (by decide)
        have m480 : Cl h299 := by rw [← e301]; exact Cl.upR (e := (201 + 5 * u8)) (v := v281) u8 m481 rg_76_201_5_10 (by omega) (by omega) (by omega)
        have m479 := Cl.fr m480 f317 (by decide)
        have m478 := Cl.fr m479 f333 (by decide)
        have m477 : Cl h344 := by rw [← e346]; exact Cl.upR (e := (202 + 5 * u8)) (v := v328) u8 m478 rg_76_202_5_10 (by omega) (by omega) (by omega)
        have m476 := Cl.fr m477 f362 (by decide)
        have m475 := Cl.fr m476 f382 (by decide)
        have m474 : Cl h393 := by rw [← e395]; exact Cl.upR (e := (203 + 5 * u8)) (v := v377) u8 m475 rg_76_203_5_10 (by omega) (by omega) (by omega)
        have m473 := Cl.fr m474 f411 (by decide)
        have m472 := Cl.fr m473 f427 (by decide)
        have m471 : Cl h438 := by rw [← e440]; exact Cl.upR (e := (204 + 5 * u8)) (v := v422) u8 m472 rg_76_204_5_10 (by omega) (by omega) (by omega)
        have m470 : Cl h466 := by rw [← e468]; exact Cl.upR (e := 4) (v := (1 + (h 78 4))) 0 m471 rg_76_4_0_1 (by omega) (by omega) (by omega)
        refine x_retI (np := 168) (x := 0) (by decide +kernel) (by decide) (Or.inr ⟨by decide +kernel, by omega, by omega⟩) ⟨_, rfl, (by decide), ?_⟩
        exact ⟨j467, f469, (by omega), (fun _ => m470)⟩
      have q450 : ¬ (2147483649 ≠ 2147483648) := q450
      exfalso; omega
    have q273 : ¬ (2147483649 ≠ 2147483648) := q273
    exfalso; omega
  have q5 : ¬ ((h 78 4) ≠ 2147483658) := q5
  refine x_const (np := 12) (x := 9223372039002259456) (a := 2147483648) (by decide +kernel) (by decide) (by decide) ?_
  refine x_retI (np := 13) (x := 0) (by decide +kernel) (by decide) (Or.inr ⟨by decide +kernel, by omega, by omega⟩) ⟨_, rfl, (by decide), ?_⟩
  exact ⟨hJ, hF, (by omega), (fun z => absurd z (by omega))⟩
set_option maxHeartbeats 0 in
/-- LentNamesModel.readLetter()Z -/
theorem c183_75 {sc : Nat × Nat} {d  : Nat} {h : xh} (hJ : J h) (hC : Cl h) : X sc 183 (d + 6) (xI fun r h' => J h' ∧ Fr 273678337 h h' ∧ (2147483648 ≤ r ∧ r ≤ 2147483649) ∧ (r = 2147483649 → Cl h')) 0 0 0 [x_r 75, 147573952589676412928] [] h := by
  have hF := Fr.refl 273678337 h
  refine x_aload (np := 1) (x := 0) (by decide +kernel) rfl (x_nc_le (by decide)) ?_
  have q1 : h 75 3 = 78 := by have z := jB (e := 3) 0 hJ rg_75_3_0_1 (by decide) (by decide); omega
  refine x_getR (np := 4) (x := 707) (f := 3) (q := 78) (by decide +kernel) (by decide) (by decide +kernel) q1 ?_
  refine x_const (np := 5) (x := 9223372051887161347) (a := 2147483651) (by decide +kernel) (by decide) (by decide) ?_
  have b2 := jB (e := 3) 0 hJ rg_78_3_0_1 (by omega) (by omega)
  refine x_aldC (np := 6) (x := 0) (n := 290) (i := 3) (q := (h 78 3)) (by decide +kernel) (by decide +kernel) (by omega) (by omega) (by decide) rfl (fun l3 => ?_)
  refine x_const (np := 8) (x := 9223372081951932426) (a := 2147483658) (by decide +kernel) (by decide) (by decide) ?_
  refine x_icmp (k := 1) (tg := 13) (np := 11) (by decide +kernel) (by decide) l3 (by decide) (fun q4 => ?_) (fun q5 => ?_)
  · have q4 : (h 78 3) ≠ 2147483658 := q4
    refine x_const (np := 16) (x := 9223372726197026976) (a := 2147483808) (by decide +kernel) (by decide) (by decide) ?_
    refine x_const (np := 17) (x := 9223372056182128644) (a := 2147483652) (by decide +kernel) (by decide) (by decide) ?_
    refine x_aload (np := 18) (x := 0) (by decide +kernel) rfl (x_nc_le (by decide)) ?_
    have q6 : h 75 3 = 78 := by have z := jB (e := 3) 0 hJ rg_75_3_0_1 (by decide) (by decide); omega
    refine x_getR (np := 21) (x := 707) (f := 3) (q := 78) (by decide +kernel) (by decide) (by decide +kernel) q6 ?_
    refine x_const (np := 22) (x := 9223372051887161347) (a := 2147483651) (by decide +kernel) (by decide) (by decide) ?_
    refine x_aldC (np := 23) (x := 0) (n := 290) (i := 3) (q := (h 78 3)) (by decide +kernel) (by decide +kernel) (by omega) (by omega) (by decide) rfl (fun l7 => ?_)
    obtain ⟨u8, q9⟩ : ∃ z, (h 78 3) = 2147483648 + z := ⟨(h 78 3) - 2147483648, by omega⟩
    refine x_imul (np := 24) (x := 0) (i := 4) (j := u8) (v := (2147483648 + 4 * u8)) (by decide +kernel) (by omega) (by omega) (by omega) (by omega) (by decide) l3 ?_
    refine x_iadd (np := 25) (x := 0) (v := (2147483808 + 4 * u8)) (by decide +kernel) (by decide) (by omega) (by omega) (by omega) ?_
    refine x_istore (np := 26) (x := 1) (lo' := [x_r 75, iv_c (2147483808 + 4 * u8)]) (by decide +kernel) (by omega) (Nat.le_of_ble_eq_true rfl) rfl ?_
    refine x_aload (np := 27) (x := 0) (by decide +kernel) rfl (x_nc_le (by decide)) ?_
    refine x_iload (np := 28) (x := 1) (by decide +kernel) rfl (by omega) ?_
    refine x_nI (t := 6) (mj := 177) (n := 2) (rc := 12) (ml := 2) (nr := 0) (np := 31) (as := [x_r 75, iv_c (2147483808 + 4 * u8)]) (rest := []) (lo1 := [x_r 75, iv_c (2147483808 + 4 * u8)]) (by decide +kernel) (by decide) (by decide +kernel) (x_rb_of (by decide +kernel)) rfl rfl (x_wr (by decide) (x_wi (by omega) x_wn)) x_wn (by decide) rfl ?_
    refine x_aload (np := 1) (x := 0) (by decide +kernel) rfl (x_nc_le (by decide)) ?_
    refine x_iload (np := 2) (x := 1) (by decide +kernel) rfl (by omega) ?_
    refine x_aload (np := 3) (x := 0) (by decide +kernel) rfl (x_nc_le (by decide)) ?_
    refine x_const (np := 4) (x := 9223372039002259456) (a := 2147483648) (by decide +kernel) (by decide) (by decide) ?_
    refine x_aload (np := 5) (x := 0) (by decide +kernel) rfl (x_nc_le (by decide)) ?_
    refine x_nI (t := 6) (mj := 157) (n := 1) (rc := 12) (ml := 1) (nr := 4) (np := 8) (as := [x_r 75]) (rest := [iv_c 2147483648, x_r 75, iv_c (2147483808 + 4 * u8), x_r 75]) (lo1 := [x_r 75]) (by decide +kernel) (by decide) (by decide +kernel) (x_rb_of (by decide +kernel)) rfl rfl (x_wr (by decide) x_wn) (x_wi (by decide) (x_wr (by decide) (x_wi (by omega) (x_wr (by decide) x_wn)))) (by decide) rfl ?_
    refine x_aload (np := 1) (x := 0) (by decide +kernel) rfl (x_nc_le (by decide)) ?_
    have q11 : h 75 1 = 76 := by have z := jB (e := 1) 0 hJ rg_75_1_0_1 (by decide) (by decide); omega
    refine x_getR (np := 4) (x := 705) (f := 1) (q := 76) (by decide +kernel) (by decide) (by decide +kernel) q11 ?_
    refine x_const (np := 5) (x := 9223372039002259456) (a := 2147483648) (by decide +kernel) (by decide) (by decide) ?_
    have b12 := jB (e := 0) 0 hJ rg_76_0_0_1 (by omega) (by omega)
    refine x_aldC (np := 6) (x := 0) (n := 1952) (i := 0) (q := (h 76 0)) (by decide +kernel) (by decide +kernel) (by omega) (by omega) (by decide) rfl (fun l13 => ?_)
    refine x_retI (np := 7) (x := 0) (by decide +kernel) l13 (Or.inl (by decide +kernel)) ⟨_, rfl, l13, ?_⟩
    refine x_const (np := 9) (x := 9223372043297226753) (a := 2147483649) (by decide +kernel) (by decide) (by decide) ?_
    obtain ⟨v14, q15⟩ : ∃ z, z + 2147483649 = (h 76 0) + 2147483648 := ⟨(h 76 0) + 2147483648 - 2147483649, by omega⟩
    refine x_isub (np := 10) (x := 0) (v := v14) (by decide +kernel) l13 (by decide) (by omega) (by omega) ?_
    refine x_cI (t := 6) (mj := 174) (n := 3) (rc := 12) (ml := 4) (nr := 2) (np := 13) (as := [x_r 75, iv_c 2147483648, iv_c v14]) (rest := [iv_c (2147483808 + 4 * u8), x_r 75]) (lo1 := [x_r 75, iv_c 2147483648, iv_c v14, 147573952589676412928]) (by decide +kernel) (by decide) (by decide +kernel) (x_rb_of (by decide +kernel)) rfl rfl (x_wr (by decide) (x_wi (by decide) (x_wi (by omega) x_wn))) (x_wi (by omega) (x_wr (by decide) x_wn)) (by decide) rfl (c174_75 hJ  (by omega) (by omega)) (fun v16 h19 l17 q18 => ?_)
    obtain ⟨j20, f21, b22, c23, c24, c25, c26, c27⟩ := q18
    have f28 := Fr.trans hF f21 (by decide)
    have b29 := jB (e := 7) 0 hJ rg_75_7_0_1 (by omega) (by omega)
    have b30 := jB (e := 7) 0 j20 rg_75_7_0_1 (by omega) (by omega)
    have b31 := c27 (by omega)
    refine x_nI (t := 6) (mj := 176) (n := 3) (rc := 12) (ml := 3) (nr := 0) (np := 16) (as := [x_r 75, iv_c (2147483808 + 4 * u8), iv_c v16]) (rest := []) (lo1 := [x_r 75, iv_c (2147483808 + 4 * u8), iv_c v16]) (by decide +kernel) (by decide) (by decide +kernel) (x_rb_of (by decide +kernel)) rfl rfl (x_wr (by decide) (x_wi (by omega) (x_wi l17 x_wn))) x_wn (by decide) rfl ?_
    refine x_aload (np := 1) (x := 0) (by decide +kernel) rfl (x_nc_le (by decide)) ?_
    have q32 : h19 75 3 = 78 := by have z := jB (e := 3) 0 j20 rg_75_3_0_1 (by decide) (by decide); omega
    refine x_getR (np := 4) (x := 707) (f := 3) (q := 78) (by decide +kernel) (by decide) (by decide +kernel) q32 ?_
    refine x_iload (np := 5) (x := 1) (by decide +kernel) rfl (by omega) ?_
    refine x_iload (np := 6) (x := 2) (by decide +kernel) rfl l17 ?_
    refine x_ast (np := 7) (x := 0) (kd := 1) (n := 290) (i := (160 + 4 * u8)) (by decide +kernel) (Or.inl rfl) (by decide +kernel) (by omega) (by omega) (by decide) l17 (fun z => absurd z (by decide)) ?_
    have j34 := jU (e := (160 + 4 * u8)) (v := v16) u8 j20 rg_78_160_4_10 (by omega) (by omega) (by omega)
    have f36 := jF (e := (160 + 4 * u8)) (v := v16) u8 f28 rg_78_160_4_10 (by omega) (by omega) (by decide)
    generalize e35 : x_up h19 78 (160 + 4 * u8) v16 = h33 at j34 f36 ⊢
    refine x_iload (np := 8) (x := 2) (by decide +kernel) rfl l17 ?_
    refine x_ifz (k := 2) (tg := 15) (np := 11) (by decide +kernel) (by decide) l17 (fun q37 => ?_) (fun q38 => ?_)
    · have q37 : v16 < 2147483648 := q37
      refine x_const (np := 16) (x := 9223372039002259456) (a := 2147483648) (by decide +kernel) (by decide) (by decide) ?_
      refine x_retI (np := 17) (x := 0) (by decide +kernel) (by decide) (Or.inr ⟨by decide +kernel, by omega, by omega⟩) ⟨_, rfl, (by decide), ?_⟩
      refine x_retI (np := 17) (x := 0) (by decide +kernel) (by decide) (Or.inr ⟨by decide +kernel, by omega, by omega⟩) ⟨_, rfl, (by decide), ?_⟩
      refine x_ifz (k := 0) (tg := 81) (np := 34) (by decide +kernel) (by decide) (by decide) (fun q39 => ?_) (fun q40 => ?_)
      · have q39 : 2147483648 = 2147483648 := q39
        refine x_const (np := 82) (x := 9223372039002259456) (a := 2147483648) (by decide +kernel) (by decide) (by decide) ?_
        refine x_retI (np := 83) (x := 0) (by decide +kernel) (by decide) (Or.inr ⟨by decide +kernel, by omega, by omega⟩) ⟨_, rfl, (by decide), ?_⟩
        exact ⟨j34, f36, (by omega), (fun z => absurd z (by omega))⟩
      have q40 : ¬ (2147483648 = 2147483648) := q40
      exfalso; omega
    have q38 : ¬ (v16 < 2147483648) := q38
    have b41 := c24 (by omega)
    have b42 := c25 (by omega)
    have b43 := c26 (by omega)
    refine x_const (np := 12) (x := 9223372043297226753) (a := 2147483649) (by decide +kernel) (by decide) (by decide) ?_
    refine x_goto (np := 15) (x := 16) (by decide +kernel) ?_
    refine x_retI (np := 17) (x := 0) (by decide +kernel) (by decide) (Or.inr ⟨by decide +kernel, by omega, by omega⟩) ⟨_, rfl, (by decide), ?_⟩
    refine x_retI (np := 17) (x := 0) (by decide +kernel) (by decide) (Or.inr ⟨by decide +kernel, by omega, by omega⟩) ⟨_, rfl, (by decide), ?_⟩
    refine x_ifz (k := 0) (tg := 81) (np := 34) (by decide +kernel) (by decide) (by decide) (fun q44 => ?_) (fun q45 => ?_)
    · have q44 : 2147483649 = 2147483648 := q44
      exfalso; omega
    have q45 : ¬ (2147483649 = 2147483648) := q45
    refine x_aload (np := 35) (x := 0) (by decide +kernel) rfl (x_nc_le (by decide)) ?_
    refine x_ldcB (i := 2) (idx := 147) (tx := "day") (by rw [tb_y183]; exact List.mem_of_getElem? (i := 37) rfl) (by decide) (by rw [tb_b183]; decide +kernel) ?_
    refine x_cI (t := 6) (mj := 172) (n := 2) (rc := 12) (ml := 2) (nr := 0) (np := 40) (as := [x_r 75, x_b (2 + 1)]) (rest := []) (lo1 := [x_r 75, x_b (2 + 1)]) (by decide +kernel) (by decide) (by decide +kernel) (x_rb_of (by decide +kernel)) rfl rfl (x_wr (by decide) (x_wB (by decide) x_wn)) x_wn (by decide) rfl (c172_75_S0 j34  (by decide)) (fun v46 h49 l47 q48 => ?_)
    obtain ⟨j50, f51, b52, c53, c54⟩ := q48
    have f55 := Fr.trans f36 f51 (by decide)
    have q56 : h33 75 7 = h19 75 7 := by rw [← e35]; exact x_up_k (by decide)
    have b57 := jB (e := 7) 0 j50 rg_75_7_0_1 (by omega) (by omega)
    have q58 : h33 75 7 = h19 75 7 := by rw [← e35]; exact x_up_k (by decide)
    refine x_ifz (k := 0) (tg := 81) (np := 43) (by decide +kernel) (by decide) l47 (fun q59 => ?_) (fun q60 => ?_)
    · have q59 : v46 = 2147483648 := q59
      refine x_const (np := 82) (x := 9223372039002259456) (a := 2147483648) (by decide +kernel) (by decide) (by decide) ?_
      refine x_retI (np := 83) (x := 0) (by decide +kernel) (by decide) (Or.inr ⟨by decide +kernel, by omega, by omega⟩) ⟨_, rfl, (by decide), ?_⟩
      exact ⟨j50, f55, (by omega), (fun z => absurd z (by omega))⟩
    have q60 : ¬ (v46 = 2147483648) := q60
    have b61 := c54 (by omega)
    refine x_aload (np := 44) (x := 0) (by decide +kernel) rfl (x_nc_le (by decide)) ?_
    refine x_iload (np := 45) (x := 1) (by decide +kernel) rfl (by omega) ?_
    refine x_const (np := 46) (x := 9223372043297226753) (a := 2147483649) (by decide +kernel) (by decide) (by decide) ?_
    refine x_iadd (np := 47) (x := 0) (v := (2147483809 + 4 * u8)) (by decide +kernel) (by omega) (by decide) (by omega) (by omega) ?_
    refine x_const (np := 48) (x := 9223372039002259456) (a := 2147483648) (by decide +kernel) (by decide) (by decide) ?_
    refine x_nI (t := 6) (mj := 178) (n := 3) (rc := 12) (ml := 3) (nr := 0) (np := 51) (as := [x_r 75, iv_c (2147483809 + 4 * u8), iv_c 2147483648]) (rest := []) (lo1 := [x_r 75, iv_c (2147483809 + 4 * u8), iv_c 2147483648]) (by decide +kernel) (by decide) (by decide +kernel) (x_rb_of (by decide +kernel)) rfl rfl (x_wr (by decide) (x_wi (by omega) (x_wi (by decide) x_wn))) x_wn (by decide) rfl ?_
    refine x_aload (np := 1) (x := 0) (by decide +kernel) rfl (x_nc_le (by decide)) ?_
    refine x_iload (np := 2) (x := 1) (by decide +kernel) rfl (by omega) ?_
    refine x_aload (np := 3) (x := 0) (by decide +kernel) rfl (x_nc_le (by decide)) ?_
    refine x_iload (np := 4) (x := 2) (by decide +kernel) rfl (by decide) ?_
    refine x_const (np := 6) (x := 9223372086246899723) (a := 2147483659) (by decide +kernel) (by decide) (by decide) ?_
    refine x_cI (t := 6) (mj := 174) (n := 3) (rc := 12) (ml := 4) (nr := 2) (np := 9) (as := [x_r 75, iv_c 2147483648, iv_c 2147483659]) (rest := [iv_c (2147483809 + 4 * u8), x_r 75]) (lo1 := [x_r 75, iv_c 2147483648, iv_c 2147483659, 147573952589676412928]) (by decide +kernel) (by decide) (by decide +kernel) (x_rb_of (by decide +kernel)) rfl rfl (x_wr (by decide) (x_wi (by decide) (x_wi (by decide) x_wn))) (x_wi (by omega) (x_wr (by decide) x_wn)) (by decide) rfl (c174_75 j50  (by omega) (by omega)) (fun v62 h65 l63 q64 => ?_)
    obtain ⟨j66, f67, b68, c69, c70, c71, c72, c73⟩ := q64
    have f74 := Fr.trans f55 f67 (by decide)
    have b75 := jB (e := 7) 0 j66 rg_75_7_0_1 (by omega) (by omega)
    have b76 := c73 (by omega)
    refine x_nI (t := 6) (mj := 176) (n := 3) (rc := 12) (ml := 3) (nr := 0) (np := 12) (as := [x_r 75, iv_c (2147483809 + 4 * u8), iv_c v62]) (rest := []) (lo1 := [x_r 75, iv_c (2147483809 + 4 * u8), iv_c v62]) (by decide +kernel) (by decide) (by decide +kernel) (x_rb_of (by decide +kernel)) rfl rfl (x_wr (by decide) (x_wi (by omega) (x_wi l63 x_wn))) x_wn (by decide) rfl ?_
    refine x_aload (np := 1) (x := 0) (by decide +kernel) rfl (x_nc_le (by decide)) ?_
    have q77 : h65 75 3 = 78 := by have z := jB (e := 3) 0 j66 rg_75_3_0_1 (by decide) (by decide); omega
    refine x_getR (np := 4) (x := 707) (f := 3) (q := 78) (by decide +kernel) (by decide) (by decide +kernel) q77 ?_
    refine x_iload (np := 5) (x := 1) (by decide +kernel) rfl (by omega) ?_
    refine x_iload (np := 6) (x := 2) (by decide +kernel) rfl l63 ?_
    refine x_ast (np := 7) (x := 0) (kd := 1) (n := 290) (i := (161 + 4 * u8)) (by decide +kernel) (Or.inl rfl) (by decide +kernel) (by omega) (by omega) (by decide) l63 (fun z => absurd z (by decide)) ?_
    have j79 := jU (e := (161 + 4 * u8)) (v := v62) u8 j66 rg_78_161_4_10 (by omega) (by omega) (by omega)
    have f81 := jF (e := (161 + 4 * u8)) (v := v62) u8 f74 rg_78_161_4_10 (by omega) (by omega) (by decide)
    generalize e80 : x_up h65 78 (161 + 4 * u8) v62 = h78 at j79 f81 ⊢
    refine x_iload (np := 8) (x := 2) (by decide +kernel) rfl l63 ?_
    refine x_ifz (k := 2) (tg := 15) (np := 11) (by decide +kernel) (by decide) l63 (fun q82 => ?_) (fun q83 => ?_)
    · have q82 : v62 < 2147483648 := q82
      refine x_const (np := 16) (x := 9223372039002259456) (a := 2147483648) (by decide +kernel) (by decide) (by decide) ?_
      refine x_retI (np := 17) (x := 0) (by decide +kernel) (by decide) (Or.inr ⟨by decide +kernel, by omega, by omega⟩) ⟨_, rfl, (by decide), ?_⟩
      refine x_retI (np := 13) (x := 0) (by decide +kernel) (by decide) (Or.inr ⟨by decide +kernel, by omega, by omega⟩) ⟨_, rfl, (by decide), ?_⟩
      refine x_ifz (k := 0) (tg := 81) (np := 54) (by decide +kernel) (by decide) (by decide) (fun q84 => ?_) (fun q85 => ?_)
      · have q84 : 2147483648 = 2147483648 := q84
        refine x_const (np := 82) (x := 9223372039002259456) (a := 2147483648) (by decide +kernel) (by decide) (by decide) ?_
        refine x_retI (np := 83) (x := 0) (by decide +kernel) (by decide) (Or.inr ⟨by decide +kernel, by omega, by omega⟩) ⟨_, rfl, (by decide), ?_⟩
        exact ⟨j79, f81, (by omega), (fun z => absurd z (by omega))⟩
      have q85 : ¬ (2147483648 = 2147483648) := q85
      exfalso; omega
    have q83 : ¬ (v62 < 2147483648) := q83
    have b86 := c70 (by omega)
    have b87 := c71 (by omega)
    have b88 := c72 (by omega)
    refine x_const (np := 12) (x := 9223372043297226753) (a := 2147483649) (by decide +kernel) (by decide) (by decide) ?_
    refine x_goto (np := 15) (x := 16) (by decide +kernel) ?_
    refine x_retI (np := 17) (x := 0) (by decide +kernel) (by decide) (Or.inr ⟨by decide +kernel, by omega, by omega⟩) ⟨_, rfl, (by decide), ?_⟩
    refine x_retI (np := 13) (x := 0) (by decide +kernel) (by decide) (Or.inr ⟨by decide +kernel, by omega, by omega⟩) ⟨_, rfl, (by decide), ?_⟩
    refine x_ifz (k := 0) (tg := 81) (np := 54) (by decide +kernel) (by decide) (by decide) (fun q89 => ?_) (fun q90 => ?_)
    · have q89 : 2147483649 = 2147483648 := q89
      exfalso; omega
    have q90 : ¬ (2147483649 = 2147483648) := q90
    refine x_aload (np := 55) (x := 0) (by decide +kernel) rfl (x_nc_le (by decide)) ?_
    refine x_ldcB (i := 7) (idx := 167) (tx := "read") (by rw [tb_y183]; exact List.mem_of_getElem? (i := 46) rfl) (by decide) (by rw [tb_b183]; decide +kernel) ?_
    refine x_cI (t := 6) (mj := 172) (n := 2) (rc := 12) (ml := 2) (nr := 0) (np := 60) (as := [x_r 75, x_b (7 + 1)]) (rest := []) (lo1 := [x_r 75, x_b (7 + 1)]) (by decide +kernel) (by decide) (by decide +kernel) (x_rb_of (by decide +kernel)) rfl rfl (x_wr (by decide) (x_wB (by decide) x_wn)) x_wn (by decide) rfl (c172_75_S0 j79  (by decide)) (fun v91 h94 l92 q93 => ?_)
    obtain ⟨j95, f96, b97, c98, c99⟩ := q93
    have f100 := Fr.trans f81 f96 (by decide)
    have q101 : h78 75 7 = h65 75 7 := by rw [← e80]; exact x_up_k (by decide)
    have b102 := jB (e := 7) 0 j95 rg_75_7_0_1 (by omega) (by omega)
    have q103 : h78 75 7 = h65 75 7 := by rw [← e80]; exact x_up_k (by decide)
    refine x_ifz (k := 0) (tg := 81) (np := 63) (by decide +kernel) (by decide) l92 (fun q104 => ?_) (fun q105 => ?_)
    · have q104 : v91 = 2147483648 := q104
      refine x_const (np := 82) (x := 9223372039002259456) (a := 2147483648) (by decide +kernel) (by decide) (by decide) ?_
      refine x_retI (np := 83) (x := 0) (by decide +kernel) (by decide) (Or.inr ⟨by decide +kernel, by omega, by omega⟩) ⟨_, rfl, (by decide), ?_⟩
      exact ⟨j95, f100, (by omega), (fun z => absurd z (by omega))⟩
    have q105 : ¬ (v91 = 2147483648) := q105
    have b106 := c99 (by omega)
    refine x_aload (np := 64) (x := 0) (by decide +kernel) rfl (x_nc_le (by decide)) ?_
    refine x_iload (np := 65) (x := 1) (by decide +kernel) rfl (by omega) ?_
    refine x_const (np := 66) (x := 9223372047592194050) (a := 2147483650) (by decide +kernel) (by decide) (by decide) ?_
    refine x_iadd (np := 67) (x := 0) (v := (2147483810 + 4 * u8)) (by decide +kernel) (by omega) (by decide) (by omega) (by omega) ?_
    refine x_aload (np := 68) (x := 0) (by decide +kernel) rfl (x_nc_le (by decide)) ?_
    have q107 : h94 75 3 = 78 := by have z := jB (e := 3) 0 j95 rg_75_3_0_1 (by decide) (by decide); omega
    refine x_getR (np := 71) (x := 707) (f := 3) (q := 78) (by decide +kernel) (by decide) (by decide +kernel) q107 ?_
    refine x_iload (np := 72) (x := 1) (by decide +kernel) rfl (by omega) ?_
    refine x_const (np := 73) (x := 9223372043297226753) (a := 2147483649) (by decide +kernel) (by decide) (by decide) ?_
    refine x_iadd (np := 74) (x := 0) (v := (2147483809 + 4 * u8)) (by decide +kernel) (by omega) (by decide) (by omega) (by omega) ?_
    have q108 : h94 78 (161 + 4 * u8) = h78 78 (161 + 4 * u8) := jK u8 f96 rg_78_161_4_10 (by omega) (by omega) (by decide)
    have q109 : h78 78 (161 + 4 * u8) = v62 := by rw [← e80]; exact x_up_at
    refine x_aldC (np := 75) (x := 0) (n := 290) (i := (161 + 4 * u8)) (q := v62) (by decide +kernel) (by decide +kernel) (by omega) (by omega) (by decide) (q108.trans q109) (fun l110 => ?_)
    refine x_nI (t := 6) (mj := 178) (n := 3) (rc := 12) (ml := 3) (nr := 0) (np := 78) (as := [x_r 75, iv_c (2147483810 + 4 * u8), iv_c v62]) (rest := []) (lo1 := [x_r 75, iv_c (2147483810 + 4 * u8), iv_c v62]) (by decide +kernel) (by decide) (by decide +kernel) (x_rb_of (by decide +kernel)) rfl rfl (x_wr (by decide) (x_wi (by omega) (x_wi l63 x_wn))) x_wn (by decide) rfl ?_
    refine x_aload (np := 1) (x := 0) (by decide +kernel) rfl (x_nc_le (by decide)) ?_
    refine x_iload (np := 2) (x := 1) (by decide +kernel) rfl (by omega) ?_
    refine x_aload (np := 3) (x := 0) (by decide +kernel) rfl (x_nc_le (by decide)) ?_
    refine x_iload (np := 4) (x := 2) (by decide +kernel) rfl l63 ?_
    refine x_const (np := 6) (x := 9223372086246899723) (a := 2147483659) (by decide +kernel) (by decide) (by decide) ?_
    refine x_cI (t := 6) (mj := 174) (n := 3) (rc := 12) (ml := 4) (nr := 2) (np := 9) (as := [x_r 75, iv_c v62, iv_c 2147483659]) (rest := [iv_c (2147483810 + 4 * u8), x_r 75]) (lo1 := [x_r 75, iv_c v62, iv_c 2147483659, 147573952589676412928]) (by decide +kernel) (by decide) (by decide +kernel) (x_rb_of (by decide +kernel)) rfl rfl (x_wr (by decide) (x_wi l63 (x_wi (by decide) x_wn))) (x_wi (by omega) (x_wr (by decide) x_wn)) (by decide) rfl (c174_75 j95  (by omega) (by omega)) (fun v111 h114 l112 q113 => ?_)
    obtain ⟨j115, f116, b117, c118, c119, c120, c121, c122⟩ := q113
    have f123 := Fr.trans f100 f116 (by decide)
    have b124 := jB (e := 7) 0 j115 rg_75_7_0_1 (by omega) (by omega)
    have b125 := c122 (by omega)
    refine x_nI (t := 6) (mj := 176) (n := 3) (rc := 12) (ml := 3) (nr := 0) (np := 12) (as := [x_r 75, iv_c (2147483810 + 4 * u8), iv_c v111]) (rest := []) (lo1 := [x_r 75, iv_c (2147483810 + 4 * u8), iv_c v111]) (by decide +kernel) (by decide) (by decide +kernel) (x_rb_of (by decide +kernel)) rfl rfl (x_wr (by decide) (x_wi (by omega) (x_wi l112 x_wn))) x_wn (by decide) rfl ?_
    refine x_aload (np := 1) (x := 0) (by decide +kernel) rfl (x_nc_le (by decide)) ?_
    have q126 : h114 75 3 = 78 := by have z := jB (e := 3) 0 j115 rg_75_3_0_1 (by decide) (by decide); omega
    refine x_getR (np := 4) (x := 707) (f := 3) (q := 78) (by decide +kernel) (by decide) (by decide +kernel) q126 ?_
    refine x_iload (np := 5) (x := 1) (by decide +kernel) rfl (by omega) ?_
    refine x_iload (np := 6) (x := 2) (by decide +kernel) rfl l112 ?_
    refine x_ast (np := 7) (x := 0) (kd := 1) (n := 290) (i := (162 + 4 * u8)) (by decide +kernel) (Or.inl rfl) (by decide +kernel) (by omega) (by omega) (by decide) l112 (fun z => absurd z (by decide)) ?_
    have j128 := jU (e := (162 + 4 * u8)) (v := v111) u8 j115 rg_78_162_4_10 (by omega) (by omega) (by omega)
    have f130 := jF (e := (162 + 4 * u8)) (v := v111) u8 f123 rg_78_162_4_10 (by omega) (by omega) (by decide)
    generalize e129 : x_up h114 78 (162 + 4 * u8) v111 = h127 at j128 f130 ⊢
    refine x_iload (np := 8) (x := 2) (by decide +kernel) rfl l112 ?_
    refine x_ifz (k := 2) (tg := 15) (np := 11) (by decide +kernel) (by decide) l112 (fun q131 => ?_) (fun q132 => ?_)
    · have q131 : v111 < 2147483648 := q131
      refine x_const (np := 16) (x := 9223372039002259456) (a := 2147483648) (by decide +kernel) (by decide) (by decide) ?_
      refine x_retI (np := 17) (x := 0) (by decide +kernel) (by decide) (Or.inr ⟨by decide +kernel, by omega, by omega⟩) ⟨_, rfl, (by decide), ?_⟩
      refine x_retI (np := 13) (x := 0) (by decide +kernel) (by decide) (Or.inr ⟨by decide +kernel, by omega, by omega⟩) ⟨_, rfl, (by decide), ?_⟩
      refine x_ifz (k := 1) (tg := 83) (np := 81) (by decide +kernel) (by decide) (by decide) (fun q133 => ?_) (fun q134 => ?_)
      · have q133 : 2147483648 ≠ 2147483648 := q133
        exfalso; omega
      have q134 : ¬ (2147483648 ≠ 2147483648) := q134
      refine x_const (np := 82) (x := 9223372039002259456) (a := 2147483648) (by decide +kernel) (by decide) (by decide) ?_
      refine x_retI (np := 83) (x := 0) (by decide +kernel) (by decide) (Or.inr ⟨by decide +kernel, by omega, by omega⟩) ⟨_, rfl, (by decide), ?_⟩
      exact ⟨j128, f130, (by omega), (fun z => absurd z (by omega))⟩
    have q132 : ¬ (v111 < 2147483648) := q132
    have b135 := c119 (by omega)
    have b136 := c120 (by omega)
    have b137 := c121 (by omega)
    refine x_const (np := 12) (x := 9223372043297226753) (a := 2147483649) (by decide +kernel) (by decide) (by decide) ?_
    refine x_goto (np := 15) (x := 16) (by decide +kernel) ?_
    refine x_retI (np := 17) (x := 0) (by decide +kernel) (by decide) (Or.inr ⟨by decide +kernel, by omega, by omega⟩) ⟨_, rfl, (by decide), ?_⟩
    refine x_retI (np := 13) (x := 0) (by decide +kernel) (by decide) (Or.inr ⟨by decide +kernel, by omega, by omega⟩) ⟨_, rfl, (by decide), ?_⟩
    refine x_ifz (k := 1) (tg := 83) (np := 81) (by decide +kernel) (by decide) (by decide) (fun q138 => ?_) (fun q139 => ?_)
    · have q138 : 2147483649 ≠ 2147483648 := q138
      refine x_aload (np := 84) (x := 0) (by decide +kernel) rfl (x_nc_le (by decide)) ?_
      have q140 : h127 75 3 = 78 := by have z := jB (e := 3) 0 j128 rg_75_3_0_1 (by decide) (by decide); omega
      refine x_getR (np := 87) (x := 707) (f := 3) (q := 78) (by decide +kernel) (by decide) (by decide +kernel) q140 ?_
      refine x_iload (np := 88) (x := 1) (by decide +kernel) rfl (by omega) ?_
      refine x_const (np := 89) (x := 9223372051887161347) (a := 2147483651) (by decide +kernel) (by decide) (by decide) ?_
      refine x_iadd (np := 90) (x := 0) (v := (2147483811 + 4 * u8)) (by decide +kernel) (by omega) (by decide) (by omega) (by omega) ?_
      refine x_const (np := 91) (x := 9223372034707292159) (a := 2147483647) (by decide +kernel) (by decide) (by decide) ?_
      refine x_ast (np := 92) (x := 0) (kd := 1) (n := 290) (i := (163 + 4 * u8)) (by decide +kernel) (Or.inl rfl) (by decide +kernel) (by omega) (by omega) (by decide) (by decide) (fun z => absurd z (by decide)) ?_
      have j142 := jU (e := (163 + 4 * u8)) (v := 2147483647) u8 j128 rg_78_163_4_10 (by omega) (by omega) (by omega)
      have f144 := jF (e := (163 + 4 * u8)) (v := 2147483647) u8 f130 rg_78_163_4_10 (by omega) (by omega) (by decide)
      generalize e143 : x_up h127 78 (163 + 4 * u8) 2147483647 = h141 at j142 f144 ⊢
      refine x_aload (np := 93) (x := 0) (by decide +kernel) rfl (x_nc_le (by decide)) ?_
      have q145 : h141 75 3 = 78 := by have z := jB (e := 3) 0 j142 rg_75_3_0_1 (by decide) (by decide); omega
      refine x_getR (np := 96) (x := 707) (f := 3) (q := 78) (by decide +kernel) (by decide) (by decide +kernel) q145 ?_
      refine x_const (np := 97) (x := 9223372051887161347) (a := 2147483651) (by decide +kernel) (by decide) (by decide) ?_
      refine x_dup2 (np := 98) (x := 0) (by decide +kernel) (by have z := (iw_c_lt (a := 2147483651) (by decide)).1; omega) (by have z := x_nc_le (k := 78) (by decide); unfold x_r; omega) ?_
      have q146 : h141 78 3 = h127 78 3 := by rw [← e143]; exact x_up_i (by omega)
      have q147 : h127 78 3 = h114 78 3 := by rw [← e129]; exact x_up_i (by omega)
      have q148 : h114 78 3 = h94 78 3 := jK 0 f116 rg_78_3_0_1 (by omega) (by omega) (by decide)
      have q149 : h94 78 3 = h78 78 3 := jK 0 f96 rg_78_3_0_1 (by omega) (by omega) (by decide)
      have q150 : h78 78 3 = h65 78 3 := by rw [← e80]; exact x_up_i (by omega)
      have q151 : h65 78 3 = h49 78 3 := jK 0 f67 rg_78_3_0_1 (by omega) (by omega) (by decide)
      have q152 : h49 78 3 = h33 78 3 := jK 0 f51 rg_78_3_0_1 (by omega) (by omega) (by decide)
      have q153 : h33 78 3 = h19 78 3 := by rw [← e35]; exact x_up_i (by omega)
      have q154 : h19 78 3 = h 78 3 := jK 0 f21 rg_78_3_0_1 (by omega) (by omega) (by decide)
      refine x_aldC (np := 99) (x := 0) (n := 290) (i := 3) (q := (h 78 3)) (by decide +kernel) (by decide +kernel) (by omega) (by omega) (by decide) ((((((((q146.trans q147).trans q148).trans q149).trans q150).trans q151).trans q152).trans q153).trans q154) (fun l155 => ?_)
      refine x_const (np := 100) (x := 9223372043297226753) (a := 2147483649) (by decide +kernel) (by decide) (by decide) ?_
      refine x_iadd (np := 101) (x := 0) (v := (1 + (h 78 3))) (by decide +kernel) l3 (by decide) (by omega) (by omega) ?_
      refine x_ast (np := 102) (x := 0) (kd := 1) (n := 290) (i := 3) (by decide +kernel) (Or.inl rfl) (by decide +kernel) (by omega) (by omega) (by decide) (by omega) (fun z => absurd z (by decide)) ?_
      have j157 := jU (e := 3) (v := (1 + (h 78 3))) 0 j142 rg_78_3_0_1 (by omega) (by omega) (by omega)
      have f159 := jF (e := 3) (v := (1 + (h 78 3))) 0 f144 rg_78_3_0_1 (by omega) (by omega) (by decide)
      generalize e158 : x_up h141 78 3 (1 + (h 78 3)) = h156 at j157 f159 ⊢
      refine x_const (np := 103) (x := 9223372043297226753) (a := 2147483649) (by decide +kernel) (by decide) (by decide) ?_
      have m169 := Cl.fr hC f21 (by decide)
      have m168 : Cl h33 := by rw [← e35]; exact Cl.upR (e := (160 + 4 * u8)) (v := v16) u8 m169 rg_76_160_4_10 (by omega) (by omega) (by omega)
      have m167 := Cl.fr m168 f51 (by decide)
      have m166 := Cl.fr m167 f67 (by decide)
      have m165 : Cl h78 := by rw [← e80]; exact Cl.upR (e := (161 + 4 * u8)) (v := v62) u8 m166 rg_76_161_4_10 (by omega) (by omega) (by omega)
      have m164 := Cl.fr m165 f96 (by decide)
      have m163 := Cl.fr m164 f116 (by decide)
      have m162 : Cl h127 := by rw [← e129]; exact Cl.upR (e := (162 + 4 * u8)) (v := v111) u8 m163 rg_76_162_4_10 (by omega) (by omega) (by omega)
      have m161 : Cl h141 := by rw [← e143]; exact Cl.upR (e := (163 + 4 * u8)) (v := 2147483647) u8 m162 rg_76_163_4_10 (by omega) (by omega) (by omega)
      have m160 : Cl h156 := by rw [← e158]; exact Cl.upR (e := 3) (v := (1 + (h 78 3))) 0 m161 rg_76_3_0_1 (by omega) (by omega) (by omega)
      refine x_retI (np := 104) (x := 0) (by decide +kernel) (by decide) (Or.inr ⟨by decide +kernel, by omega, by omega⟩) ⟨_, rfl, (by decide), ?_⟩
      exact ⟨j157, f159, (by omega), (fun _ => m160)⟩
    have q139 : ¬ (2147483649 ≠ 2147483648) := q139
    exfalso; omega
  have q5 : ¬ ((h 78 3) ≠ 2147483658) := q5
  refine x_const (np := 12) (x := 9223372039002259456) (a := 2147483648) (by decide +kernel) (by decide) (by decide) ?_
  refine x_retI (np := 13) (x := 0) (by decide +kernel) (by decide) (Or.inr ⟨by decide +kernel, by omega, by omega⟩) ⟨_, rfl, (by decide), ?_⟩
  exact ⟨hJ, hF, (by omega), (fun z => absurd z (by omega))⟩
set_option maxHeartbeats 0 in
/-- LentNamesModel.readCourt()Z -/
theorem c182_75 {sc : Nat × Nat} {d  : Nat} {h : xh} (hJ : J h) (hC : Cl h) : X sc 182 (d + 6) (xI fun r h' => J h' ∧ Fr 273678337 h h' ∧ (2147483648 ≤ r ∧ r ≤ 2147483649) ∧ (r = 2147483649 → Cl h')) 0 0 0 [x_r 75, 147573952589676412928] [] h := by
  have hF := Fr.refl 273678337 h
  refine x_aload (np := 1) (x := 0) (by decide +kernel) rfl (x_nc_le (by decide)) ?_
  refine x_ldcB (i := 2) (idx := 147) (tx := "day") (by rw [tb_y182]; exact List.mem_of_getElem? (i := 37) rfl) (by decide) (by rw [tb_b182]; decide +kernel) ?_
  refine x_cI (t := 6) (mj := 172) (n := 2) (rc := 12) (ml := 2) (nr := 0) (np := 6) (as := [x_r 75, x_b (2 + 1)]) (rest := []) (lo1 := [x_r 75, x_b (2 + 1)]) (by decide +kernel) (by decide) (by decide +kernel) (x_rb_of (by decide +kernel)) rfl rfl (x_wr (by decide) (x_wB (by decide) x_wn)) x_wn (by decide) rfl (c172_75_S0 hJ  (by decide)) (fun v1 h4 l2 q3 => ?_)
  obtain ⟨j5, f6, b7, c8, c9⟩ := q3
  have f10 := Fr.trans hF f6 (by decide)
  have b11 := jB (e := 7) 0 hJ rg_75_7_0_1 (by omega) (by omega)
  have b12 := jB (e := 7) 0 j5 rg_75_7_0_1 (by omega) (by omega)
  refine x_ifz (k := 0) (tg := 19) (np := 9) (by decide +kernel) (by decide) l2 (fun q13 => ?_) (fun q14 => ?_)
  · have q13 : v1 = 2147483648 := q13
    refine x_const (np := 20) (x := 9223372034707292159) (a := 2147483647) (by decide +kernel) (by decide) (by decide) ?_
    refine x_istore (np := 21) (x := 1) (lo' := [x_r 75, iv_c 2147483647]) (by decide +kernel) (by decide) (Nat.le_of_ble_eq_true rfl) rfl ?_
    refine x_iload (np := 22) (x := 1) (by decide +kernel) rfl (by decide) ?_
    refine x_ifz (k := 3) (tg := 27) (np := 25) (by decide +kernel) (by decide) (by decide) (fun q15 => ?_) (fun q16 => ?_)
    · have q15 : 2147483648 ≤ 2147483647 := q15
      exfalso; omega
    have q16 : ¬ (2147483648 ≤ 2147483647) := q16
    refine x_const (np := 26) (x := 9223372039002259456) (a := 2147483648) (by decide +kernel) (by decide) (by decide) ?_
    refine x_retI (np := 27) (x := 0) (by decide +kernel) (by decide) (Or.inr ⟨by decide +kernel, by omega, by omega⟩) ⟨_, rfl, (by decide), ?_⟩
    exact ⟨j5, f10, (by omega), (fun z => absurd z (by omega))⟩
  have q14 : ¬ (v1 = 2147483648) := q14
  have b17 := c9 (by omega)
  refine x_aload (np := 10) (x := 0) (by decide +kernel) rfl (x_nc_le (by decide)) ?_
  refine x_const (np := 11) (x := 9223372039002259456) (a := 2147483648) (by decide +kernel) (by decide) (by decide) ?_
  refine x_const (np := 13) (x := 9223372086246899723) (a := 2147483659) (by decide +kernel) (by decide) (by decide) ?_
  refine x_cI (t := 6) (mj := 174) (n := 3) (rc := 12) (ml := 4) (nr := 0) (np := 16) (as := [x_r 75, iv_c 2147483648, iv_c 2147483659]) (rest := []) (lo1 := [x_r 75, iv_c 2147483648, iv_c 2147483659, 147573952589676412928]) (by decide +kernel) (by decide) (by decide +kernel) (x_rb_of (by decide +kernel)) rfl rfl (x_wr (by decide) (x_wi (by decide) (x_wi (by decide) x_wn))) x_wn (by decide) rfl (c174_75 j5  (by omega) (by omega)) (fun v18 h21 l19 q20 => ?_)
  obtain ⟨j22, f23, b24, c25, c26, c27, c28, c29⟩ := q20
  have f30 := Fr.trans f10 f23 (by decide)
  have b31 := jB (e := 7) 0 j22 rg_75_7_0_1 (by omega) (by omega)
  have b32 := c29 (by omega)
  refine x_goto (np := 19) (x := 20) (by decide +kernel) ?_
  refine x_istore (np := 21) (x := 1) (lo' := [x_r 75, iv_c v18]) (by decide +kernel) l19 (Nat.le_of_ble_eq_true rfl) rfl ?_
  refine x_iload (np := 22) (x := 1) (by decide +kernel) rfl l19 ?_
  refine x_ifz (k := 3) (tg := 27) (np := 25) (by decide +kernel) (by decide) l19 (fun q33 => ?_) (fun q34 => ?_)
  · have q33 : 2147483648 ≤ v18 := q33
    have b35 := c26 (by omega)
    have b36 := c27 (by omega)
    have b37 := c28 (by omega)
    refine x_aload (np := 28) (x := 0) (by decide +kernel) rfl (x_nc_le (by decide)) ?_
    have q38 : h21 75 3 = 78 := by have z := jB (e := 3) 0 j22 rg_75_3_0_1 (by decide) (by decide); omega
    refine x_getR (np := 31) (x := 707) (f := 3) (q := 78) (by decide +kernel) (by decide) (by decide +kernel) q38 ?_
    refine x_const (np := 33) (x := 9223372069067030535) (a := 2147483655) (by decide +kernel) (by decide) (by decide) ?_
    refine x_dup2 (np := 34) (x := 0) (by decide +kernel) (by have z := (iw_c_lt (a := 2147483655) (by decide)).1; omega) (by have z := x_nc_le (k := 78) (by decide); unfold x_r; omega) ?_
    have q39 : h21 78 7 = h4 78 7 := jK 0 f23 rg_78_7_0_1 (by omega) (by omega) (by decide)
    have q40 : h4 78 7 = h 78 7 := jK 0 f6 rg_78_7_0_1 (by omega) (by omega) (by decide)
    refine x_aldC (np := 35) (x := 0) (n := 290) (i := 7) (q := (h 78 7)) (by decide +kernel) (by decide +kernel) (by omega) (by omega) (by decide) (q39.trans q40) (fun l41 => ?_)
    refine x_const (np := 36) (x := 9223372043297226753) (a := 2147483649) (by decide +kernel) (by decide) (by decide) ?_
    refine x_iload (np := 37) (x := 1) (by decide +kernel) rfl l19 ?_
    refine x_any (np := 38) (k9 := 3) (by decide +kernel) (by decide) (by decide) l19 (fun v42 l43 => ?_)
    refine x_any (np := 39) (k9 := 1) (by decide +kernel) (by decide) l41 l43 (fun v44 l45 => ?_)
    refine x_ast (np := 40) (x := 0) (kd := 1) (n := 290) (i := 7) (by decide +kernel) (Or.inl rfl) (by decide +kernel) (by omega) (by omega) (by decide) l45 (fun z => absurd z (by decide)) ?_
    have j47 := jU (e := 7) (v := v44) 0 j22 rg_78_7_0_1 (by omega) (by omega) (by omega)
    have f49 := jF (e := 7) (v := v44) 0 f30 rg_78_7_0_1 (by omega) (by omega) (by decide)
    generalize e48 : x_up h21 78 7 v44 = h46 at j47 f49 ⊢
    refine x_const (np := 41) (x := 9223372043297226753) (a := 2147483649) (by decide +kernel) (by decide) (by decide) ?_
    have m52 := Cl.fr hC f6 (by decide)
    have m51 := Cl.fr m52 f23 (by decide)
    have m50 : Cl h46 := by rw [← e48]; exact Cl.upR (e := 7) (v := v44) 0 m51 rg_76_7_0_1 (by omega) (by omega) (by omega)
    refine x_retI (np := 42) (x := 0) (by decide +kernel) (by decide) (Or.inr ⟨by decide +kernel, by omega, by omega⟩) ⟨_, rfl, (by decide), ?_⟩
    exact ⟨j47, f49, (by omega), (fun _ => m50)⟩
  have q34 : ¬ (2147483648 ≤ v18) := q34
  refine x_const (np := 26) (x := 9223372039002259456) (a := 2147483648) (by decide +kernel) (by decide) (by decide) ?_
  refine x_retI (np := 27) (x := 0) (by decide +kernel) (by decide) (Or.inr ⟨by decide +kernel, by omega, by omega⟩) ⟨_, rfl, (by decide), ?_⟩
  exact ⟨j22, f30, (by omega), (fun z => absurd z (by omega))⟩
set_option maxHeartbeats 0 in
/-- LentNamesModel.readDies()Z -/
theorem c181_75 {sc : Nat × Nat} {d  : Nat} {h : xh} (hJ : J h) (hC : Cl h) : X sc 181 (d + 6) (xI fun r h' => J h' ∧ Fr 273678337 h h' ∧ (2147483648 ≤ r ∧ r ≤ 2147483649) ∧ (r = 2147483649 → Cl h')) 0 0 0 [x_r 75, 147573952589676412928, 147573952589676412928] [] h := by
  have hF := Fr.refl 273678337 h
  refine x_aload (np := 1) (x := 0) (by decide +kernel) rfl (x_nc_le (by decide)) ?_
  refine x_const (np := 2) (x := 9223372039002259456) (a := 2147483648) (by decide +kernel) (by decide) (by decide) ?_
  refine x_aload (np := 3) (x := 0) (by decide +kernel) rfl (x_nc_le (by decide)) ?_
  refine x_nI (t := 6) (mj := 157) (n := 1) (rc := 12) (ml := 1) (nr := 2) (np := 6) (as := [x_r 75]) (rest := [iv_c 2147483648, x_r 75]) (lo1 := [x_r 75]) (by decide +kernel) (by decide) (by decide +kernel) (x_rb_of (by decide +kernel)) rfl rfl (x_wr (by decide) x_wn) (x_wi (by decide) (x_wr (by decide) x_wn)) (by decide) rfl ?_
  refine x_aload (np := 1) (x := 0) (by decide +kernel) rfl (x_nc_le (by decide)) ?_
  have q1 : h 75 1 = 76 := by have z := jB (e := 1) 0 hJ rg_75_1_0_1 (by decide) (by decide); omega
  refine x_getR (np := 4) (x := 705) (f := 1) (q := 76) (by decide +kernel) (by decide) (by decide +kernel) q1 ?_
  refine x_const (np := 5) (x := 9223372039002259456) (a := 2147483648) (by decide +kernel) (by decide) (by decide) ?_
  have b2 := jB (e := 0) 0 hJ rg_76_0_0_1 (by omega) (by omega)
  refine x_aldC (np := 6) (x := 0) (n := 1952) (i := 0) (q := (h 76 0)) (by decide +kernel) (by decide +kernel) (by omega) (by omega) (by decide) rfl (fun l3 => ?_)
  refine x_retI (np := 7) (x := 0) (by decide +kernel) l3 (Or.inl (by decide +kernel)) ⟨_, rfl, l3, ?_⟩
  refine x_const (np := 7) (x := 9223372043297226753) (a := 2147483649) (by decide +kernel) (by decide) (by decide) ?_
  obtain ⟨v4, q5⟩ : ∃ z, z + 2147483649 = (h 76 0) + 2147483648 := ⟨(h 76 0) + 2147483648 - 2147483649, by omega⟩
  refine x_isub (np := 8) (x := 0) (v := v4) (by decide +kernel) l3 (by decide) (by omega) (by omega) ?_
  refine x_cI (t := 6) (mj := 174) (n := 3) (rc := 12) (ml := 4) (nr := 0) (np := 11) (as := [x_r 75, iv_c 2147483648, iv_c v4]) (rest := []) (lo1 := [x_r 75, iv_c 2147483648, iv_c v4, 147573952589676412928]) (by decide +kernel) (by decide) (by decide +kernel) (x_rb_of (by decide +kernel)) rfl rfl (x_wr (by decide) (x_wi (by decide) (x_wi (by omega) x_wn))) x_wn (by decide) rfl (c174_75 hJ  (by omega) (by omega)) (fun v6 h9 l7 q8 => ?_)
  obtain ⟨j10, f11, b12, c13, c14, c15, c16, c17⟩ := q8
  have f18 := Fr.trans hF f11 (by decide)
  have b19 := jB (e := 7) 0 hJ rg_75_7_0_1 (by omega) (by omega)
  have b20 := jB (e := 7) 0 j10 rg_75_7_0_1 (by omega) (by omega)
  have b21 := c17 (by omega)
  refine x_istore (np := 12) (x := 1) (lo' := [x_r 75, iv_c v6, 147573952589676412928]) (by decide +kernel) l7 (Nat.le_of_ble_eq_true rfl) rfl ?_
  refine x_iload (np := 13) (x := 1) (by decide +kernel) rfl l7 ?_
  refine x_ifz (k := 2) (tg := 35) (np := 16) (by decide +kernel) (by decide) l7 (fun q22 => ?_) (fun q23 => ?_)
  · have q22 : v6 < 2147483648 := q22
    refine x_const (np := 36) (x := 9223372034707292159) (a := 2147483647) (by decide +kernel) (by decide) (by decide) ?_
    refine x_istore (np := 37) (x := 2) (lo' := [x_r 75, iv_c v6, iv_c 2147483647]) (by decide +kernel) (by decide) (Nat.le_of_ble_eq_true rfl) rfl ?_
    refine x_iload (np := 38) (x := 2) (by decide +kernel) rfl (by decide) ?_
    refine x_ifz (k := 3) (tg := 43) (np := 41) (by decide +kernel) (by decide) (by decide) (fun q24 => ?_) (fun q25 => ?_)
    · have q24 : 2147483648 ≤ 2147483647 := q24
      exfalso; omega
    have q25 : ¬ (2147483648 ≤ 2147483647) := q25
    refine x_const (np := 42) (x := 9223372039002259456) (a := 2147483648) (by decide +kernel) (by decide) (by decide) ?_
    refine x_retI (np := 43) (x := 0) (by decide +kernel) (by decide) (Or.inr ⟨by decide +kernel, by omega, by omega⟩) ⟨_, rfl, (by decide), ?_⟩
    exact ⟨j10, f18, (by omega), (fun z => absurd z (by omega))⟩
  have q23 : ¬ (v6 < 2147483648) := q23
  have b26 := c14 (by omega)
  have b27 := c15 (by omega)
  have b28 := c16 (by omega)
  refine x_aload (np := 17) (x := 0) (by decide +kernel) rfl (x_nc_le (by decide)) ?_
  refine x_ldcB (i := 2) (idx := 147) (tx := "day") (by rw [tb_y181]; exact List.mem_of_getElem? (i := 37) rfl) (by decide) (by rw [tb_b181]; decide +kernel) ?_
  refine x_cI (t := 6) (mj := 172) (n := 2) (rc := 12) (ml := 2) (nr := 0) (np := 22) (as := [x_r 75, x_b (2 + 1)]) (rest := []) (lo1 := [x_r 75, x_b (2 + 1)]) (by decide +kernel) (by decide) (by decide +kernel) (x_rb_of (by decide +kernel)) rfl rfl (x_wr (by decide) (x_wB (by decide) x_wn)) x_wn (by decide) rfl (c172_75_S0 j10  (by decide)) (fun v29 h32 l30 q31 => ?_)
  obtain ⟨j33, f34, b35, c36, c37⟩ := q31
  have f38 := Fr.trans f18 f34 (by decide)
  have b39 := jB (e := 7) 0 j33 rg_75_7_0_1 (by omega) (by omega)
  refine x_ifz (k := 0) (tg := 35) (np := 25) (by decide +kernel) (by decide) l30 (fun q40 => ?_) (fun q41 => ?_)
  · have q40 : v29 = 2147483648 := q40
    refine x_const (np := 36) (x := 9223372034707292159) (a := 2147483647) (by decide +kernel) (by decide) (by decide) ?_
    refine x_istore (np := 37) (x := 2) (lo' := [x_r 75, iv_c v6, iv_c 2147483647]) (by decide +kernel) (by decide) (Nat.le_of_ble_eq_true rfl) rfl ?_
    refine x_iload (np := 38) (x := 2) (by decide +kernel) rfl (by decide) ?_
    refine x_ifz (k := 3) (tg := 43) (np := 41) (by decide +kernel) (by decide) (by decide) (fun q42 => ?_) (fun q43 => ?_)
    · have q42 : 2147483648 ≤ 2147483647 := q42
      exfalso; omega
    have q43 : ¬ (2147483648 ≤ 2147483647) := q43
    refine x_const (np := 42) (x := 9223372039002259456) (a := 2147483648) (by decide +kernel) (by decide) (by decide) ?_
    refine x_retI (np := 43) (x := 0) (by decide +kernel) (by decide) (Or.inr ⟨by decide +kernel, by omega, by omega⟩) ⟨_, rfl, (by decide), ?_⟩
    exact ⟨j33, f38, (by omega), (fun z => absurd z (by omega))⟩
  have q41 : ¬ (v29 = 2147483648) := q41
  have b44 := c37 (by omega)
  refine x_aload (np := 26) (x := 0) (by decide +kernel) rfl (x_nc_le (by decide)) ?_
  refine x_const (np := 27) (x := 9223372039002259456) (a := 2147483648) (by decide +kernel) (by decide) (by decide) ?_
  refine x_const (np := 29) (x := 9223372086246899723) (a := 2147483659) (by decide +kernel) (by decide) (by decide) ?_
  refine x_cI (t := 6) (mj := 174) (n := 3) (rc := 12) (ml := 4) (nr := 0) (np := 32) (as := [x_r 75, iv_c 2147483648, iv_c 2147483659]) (rest := []) (lo1 := [x_r 75, iv_c 2147483648, iv_c 2147483659, 147573952589676412928]) (by decide +kernel) (by decide) (by decide +kernel) (x_rb_of (by decide +kernel)) rfl rfl (x_wr (by decide) (x_wi (by decide) (x_wi (by decide) x_wn))) x_wn (by decide) rfl (c174_75 j33  (by omega) (by omega)) (fun v45 h48 l46 q47 => ?_)
  obtain ⟨j49, f50, b51, c52, c53, c54, c55, c56⟩ := q47
  have f57 := Fr.trans f38 f50 (by decide)
  have b58 := jB (e := 7) 0 j49 rg_75_7_0_1 (by omega) (by omega)
  have b59 := c56 (by omega)
  refine x_goto (np := 35) (x := 36) (by decide +kernel) ?_
  refine x_istore (np := 37) (x := 2) (lo' := [x_r 75, iv_c v6, iv_c v45]) (by decide +kernel) l46 (Nat.le_of_ble_eq_true rfl) rfl ?_
  refine x_iload (np := 38) (x := 2) (by decide +kernel) rfl l46 ?_
  refine x_ifz (k := 3) (tg := 43) (np := 41) (by decide +kernel) (by decide) l46 (fun q60 => ?_) (fun q61 => ?_)
  · have q60 : 2147483648 ≤ v45 := q60
    have b62 := c53 (by omega)
    have b63 := c54 (by omega)
    have b64 := c55 (by omega)
    refine x_aload (np := 44) (x := 0) (by decide +kernel) rfl (x_nc_le (by decide)) ?_
    have q65 : h48 75 3 = 78 := by have z := jB (e := 3) 0 j49 rg_75_3_0_1 (by decide) (by decide); omega
    refine x_getR (np := 47) (x := 707) (f := 3) (q := 78) (by decide +kernel) (by decide) (by decide +kernel) q65 ?_
    refine x_const (np := 49) (x := 9223372073361997832) (a := 2147483656) (by decide +kernel) (by decide) (by decide) ?_
    refine x_iload (np := 50) (x := 1) (by decide +kernel) rfl l7 ?_
    refine x_iadd (np := 51) (x := 0) (v := (8 + v6)) (by decide +kernel) (by decide) l7 (by omega) (by omega) ?_
    refine x_aload (np := 52) (x := 0) (by decide +kernel) rfl (x_nc_le (by decide)) ?_
    have q66 : h48 75 3 = 78 := by have z := jB (e := 3) 0 j49 rg_75_3_0_1 (by decide) (by decide); omega
    refine x_getR (np := 55) (x := 707) (f := 3) (q := 78) (by decide +kernel) (by decide) (by decide +kernel) q66 ?_
    refine x_const (np := 57) (x := 9223372073361997832) (a := 2147483656) (by decide +kernel) (by decide) (by decide) ?_
    refine x_iload (np := 58) (x := 1) (by decide +kernel) rfl l7 ?_
    refine x_iadd (np := 59) (x := 0) (v := (8 + v6)) (by decide +kernel) (by decide) l7 (by omega) (by omega) ?_
    obtain ⟨u67, q68⟩ : ∃ z, v6 = 2147483648 + z := ⟨v6 - 2147483648, by omega⟩
    have q69 : h48 78 (8 + u67) = h32 78 (8 + u67) := jK u67 f50 rg_78_8_1_6 (by omega) (by omega) (by decide)
    have q70 : h32 78 (8 + u67) = h9 78 (8 + u67) := jK u67 f34 rg_78_8_1_6 (by omega) (by omega) (by decide)
    have q71 : h9 78 (8 + u67) = h 78 (8 + u67) := jK u67 f11 rg_78_8_1_6 (by omega) (by omega) (by decide)
    refine x_aldC (np := 60) (x := 0) (n := 290) (i := (8 + u67)) (q := (h 78 (8 + u67))) (by decide +kernel) (by decide +kernel) (by omega) (by omega) (by decide) ((q69.trans q70).trans q71) (fun l72 => ?_)
    refine x_iload (np := 61) (x := 2) (by decide +kernel) rfl l46 ?_
    refine x_min (np := 64) (by decide +kernel) l72 l46 (Nat.le_trans (x_wi l46 (x_wi l72 (x_wi (by omega) (x_wr (by decide) x_wn)))) (by decide)) ?_
    obtain ⟨v73, q74⟩ : ∃ w, w = min (h 78 (8 + u67)) v45 := ⟨_, rfl⟩
    rw [← q74]
    have b75 : v73 ≤ (h 78 (8 + u67)) ∧ v73 ≤ v45 := by omega
    refine x_ast (np := 65) (x := 0) (kd := 1) (n := 290) (i := (8 + u67)) (by decide +kernel) (Or.inl rfl) (by decide +kernel) (by omega) (by omega) (by decide) (by omega) (fun z => absurd z (by decide)) ?_
    have j77 := jU (e := (8 + u67)) (v := v73) u67 j49 rg_78_8_1_6 (by omega) (by omega) (by omega)
    have f79 := jF (e := (8 + u67)) (v := v73) u67 f57 rg_78_8_1_6 (by omega) (by omega) (by decide)
    generalize e78 : x_up h48 78 (8 + u67) v73 = h76 at j77 f79 ⊢
    refine x_const (np := 66) (x := 9223372043297226753) (a := 2147483649) (by decide +kernel) (by decide) (by decide) ?_
    have m83 := Cl.fr hC f11 (by decide)
    have m82 := Cl.fr m83 f34 (by decide)
    have m81 := Cl.fr m82 f50 (by decide)
    have m80 : Cl h76 := by rw [← e78]; exact Cl.upR (e := (8 + u67)) (v := v73) u67 m81 rg_76_8_1_6 (by omega) (by omega) (by omega)
    refine x_retI (np := 67) (x := 0) (by decide +kernel) (by decide) (Or.inr ⟨by decide +kernel, by omega, by omega⟩) ⟨_, rfl, (by decide), ?_⟩
    exact ⟨j77, f79, (by omega), (fun _ => m80)⟩
  have q61 : ¬ (2147483648 ≤ v45) := q61
  refine x_const (np := 42) (x := 9223372039002259456) (a := 2147483648) (by decide +kernel) (by decide) (by decide) ?_
  refine x_retI (np := 43) (x := 0) (by decide +kernel) (by decide) (Or.inr ⟨by decide +kernel, by omega, by omega⟩) ⟨_, rfl, (by decide), ?_⟩
  exact ⟨j49, f57, (by omega), (fun z => absurd z (by omega))⟩
set_option maxHeartbeats 0 in
/-- LentNamesModel.readLate()Z -/
theorem c180_75 {sc : Nat × Nat} {d  : Nat} {h : xh} (hJ : J h) (hC : Cl h) : X sc 180 (d + 6) (xI fun r h' => J h' ∧ Fr 273678337 h h' ∧ (2147483648 ≤ r ∧ r ≤ 2147483649) ∧ (r = 2147483649 → Cl h')) 0 0 0 [x_r 75, 147573952589676412928] [] h := by
  have hF := Fr.refl 273678337 h
  refine x_aload (np := 1) (x := 0) (by decide +kernel) rfl (x_nc_le (by decide)) ?_
  refine x_const (np := 2) (x := 9223372039002259456) (a := 2147483648) (by decide +kernel) (by decide) (by decide) ?_
  refine x_aload (np := 3) (x := 0) (by decide +kernel) rfl (x_nc_le (by decide)) ?_
  have q1 : h 75 3 = 78 := by have z := jB (e := 3) 0 hJ rg_75_3_0_1 (by decide) (by decide); omega
  refine x_getR (np := 6) (x := 707) (f := 3) (q := 78) (by decide +kernel) (by decide) (by decide +kernel) q1 ?_
  refine x_const (np := 7) (x := 9223372047592194050) (a := 2147483650) (by decide +kernel) (by decide) (by decide) ?_
  have b2 := jB (e := 2) 0 hJ rg_78_2_0_1 (by omega) (by omega)
  refine x_aldC (np := 8) (x := 0) (n := 290) (i := 2) (q := (h 78 2)) (by decide +kernel) (by decide +kernel) (by omega) (by omega) (by decide) rfl (fun l3 => ?_)
  refine x_const (np := 9) (x := 9223372043297226753) (a := 2147483649) (by decide +kernel) (by decide) (by decide) ?_
  obtain ⟨v4, q5⟩ : ∃ z, z + 2147483649 = (h 78 2) + 2147483648 := ⟨(h 78 2) + 2147483648 - 2147483649, by omega⟩
  refine x_isub (np := 10) (x := 0) (v := v4) (by decide +kernel) l3 (by decide) (by omega) (by omega) ?_
  refine x_cI (t := 6) (mj := 174) (n := 3) (rc := 12) (ml := 4) (nr := 0) (np := 13) (as := [x_r 75, iv_c 2147483648, iv_c v4]) (rest := []) (lo1 := [x_r 75, iv_c 2147483648, iv_c v4, 147573952589676412928]) (by decide +kernel) (by decide) (by decide +kernel) (x_rb_of (by decide +kernel)) rfl rfl (x_wr (by decide) (x_wi (by decide) (x_wi (by omega) x_wn))) x_wn (by decide) rfl (c174_75 hJ  (by omega) (by omega)) (fun v6 h9 l7 q8 => ?_)
  obtain ⟨j10, f11, b12, c13, c14, c15, c16, c17⟩ := q8
  have f18 := Fr.trans hF f11 (by decide)
  have b19 := jB (e := 7) 0 hJ rg_75_7_0_1 (by omega) (by omega)
  have b20 := jB (e := 7) 0 j10 rg_75_7_0_1 (by omega) (by omega)
  have b21 := c17 (by omega)
  refine x_istore (np := 14) (x := 1) (lo' := [x_r 75, iv_c v6]) (by decide +kernel) l7 (Nat.le_of_ble_eq_true rfl) rfl ?_
  refine x_iload (np := 15) (x := 1) (by decide +kernel) rfl l7 ?_
  refine x_ifz (k := 2) (tg := 55) (np := 18) (by decide +kernel) (by decide) l7 (fun q22 => ?_) (fun q23 => ?_)
  · have q22 : v6 < 2147483648 := q22
    refine x_const (np := 56) (x := 9223372039002259456) (a := 2147483648) (by decide +kernel) (by decide) (by decide) ?_
    refine x_retI (np := 57) (x := 0) (by decide +kernel) (by decide) (Or.inr ⟨by decide +kernel, by omega, by omega⟩) ⟨_, rfl, (by decide), ?_⟩
    exact ⟨j10, f18, (by omega), (fun z => absurd z (by omega))⟩
  have q23 : ¬ (v6 < 2147483648) := q23
  have b24 := c14 (by omega)
  have b25 := c15 (by omega)
  have b26 := c16 (by omega)
  refine x_aload (np := 19) (x := 0) (by decide +kernel) rfl (x_nc_le (by decide)) ?_
  refine x_ldcB (i := 18) (idx := 160) (tx := "by") (by rw [tb_y180]; exact List.mem_of_getElem? (i := 42) rfl) (by decide) (by rw [tb_b180]; decide +kernel) ?_
  refine x_cI (t := 6) (mj := 172) (n := 2) (rc := 12) (ml := 2) (nr := 0) (np := 24) (as := [x_r 75, x_b (18 + 1)]) (rest := []) (lo1 := [x_r 75, x_b (18 + 1)]) (by decide +kernel) (by decide) (by decide +kernel) (x_rb_of (by decide +kernel)) rfl rfl (x_wr (by decide) (x_wB (by decide) x_wn)) x_wn (by decide) rfl (c172_75_S0 j10  (by decide)) (fun v27 h30 l28 q29 => ?_)
  obtain ⟨j31, f32, b33, c34, c35⟩ := q29
  have f36 := Fr.trans f18 f32 (by decide)
  have b37 := jB (e := 7) 0 j31 rg_75_7_0_1 (by omega) (by omega)
  refine x_ifz (k := 0) (tg := 55) (np := 27) (by decide +kernel) (by decide) l28 (fun q38 => ?_) (fun q39 => ?_)
  · have q38 : v27 = 2147483648 := q38
    refine x_const (np := 56) (x := 9223372039002259456) (a := 2147483648) (by decide +kernel) (by decide) (by decide) ?_
    refine x_retI (np := 57) (x := 0) (by decide +kernel) (by decide) (Or.inr ⟨by decide +kernel, by omega, by omega⟩) ⟨_, rfl, (by decide), ?_⟩
    exact ⟨j31, f36, (by omega), (fun z => absurd z (by omega))⟩
  have q39 : ¬ (v27 = 2147483648) := q39
  have b40 := c35 (by omega)
  refine x_aload (np := 28) (x := 0) (by decide +kernel) rfl (x_nc_le (by decide)) ?_
  refine x_const (np := 30) (x := 9223372124901605396) (a := 2147483668) (by decide +kernel) (by decide) (by decide) ?_
  refine x_const (np := 32) (x := 9223372069067030535) (a := 2147483655) (by decide +kernel) (by decide) (by decide) ?_
  refine x_iload (np := 33) (x := 1) (by decide +kernel) rfl l7 ?_
  obtain ⟨u41, q42⟩ : ∃ z, v6 = 2147483648 + z := ⟨v6 - 2147483648, by omega⟩
  refine x_imul (np := 34) (x := 0) (i := 7) (j := u41) (v := (2147483648 + 7 * u41)) (by decide +kernel) (by omega) (by omega) (by omega) (by omega) (by decide) l7 ?_
  refine x_iadd (np := 35) (x := 0) (v := (2147483668 + 7 * u41)) (by decide +kernel) (by decide) (by omega) (by omega) (by omega) ?_
  refine x_const (np := 37) (x := 9223372064772063238) (a := 2147483654) (by decide +kernel) (by decide) (by decide) ?_
  refine x_iadd (np := 38) (x := 0) (v := (2147483674 + 7 * u41)) (by decide +kernel) (by omega) (by decide) (by omega) (by omega) ?_
  refine x_aload (np := 39) (x := 0) (by decide +kernel) rfl (x_nc_le (by decide)) ?_
  refine x_const (np := 40) (x := 9223372043297226753) (a := 2147483649) (by decide +kernel) (by decide) (by decide) ?_
  refine x_const (np := 42) (x := 9223372090541867020) (a := 2147483660) (by decide +kernel) (by decide) (by decide) ?_
  refine x_cI (t := 6) (mj := 174) (n := 3) (rc := 12) (ml := 4) (nr := 2) (np := 45) (as := [x_r 75, iv_c 2147483649, iv_c 2147483660]) (rest := [iv_c (2147483674 + 7 * u41), x_r 75]) (lo1 := [x_r 75, iv_c 2147483649, iv_c 2147483660, 147573952589676412928]) (by decide +kernel) (by decide) (by decide +kernel) (x_rb_of (by decide +kernel)) rfl rfl (x_wr (by decide) (x_wi (by decide) (x_wi (by decide) x_wn))) (x_wi (by omega) (x_wr (by decide) x_wn)) (by decide) rfl (c174_75 j31  (by omega) (by omega)) (fun v44 h47 l45 q46 => ?_)
  obtain ⟨j48, f49, b50, c51, c52, c53, c54, c55⟩ := q46
  have f56 := Fr.trans f36 f49 (by decide)
  have b57 := jB (e := 7) 0 j48 rg_75_7_0_1 (by omega) (by omega)
  have b58 := c55 (by omega)
  refine x_nI (t := 6) (mj := 176) (n := 3) (rc := 12) (ml := 3) (nr := 0) (np := 48) (as := [x_r 75, iv_c (2147483674 + 7 * u41), iv_c v44]) (rest := []) (lo1 := [x_r 75, iv_c (2147483674 + 7 * u41), iv_c v44]) (by decide +kernel) (by decide) (by decide +kernel) (x_rb_of (by decide +kernel)) rfl rfl (x_wr (by decide) (x_wi (by omega) (x_wi l45 x_wn))) x_wn (by decide) rfl ?_
  refine x_aload (np := 1) (x := 0) (by decide +kernel) rfl (x_nc_le (by decide)) ?_
  have q59 : h47 75 3 = 78 := by have z := jB (e := 3) 0 j48 rg_75_3_0_1 (by decide) (by decide); omega
  refine x_getR (np := 4) (x := 707) (f := 3) (q := 78) (by decide +kernel) (by decide) (by decide +kernel) q59 ?_
  refine x_iload (np := 5) (x := 1) (by decide +kernel) rfl (by omega) ?_
  refine x_iload (np := 6) (x := 2) (by decide +kernel) rfl l45 ?_
  refine x_ast (np := 7) (x := 0) (kd := 1) (n := 290) (i := (26 + 7 * u41)) (by decide +kernel) (Or.inl rfl) (by decide +kernel) (by omega) (by omega) (by decide) l45 (fun z => absurd z (by decide)) ?_
  have j61 := jU (e := (26 + 7 * u41)) (v := v44) u41 j48 rg_78_26_7_20 (by omega) (by omega) (by omega)
  have f63 := jF (e := (26 + 7 * u41)) (v := v44) u41 f56 rg_78_26_7_20 (by omega) (by omega) (by decide)
  generalize e62 : x_up h47 78 (26 + 7 * u41) v44 = h60 at j61 f63 ⊢
  refine x_iload (np := 8) (x := 2) (by decide +kernel) rfl l45 ?_
  refine x_ifz (k := 2) (tg := 15) (np := 11) (by decide +kernel) (by decide) l45 (fun q64 => ?_) (fun q65 => ?_)
  · have q64 : v44 < 2147483648 := q64
    refine x_const (np := 16) (x := 9223372039002259456) (a := 2147483648) (by decide +kernel) (by decide) (by decide) ?_
    refine x_retI (np := 17) (x := 0) (by decide +kernel) (by decide) (Or.inr ⟨by decide +kernel, by omega, by omega⟩) ⟨_, rfl, (by decide), ?_⟩
    refine x_ifz (k := 0) (tg := 55) (np := 51) (by decide +kernel) (by decide) (by decide) (fun q66 => ?_) (fun q67 => ?_)
    · have q66 : 2147483648 = 2147483648 := q66
      refine x_const (np := 56) (x := 9223372039002259456) (a := 2147483648) (by decide +kernel) (by decide) (by decide) ?_
      refine x_retI (np := 57) (x := 0) (by decide +kernel) (by decide) (Or.inr ⟨by decide +kernel, by omega, by omega⟩) ⟨_, rfl, (by decide), ?_⟩
      exact ⟨j61, f63, (by omega), (fun z => absurd z (by omega))⟩
    have q67 : ¬ (2147483648 = 2147483648) := q67
    exfalso; omega
  have q65 : ¬ (v44 < 2147483648) := q65
  have b68 := c52 (by omega)
  have b69 := c53 (by omega)
  have b70 := c54 (by omega)
  refine x_const (np := 12) (x := 9223372043297226753) (a := 2147483649) (by decide +kernel) (by decide) (by decide) ?_
  refine x_goto (np := 15) (x := 16) (by decide +kernel) ?_
  refine x_retI (np := 17) (x := 0) (by decide +kernel) (by decide) (Or.inr ⟨by decide +kernel, by omega, by omega⟩) ⟨_, rfl, (by decide), ?_⟩
  refine x_ifz (k := 0) (tg := 55) (np := 51) (by decide +kernel) (by decide) (by decide) (fun q71 => ?_) (fun q72 => ?_)
  · have q71 : 2147483649 = 2147483648 := q71
    exfalso; omega
  have q72 : ¬ (2147483649 = 2147483648) := q72
  refine x_const (np := 52) (x := 9223372043297226753) (a := 2147483649) (by decide +kernel) (by decide) (by decide) ?_
  refine x_goto (np := 55) (x := 56) (by decide +kernel) ?_
  have m76 := Cl.fr hC f11 (by decide)
  have m75 := Cl.fr m76 f32 (by decide)
  have m74 := Cl.fr m75 f49 (by decide)
  have m73 : Cl h60 := by rw [← e62]; exact Cl.upR (e := (26 + 7 * u41)) (v := v44) u41 m74 rg_76_26_7_20 (by omega) (by omega) (by omega)
  refine x_retI (np := 57) (x := 0) (by decide +kernel) (by decide) (Or.inr ⟨by decide +kernel, by omega, by omega⟩) ⟨_, rfl, (by decide), ?_⟩
  exact ⟨j61, f63, (by omega), (fun _ => m73)⟩
set_option maxHeartbeats 0 in
/-- LentNamesModel.readLend()Z -/
theorem c179_75 {sc : Nat × Nat} {d  : Nat} {h : xh} (hJ : J h) (hC : Cl h) : X sc 179 (d + 6) (xI fun r h' => J h' ∧ Fr 273678337 h h' ∧ (2147483648 ≤ r ∧ r ≤ 2147483649) ∧ (r = 2147483649 → Cl h')) 0 0 0 [x_r 75, 147573952589676412928] [] h := by
  have hF := Fr.refl 273678337 h
  refine x_aload (np := 1) (x := 0) (by decide +kernel) rfl (x_nc_le (by decide)) ?_
  have q1 : h 75 3 = 78 := by have z := jB (e := 3) 0 hJ rg_75_3_0_1 (by decide) (by decide); omega
  refine x_getR (np := 4) (x := 707) (f := 3) (q := 78) (by decide +kernel) (by decide) (by decide +kernel) q1 ?_
  refine x_const (np := 5) (x := 9223372047592194050) (a := 2147483650) (by decide +kernel) (by decide) (by decide) ?_
  have b2 := jB (e := 2) 0 hJ rg_78_2_0_1 (by omega) (by omega)
  refine x_aldC (np := 6) (x := 0) (n := 290) (i := 2) (q := (h 78 2)) (by decide +kernel) (by decide +kernel) (by omega) (by omega) (by decide) rfl (fun l3 => ?_)
  refine x_const (np := 8) (x := 9223372124901605396) (a := 2147483668) (by decide +kernel) (by decide) (by decide) ?_
  refine x_icmp (k := 1) (tg := 13) (np := 11) (by decide +kernel) (by decide) l3 (by decide) (fun q4 => ?_) (fun q5 => ?_)
  · have q4 : (h 78 2) ≠ 2147483668 := q4
    refine x_const (np := 15) (x := 9223372124901605396) (a := 2147483668) (by decide +kernel) (by decide) (by decide) ?_
    refine x_const (np := 17) (x := 9223372069067030535) (a := 2147483655) (by decide +kernel) (by decide) (by decide) ?_
    refine x_aload (np := 18) (x := 0) (by decide +kernel) rfl (x_nc_le (by decide)) ?_
    have q6 : h 75 3 = 78 := by have z := jB (e := 3) 0 hJ rg_75_3_0_1 (by decide) (by decide); omega
    refine x_getR (np := 21) (x := 707) (f := 3) (q := 78) (by decide +kernel) (by decide) (by decide +kernel) q6 ?_
    refine x_const (np := 22) (x := 9223372047592194050) (a := 2147483650) (by decide +kernel) (by decide) (by decide) ?_
    refine x_aldC (np := 23) (x := 0) (n := 290) (i := 2) (q := (h 78 2)) (by decide +kernel) (by decide +kernel) (by omega) (by omega) (by decide) rfl (fun l7 => ?_)
    obtain ⟨u8, q9⟩ : ∃ z, (h 78 2) = 2147483648 + z := ⟨(h 78 2) - 2147483648, by omega⟩
    refine x_imul (np := 24) (x := 0) (i := 7) (j := u8) (v := (2147483648 + 7 * u8)) (by decide +kernel) (by omega) (by omega) (by omega) (by omega) (by decide) l3 ?_
    refine x_iadd (np := 25) (x := 0) (v := (2147483668 + 7 * u8)) (by decide +kernel) (by decide) (by omega) (by omega) (by omega) ?_
    refine x_istore (np := 26) (x := 1) (lo' := [x_r 75, iv_c (2147483668 + 7 * u8)]) (by decide +kernel) (by omega) (Nat.le_of_ble_eq_true rfl) rfl ?_
    refine x_aload (np := 27) (x := 0) (by decide +kernel) rfl (x_nc_le (by decide)) ?_
    refine x_iload (np := 28) (x := 1) (by decide +kernel) rfl (by omega) ?_
    refine x_nI (t := 6) (mj := 177) (n := 2) (rc := 12) (ml := 2) (nr := 0) (np := 31) (as := [x_r 75, iv_c (2147483668 + 7 * u8)]) (rest := []) (lo1 := [x_r 75, iv_c (2147483668 + 7 * u8)]) (by decide +kernel) (by decide) (by decide +kernel) (x_rb_of (by decide +kernel)) rfl rfl (x_wr (by decide) (x_wi (by omega) x_wn)) x_wn (by decide) rfl ?_
    refine x_aload (np := 1) (x := 0) (by decide +kernel) rfl (x_nc_le (by decide)) ?_
    refine x_iload (np := 2) (x := 1) (by decide +kernel) rfl (by omega) ?_
    refine x_aload (np := 3) (x := 0) (by decide +kernel) rfl (x_nc_le (by decide)) ?_
    refine x_const (np := 4) (x := 9223372039002259456) (a := 2147483648) (by decide +kernel) (by decide) (by decide) ?_
    refine x_aload (np := 5) (x := 0) (by decide +kernel) rfl (x_nc_le (by decide)) ?_
    refine x_nI (t := 6) (mj := 157) (n := 1) (rc := 12) (ml := 1) (nr := 4) (np := 8) (as := [x_r 75]) (rest := [iv_c 2147483648, x_r 75, iv_c (2147483668 + 7 * u8), x_r 75]) (lo1 := [x_r 75]) (by decide +kernel) (by decide) (by decide +kernel) (x_rb_of (by decide +kernel)) rfl rfl (x_wr (by decide) x_wn) (x_wi (by decide) (x_wr (by decide) (x_wi (by omega) (x_wr (by decide) x_wn)))) (by decide) rfl ?_
    refine x_aload (np := 1) (x := 0) (by decide +kernel) rfl (x_nc_le (by decide)) ?_
    have q11 : h 75 1 = 76 := by have z := jB (e := 1) 0 hJ rg_75_1_0_1 (by decide) (by decide); omega
    refine x_getR (np := 4) (x := 705) (f := 1) (q := 76) (by decide +kernel) (by decide) (by decide +kernel) q11 ?_
    refine x_const (np := 5) (x := 9223372039002259456) (a := 2147483648) (by decide +kernel) (by decide) (by decide) ?_
    have b12 := jB (e := 0) 0 hJ rg_76_0_0_1 (by omega) (by omega)
    refine x_aldC (np := 6) (x := 0) (n := 1952) (i := 0) (q := (h 76 0)) (by decide +kernel) (by decide +kernel) (by omega) (by omega) (by decide) rfl (fun l13 => ?_)
    refine x_retI (np := 7) (x := 0) (by decide +kernel) l13 (Or.inl (by decide +kernel)) ⟨_, rfl, l13, ?_⟩
    refine x_const (np := 9) (x := 9223372043297226753) (a := 2147483649) (by decide +kernel) (by decide) (by decide) ?_
    obtain ⟨v14, q15⟩ : ∃ z, z + 2147483649 = (h 76 0) + 2147483648 := ⟨(h 76 0) + 2147483648 - 2147483649, by omega⟩
    refine x_isub (np := 10) (x := 0) (v := v14) (by decide +kernel) l13 (by decide) (by omega) (by omega) ?_
    refine x_cI (t := 6) (mj := 174) (n := 3) (rc := 12) (ml := 4) (nr := 2) (np := 13) (as := [x_r 75, iv_c 2147483648, iv_c v14]) (rest := [iv_c (2147483668 + 7 * u8), x_r 75]) (lo1 := [x_r 75, iv_c 2147483648, iv_c v14, 147573952589676412928]) (by decide +kernel) (by decide) (by decide +kernel) (x_rb_of (by decide +kernel)) rfl rfl (x_wr (by decide) (x_wi (by decide) (x_wi (by omega) x_wn))) (x_wi (by omega) (x_wr (by decide) x_wn)) (by decide) rfl (c174_75 hJ  (by omega) (by omega)) (fun v16 h19 l17 q18 => ?_)
    obtain ⟨j20, f21, b22, c23, c24, c25, c26, c27⟩ := q18
    have f28 := Fr.trans hF f21 (by decide)
    have b29 := jB (e := 7) 0 hJ rg_75_7_0_1 (by omega) (by omega)
    have b30 := jB (e := 7) 0 j20 rg_75_7_0_1 (by omega) (by omega)
    have b31 := c27 (by omega)
    refine x_nI (t := 6) (mj := 176) (n := 3) (rc := 12) (ml := 3) (nr := 0) (np := 16) (as := [x_r 75, iv_c (2147483668 + 7 * u8), iv_c v16]) (rest := []) (lo1 := [x_r 75, iv_c (2147483668 + 7 * u8), iv_c v16]) (by decide +kernel) (by decide) (by decide +kernel) (x_rb_of (by decide +kernel)) rfl rfl (x_wr (by decide) (x_wi (by omega) (x_wi l17 x_wn))) x_wn (by decide) rfl ?_
    refine x_aload (np := 1) (x := 0) (by decide +kernel) rfl (x_nc_le (by decide)) ?_
    have q32 : h19 75 3 = 78 := by have z := jB (e := 3) 0 j20 rg_75_3_0_1 (by decide) (by decide); omega
    refine x_getR (np := 4) (x := 707) (f := 3) (q := 78) (by decide +kernel) (by decide) (by decide +kernel) q32 ?_
    refine x_iload (np := 5) (x := 1) (by decide +kernel) rfl (by omega) ?_
    refine x_iload (np := 6) (x := 2) (by decide +kernel) rfl l17 ?_
    refine x_ast (np := 7) (x := 0) (kd := 1) (n := 290) (i := (20 + 7 * u8)) (by decide +kernel) (Or.inl rfl) (by decide +kernel) (by omega) (by omega) (by decide) l17 (fun z => absurd z (by decide)) ?_
    have j34 := jU (e := (20 + 7 * u8)) (v := v16) u8 j20 rg_78_20_7_20 (by omega) (by omega) (by omega)
    have f36 := jF (e := (20 + 7 * u8)) (v := v16) u8 f28 rg_78_20_7_20 (by omega) (by omega) (by decide)
    generalize e35 : x_up h19 78 (20 + 7 * u8) v16 = h33 at j34 f36 ⊢
    refine x_iload (np := 8) (x := 2) (by decide +kernel) rfl l17 ?_
    refine x_ifz (k := 2) (tg := 15) (np := 11) (by decide +kernel) (by decide) l17 (fun q37 => ?_) (fun q38 => ?_)
    · have q37 : v16 < 2147483648 := q37
      refine x_const (np := 16) (x := 9223372039002259456) (a := 2147483648) (by decide +kernel) (by decide) (by decide) ?_
      refine x_retI (np := 17) (x := 0) (by decide +kernel) (by decide) (Or.inr ⟨by decide +kernel, by omega, by omega⟩) ⟨_, rfl, (by decide), ?_⟩
      refine x_retI (np := 17) (x := 0) (by decide +kernel) (by decide) (Or.inr ⟨by decide +kernel, by omega, by omega⟩) ⟨_, rfl, (by decide), ?_⟩
      refine x_ifz (k := 0) (tg := 99) (np := 34) (by decide +kernel) (by decide) (by decide) (fun q39 => ?_) (fun q40 => ?_)
      · have q39 : 2147483648 = 2147483648 := q39
        refine x_const (np := 100) (x := 9223372039002259456) (a := 2147483648) (by decide +kernel) (by decide) (by decide) ?_
        refine x_retI (np := 101) (x := 0) (by decide +kernel) (by decide) (Or.inr ⟨by decide +kernel, by omega, by omega⟩) ⟨_, rfl, (by decide), ?_⟩
        exact ⟨j34, f36, (by omega), (fun z => absurd z (by omega))⟩
      have q40 : ¬ (2147483648 = 2147483648) := q40
      exfalso; omega
    have q38 : ¬ (v16 < 2147483648) := q38
    have b41 := c24 (by omega)
    have b42 := c25 (by omega)
    have b43 := c26 (by omega)
    refine x_const (np := 12) (x := 9223372043297226753) (a := 2147483649) (by decide +kernel) (by decide) (by decide) ?_
    refine x_goto (np := 15) (x := 16) (by decide +kernel) ?_
    refine x_retI (np := 17) (x := 0) (by decide +kernel) (by decide) (Or.inr ⟨by decide +kernel, by omega, by omega⟩) ⟨_, rfl, (by decide), ?_⟩
    refine x_retI (np := 17) (x := 0) (by decide +kernel) (by decide) (Or.inr ⟨by decide +kernel, by omega, by omega⟩) ⟨_, rfl, (by decide), ?_⟩
    refine x_ifz (k := 0) (tg := 99) (np := 34) (by decide +kernel) (by decide) (by decide) (fun q44 => ?_) (fun q45 => ?_)
    · have q44 : 2147483649 = 2147483648 := q44
      exfalso; omega
    have q45 : ¬ (2147483649 = 2147483648) := q45
    refine x_aload (np := 35) (x := 0) (by decide +kernel) rfl (x_nc_le (by decide)) ?_
    refine x_ldcB (i := 1) (idx := 142) (tx := "to") (by rw [tb_y179]; exact List.mem_of_getElem? (i := 36) rfl) (by decide) (by rw [tb_b179]; decide +kernel) ?_
    refine x_cI (t := 6) (mj := 172) (n := 2) (rc := 12) (ml := 2) (nr := 0) (np := 40) (as := [x_r 75, x_b (1 + 1)]) (rest := []) (lo1 := [x_r 75, x_b (1 + 1)]) (by decide +kernel) (by decide) (by decide +kernel) (x_rb_of (by decide +kernel)) rfl rfl (x_wr (by decide) (x_wB (by decide) x_wn)) x_wn (by decide) rfl (c172_75_S0 j34  (by decide)) (fun v46 h49 l47 q48 => ?_)
    obtain ⟨j50, f51, b52, c53, c54⟩ := q48
    have f55 := Fr.trans f36 f51 (by decide)
    have q56 : h33 75 7 = h19 75 7 := by rw [← e35]; exact x_up_k (by decide)
    have b57 := jB (e := 7) 0 j50 rg_75_7_0_1 (by omega) (by omega)
    have q58 : h33 75 7 = h19 75 7 := by rw [← e35]; exact x_up_k (by decide)
    refine x_ifz (k := 0) (tg := 99) (np := 43) (by decide +kernel) (by decide) l47 (fun q59 => ?_) (fun q60 => ?_)
    · have q59 : v46 = 2147483648 := q59
      refine x_const (np := 100) (x := 9223372039002259456) (a := 2147483648) (by decide +kernel) (by decide) (by decide) ?_
      refine x_retI (np := 101) (x := 0) (by decide +kernel) (by decide) (Or.inr ⟨by decide +kernel, by omega, by omega⟩) ⟨_, rfl, (by decide), ?_⟩
      exact ⟨j50, f55, (by omega), (fun z => absurd z (by omega))⟩
    have q60 : ¬ (v46 = 2147483648) := q60
    have b61 := c54 (by omega)
    refine x_aload (np := 44) (x := 0) (by decide +kernel) rfl (x_nc_le (by decide)) ?_
    refine x_iload (np := 45) (x := 1) (by decide +kernel) rfl (by omega) ?_
    refine x_const (np := 46) (x := 9223372043297226753) (a := 2147483649) (by decide +kernel) (by decide) (by decide) ?_
    refine x_iadd (np := 47) (x := 0) (v := (2147483669 + 7 * u8)) (by decide +kernel) (by omega) (by decide) (by omega) (by omega) ?_
    refine x_nI (t := 6) (mj := 177) (n := 2) (rc := 12) (ml := 2) (nr := 0) (np := 50) (as := [x_r 75, iv_c (2147483669 + 7 * u8)]) (rest := []) (lo1 := [x_r 75, iv_c (2147483669 + 7 * u8)]) (by decide +kernel) (by decide) (by decide +kernel) (x_rb_of (by decide +kernel)) rfl rfl (x_wr (by decide) (x_wi (by omega) x_wn)) x_wn (by decide) rfl ?_
    refine x_aload (np := 1) (x := 0) (by decide +kernel) rfl (x_nc_le (by decide)) ?_
    refine x_iload (np := 2) (x := 1) (by decide +kernel) rfl (by omega) ?_
    refine x_aload (np := 3) (x := 0) (by decide +kernel) rfl (x_nc_le (by decide)) ?_
    refine x_const (np := 4) (x := 9223372039002259456) (a := 2147483648) (by decide +kernel) (by decide) (by decide) ?_
    refine x_aload (np := 5) (x := 0) (by decide +kernel) rfl (x_nc_le (by decide)) ?_
    refine x_nI (t := 6) (mj := 157) (n := 1) (rc := 12) (ml := 1) (nr := 4) (np := 8) (as := [x_r 75]) (rest := [iv_c 2147483648, x_r 75, iv_c (2147483669 + 7 * u8), x_r 75]) (lo1 := [x_r 75]) (by decide +kernel) (by decide) (by decide +kernel) (x_rb_of (by decide +kernel)) rfl rfl (x_wr (by decide) x_wn) (x_wi (by decide) (x_wr (by decide) (x_wi (by omega) (x_wr (by decide) x_wn)))) (by decide) rfl ?_
    refine x_aload (np := 1) (x := 0) (by decide +kernel) rfl (x_nc_le (by decide)) ?_
    have q62 : h49 75 1 = 76 := by have z := jB (e := 1) 0 j50 rg_75_1_0_1 (by decide) (by decide); omega
    refine x_getR (np := 4) (x := 705) (f := 1) (q := 76) (by decide +kernel) (by decide) (by decide +kernel) q62 ?_
    refine x_const (np := 5) (x := 9223372039002259456) (a := 2147483648) (by decide +kernel) (by decide) (by decide) ?_
    have q63 : h49 76 0 = h33 76 0 := jK 0 f51 rg_76_0_0_1 (by omega) (by omega) (by decide)
    have q64 : h33 76 0 = h19 76 0 := by rw [← e35]; exact x_up_k (by decide)
    have q65 : h19 76 0 = h 76 0 := jK 0 f21 rg_76_0_0_1 (by omega) (by omega) (by decide)
    refine x_aldC (np := 6) (x := 0) (n := 1952) (i := 0) (q := (h 76 0)) (by decide +kernel) (by decide +kernel) (by omega) (by omega) (by decide) ((q63.trans q64).trans q65) (fun l66 => ?_)
    refine x_retI (np := 7) (x := 0) (by decide +kernel) l13 (Or.inl (by decide +kernel)) ⟨_, rfl, l13, ?_⟩
    refine x_const (np := 9) (x := 9223372043297226753) (a := 2147483649) (by decide +kernel) (by decide) (by decide) ?_
    obtain ⟨v67, q68⟩ : ∃ z, z + 2147483649 = (h 76 0) + 2147483648 := ⟨(h 76 0) + 2147483648 - 2147483649, by omega⟩
    refine x_isub (np := 10) (x := 0) (v := v67) (by decide +kernel) l13 (by decide) (by omega) (by omega) ?_
    refine x_cI (t := 6) (mj := 174) (n := 3) (rc := 12) (ml := 4) (nr := 2) (np := 13) (as := [x_r 75, iv_c 2147483648, iv_c v67]) (rest := [iv_c (2147483669 + 7 * u8), x_r 75]) (lo1 := [x_r 75, iv_c 2147483648, iv_c v67, 147573952589676412928]) (by decide +kernel) (by decide) (by decide +kernel) (x_rb_of (by decide +kernel)) rfl rfl (x_wr (by decide) (x_wi (by decide) (x_wi (by omega) x_wn))) (x_wi (by omega) (x_wr (by decide) x_wn)) (by decide) rfl (c174_75 j50  (by omega) (by omega)) (fun v69 h72 l70 q71 => ?_)
    obtain ⟨j73, f74, b75, c76, c77, c78, c79, c80⟩ := q71
    have f81 := Fr.trans f55 f74 (by decide)
    have b82 := jB (e := 7) 0 j73 rg_75_7_0_1 (by omega) (by omega)
    have b83 := c80 (by omega)
    refine x_nI (t := 6) (mj := 176) (n := 3) (rc := 12) (ml := 3) (nr := 0) (np := 16) (as := [x_r 75, iv_c (2147483669 + 7 * u8), iv_c v69]) (rest := []) (lo1 := [x_r 75, iv_c (2147483669 + 7 * u8), iv_c v69]) (by decide +kernel) (by decide) (by decide +kernel) (x_rb_of (by decide +kernel)) rfl rfl (x_wr (by decide) (x_wi (by omega) (x_wi l70 x_wn))) x_wn (by decide) rfl ?_
    refine x_aload (np := 1) (x := 0) (by decide +kernel) rfl (x_nc_le (by decide)) ?_
    have q84 : h72 75 3 = 78 := by have z := jB (e := 3) 0 j73 rg_75_3_0_1 (by decide) (by decide); omega
    refine x_getR (np := 4) (x := 707) (f := 3) (q := 78) (by decide +kernel) (by decide) (by decide +kernel) q84 ?_
    refine x_iload (np := 5) (x := 1) (by decide +kernel) rfl (by omega) ?_
    refine x_iload (np := 6) (x := 2) (by decide +kernel) rfl l70 ?_
    refine x_ast (np := 7) (x := 0) (kd := 1) (n := 290) (i := (21 + 7 * u8)) (by decide +kernel) (Or.inl rfl) (by decide +kernel) (by omega) (by omega) (by decide) l70 (fun z => absurd z (by decide)) ?_
    have j86 := jU (e := (21 + 7 * u8)) (v := v69) u8 j73 rg_78_21_7_20 (by omega) (by omega) (by omega)
    have f88 := jF (e := (21 + 7 * u8)) (v := v69) u8 f81 rg_78_21_7_20 (by omega) (by omega) (by decide)
    generalize e87 : x_up h72 78 (21 + 7 * u8) v69 = h85 at j86 f88 ⊢
    refine x_iload (np := 8) (x := 2) (by decide +kernel) rfl l70 ?_
    refine x_ifz (k := 2) (tg := 15) (np := 11) (by decide +kernel) (by decide) l70 (fun q89 => ?_) (fun q90 => ?_)
    · have q89 : v69 < 2147483648 := q89
      refine x_const (np := 16) (x := 9223372039002259456) (a := 2147483648) (by decide +kernel) (by decide) (by decide) ?_
      refine x_retI (np := 17) (x := 0) (by decide +kernel) (by decide) (Or.inr ⟨by decide +kernel, by omega, by omega⟩) ⟨_, rfl, (by decide), ?_⟩
      refine x_retI (np := 17) (x := 0) (by decide +kernel) (by decide) (Or.inr ⟨by decide +kernel, by omega, by omega⟩) ⟨_, rfl, (by decide), ?_⟩
      refine x_ifz (k := 0) (tg := 99) (np := 53) (by decide +kernel) (by decide) (by decide) (fun q91 => ?_) (fun q92 => ?_)
      · have q91 : 2147483648 = 2147483648 := q91
        refine x_const (np := 100) (x := 9223372039002259456) (a := 2147483648) (by decide +kernel) (by decide) (by decide) ?_
        refine x_retI (np := 101) (x := 0) (by decide +kernel) (by decide) (Or.inr ⟨by decide +kernel, by omega, by omega⟩) ⟨_, rfl, (by decide), ?_⟩
        exact ⟨j86, f88, (by omega), (fun z => absurd z (by omega))⟩
      have q92 : ¬ (2147483648 = 2147483648) := q92
      exfalso; omega
    have q90 : ¬ (v69 < 2147483648) := q90
    have b93 := c77 (by omega)
    have b94 := c78 (by omega)
    have b95 := c79 (by omega)
    refine x_const (np := 12) (x := 9223372043297226753) (a := 2147483649) (by decide +kernel) (by decide) (by decide) ?_
    refine x_goto (np := 15) (x := 16) (by decide +kernel) ?_
    refine x_retI (np := 17) (x := 0) (by decide +kernel) (by decide) (Or.inr ⟨by decide +kernel, by omega, by omega⟩) ⟨_, rfl, (by decide), ?_⟩
    refine x_retI (np := 17) (x := 0) (by decide +kernel) (by decide) (Or.inr ⟨by decide +kernel, by omega, by omega⟩) ⟨_, rfl, (by decide), ?_⟩
    refine x_ifz (k := 0) (tg := 99) (np := 53) (by decide +kernel) (by decide) (by decide) (fun q96 => ?_) (fun q97 => ?_)
    · have q96 : 2147483649 = 2147483648 := q96
      exfalso; omega
    have q97 : ¬ (2147483649 = 2147483648) := q97
    refine x_aload (np := 54) (x := 0) (by decide +kernel) rfl (x_nc_le (by decide)) ?_
    refine x_ldcB (i := 2) (idx := 147) (tx := "day") (by rw [tb_y179]; exact List.mem_of_getElem? (i := 37) rfl) (by decide) (by rw [tb_b179]; decide +kernel) ?_
    refine x_cI (t := 6) (mj := 172) (n := 2) (rc := 12) (ml := 2) (nr := 0) (np := 59) (as := [x_r 75, x_b (2 + 1)]) (rest := []) (lo1 := [x_r 75, x_b (2 + 1)]) (by decide +kernel) (by decide) (by decide +kernel) (x_rb_of (by decide +kernel)) rfl rfl (x_wr (by decide) (x_wB (by decide) x_wn)) x_wn (by decide) rfl (c172_75_S0 j86  (by decide)) (fun v98 h101 l99 q100 => ?_)
    obtain ⟨j102, f103, b104, c105, c106⟩ := q100
    have f107 := Fr.trans f88 f103 (by decide)
    have q108 : h85 75 7 = h72 75 7 := by rw [← e87]; exact x_up_k (by decide)
    have b109 := jB (e := 7) 0 j102 rg_75_7_0_1 (by omega) (by omega)
    have q110 : h85 75 7 = h72 75 7 := by rw [← e87]; exact x_up_k (by decide)
    refine x_ifz (k := 0) (tg := 99) (np := 62) (by decide +kernel) (by decide) l99 (fun q111 => ?_) (fun q112 => ?_)
    · have q111 : v98 = 2147483648 := q111
      refine x_const (np := 100) (x := 9223372039002259456) (a := 2147483648) (by decide +kernel) (by decide) (by decide) ?_
      refine x_retI (np := 101) (x := 0) (by decide +kernel) (by decide) (Or.inr ⟨by decide +kernel, by omega, by omega⟩) ⟨_, rfl, (by decide), ?_⟩
      exact ⟨j102, f107, (by omega), (fun z => absurd z (by omega))⟩
    have q112 : ¬ (v98 = 2147483648) := q112
    have b113 := c106 (by omega)
    refine x_aload (np := 63) (x := 0) (by decide +kernel) rfl (x_nc_le (by decide)) ?_
    refine x_iload (np := 64) (x := 1) (by decide +kernel) rfl (by omega) ?_
    refine x_const (np := 65) (x := 9223372047592194050) (a := 2147483650) (by decide +kernel) (by decide) (by decide) ?_
    refine x_iadd (np := 66) (x := 0) (v := (2147483670 + 7 * u8)) (by decide +kernel) (by omega) (by decide) (by omega) (by omega) ?_
    refine x_const (np := 67) (x := 9223372039002259456) (a := 2147483648) (by decide +kernel) (by decide) (by decide) ?_
    refine x_nI (t := 6) (mj := 178) (n := 3) (rc := 12) (ml := 3) (nr := 0) (np := 70) (as := [x_r 75, iv_c (2147483670 + 7 * u8), iv_c 2147483648]) (rest := []) (lo1 := [x_r 75, iv_c (2147483670 + 7 * u8), iv_c 2147483648]) (by decide +kernel) (by decide) (by decide +kernel) (x_rb_of (by decide +kernel)) rfl rfl (x_wr (by decide) (x_wi (by omega) (x_wi (by decide) x_wn))) x_wn (by decide) rfl ?_
    refine x_aload (np := 1) (x := 0) (by decide +kernel) rfl (x_nc_le (by decide)) ?_
    refine x_iload (np := 2) (x := 1) (by decide +kernel) rfl (by omega) ?_
    refine x_aload (np := 3) (x := 0) (by decide +kernel) rfl (x_nc_le (by decide)) ?_
    refine x_iload (np := 4) (x := 2) (by decide +kernel) rfl (by decide) ?_
    refine x_const (np := 6) (x := 9223372086246899723) (a := 2147483659) (by decide +kernel) (by decide) (by decide) ?_
    refine x_cI (t := 6) (mj := 174) (n := 3) (rc := 12) (ml := 4) (nr := 2) (np := 9) (as := [x_r 75, iv_c 2147483648, iv_c 2147483659]) (rest := [iv_c (2147483670 + 7 * u8), x_r 75]) (lo1 := [x_r 75, iv_c 2147483648, iv_c 2147483659, 147573952589676412928]) (by decide +kernel) (by decide) (by decide +kernel) (x_rb_of (by decide +kernel)) rfl rfl (x_wr (by decide) (x_wi (by decide) (x_wi (by decide) x_wn))) (x_wi (by omega) (x_wr (by decide) x_wn)) (by decide) rfl (c174_75 j102  (by omega) (by omega)) (fun v114 h117 l115 q116 => ?_)
    obtain ⟨j118, f119, b120, c121, c122, c123, c124, c125⟩ := q116
    have f126 := Fr.trans f107 f119 (by decide)
    have b127 := jB (e := 7) 0 j118 rg_75_7_0_1 (by omega) (by omega)
    have b128 := c125 (by omega)
    refine x_nI (t := 6) (mj := 176) (n := 3) (rc := 12) (ml := 3) (nr := 0) (np := 12) (as := [x_r 75, iv_c (2147483670 + 7 * u8), iv_c v114]) (rest := []) (lo1 := [x_r 75, iv_c (2147483670 + 7 * u8), iv_c v114]) (by decide +kernel) (by decide) (by decide +kernel) (x_rb_of (by decide +kernel)) rfl rfl (x_wr (by decide) (x_wi (by omega) (x_wi l115 x_wn))) x_wn (by decide) rfl ?_
    refine x_aload (np := 1) (x := 0) (by decide +kernel) rfl (x_nc_le (by decide)) ?_
    have q129 : h117 75 3 = 78 := by have z := jB (e := 3) 0 j118 rg_75_3_0_1 (by decide) (by decide); omega
    refine x_getR (np := 4) (x := 707) (f := 3) (q := 78) (by decide +kernel) (by decide) (by decide +kernel) q129 ?_
    refine x_iload (np := 5) (x := 1) (by decide +kernel) rfl (by omega) ?_
    refine x_iload (np := 6) (x := 2) (by decide +kernel) rfl l115 ?_
    refine x_ast (np := 7) (x := 0) (kd := 1) (n := 290) (i := (22 + 7 * u8)) (by decide +kernel) (Or.inl rfl) (by decide +kernel) (by omega) (by omega) (by decide) l115 (fun z => absurd z (by decide)) ?_
    have j131 := jU (e := (22 + 7 * u8)) (v := v114) u8 j118 rg_78_22_7_20 (by omega) (by omega) (by omega)
    have f133 := jF (e := (22 + 7 * u8)) (v := v114) u8 f126 rg_78_22_7_20 (by omega) (by omega) (by decide)
    generalize e132 : x_up h117 78 (22 + 7 * u8) v114 = h130 at j131 f133 ⊢
    refine x_iload (np := 8) (x := 2) (by decide +kernel) rfl l115 ?_
    refine x_ifz (k := 2) (tg := 15) (np := 11) (by decide +kernel) (by decide) l115 (fun q134 => ?_) (fun q135 => ?_)
    · have q134 : v114 < 2147483648 := q134
      refine x_const (np := 16) (x := 9223372039002259456) (a := 2147483648) (by decide +kernel) (by decide) (by decide) ?_
      refine x_retI (np := 17) (x := 0) (by decide +kernel) (by decide) (Or.inr ⟨by decide +kernel, by omega, by omega⟩) ⟨_, rfl, (by decide), ?_⟩
      refine x_retI (np := 13) (x := 0) (by decide +kernel) (by decide) (Or.inr ⟨by decide +kernel, by omega, by omega⟩) ⟨_, rfl, (by decide), ?_⟩
      refine x_ifz (k := 0) (tg := 99) (np := 73) (by decide +kernel) (by decide) (by decide) (fun q136 => ?_) (fun q137 => ?_)
      · have q136 : 2147483648 = 2147483648 := q136
        refine x_const (np := 100) (x := 9223372039002259456) (a := 2147483648) (by decide +kernel) (by decide) (by decide) ?_
        refine x_retI (np := 101) (x := 0) (by decide +kernel) (by decide) (Or.inr ⟨by decide +kernel, by omega, by omega⟩) ⟨_, rfl, (by decide), ?_⟩
        exact ⟨j131, f133, (by omega), (fun z => absurd z (by omega))⟩
      have q137 : ¬ (2147483648 = 2147483648) := q137
      exfalso; omega
    have q135 : ¬ (v114 < 2147483648) := q135
    have b138 := c122 (by omega)
    have b139 := c123 (by omega)
    have b140 := c124 (by omega)
    refine x_const (np := 12) (x := 9223372043297226753) (a := 2147483649) (by decide +kernel) (by decide) (by decide) ?_
    refine x_goto (np := 15) (x := 16) (by decide +kernel) ?_
    refine x_retI (np := 17) (x := 0) (by decide +kernel) (by decide) (Or.inr ⟨by decide +kernel, by omega, by omega⟩) ⟨_, rfl, (by decide), ?_⟩
    refine x_retI (np := 13) (x := 0) (by decide +kernel) (by decide) (Or.inr ⟨by decide +kernel, by omega, by omega⟩) ⟨_, rfl, (by decide), ?_⟩
    refine x_ifz (k := 0) (tg := 99) (np := 73) (by decide +kernel) (by decide) (by decide) (fun q141 => ?_) (fun q142 => ?_)
    · have q141 : 2147483649 = 2147483648 := q141
      exfalso; omega
    have q142 : ¬ (2147483649 = 2147483648) := q142
    refine x_aload (np := 74) (x := 0) (by decide +kernel) rfl (x_nc_le (by decide)) ?_
    refine x_ldcB (i := 3) (idx := 151) (tx := "for") (by rw [tb_y179]; exact List.mem_of_getElem? (i := 38) rfl) (by decide) (by rw [tb_b179]; decide +kernel) ?_
    refine x_cI (t := 6) (mj := 172) (n := 2) (rc := 12) (ml := 2) (nr := 0) (np := 79) (as := [x_r 75, x_b (3 + 1)]) (rest := []) (lo1 := [x_r 75, x_b (3 + 1)]) (by decide +kernel) (by decide) (by decide +kernel) (x_rb_of (by decide +kernel)) rfl rfl (x_wr (by decide) (x_wB (by decide) x_wn)) x_wn (by decide) rfl (c172_75_S0 j131  (by decide)) (fun v143 h146 l144 q145 => ?_)
    obtain ⟨j147, f148, b149, c150, c151⟩ := q145
    have f152 := Fr.trans f133 f148 (by decide)
    have q153 : h130 75 7 = h117 75 7 := by rw [← e132]; exact x_up_k (by decide)
    have b154 := jB (e := 7) 0 j147 rg_75_7_0_1 (by omega) (by omega)
    have q155 : h130 75 7 = h117 75 7 := by rw [← e132]; exact x_up_k (by decide)
    refine x_ifz (k := 0) (tg := 99) (np := 82) (by decide +kernel) (by decide) l144 (fun q156 => ?_) (fun q157 => ?_)
    · have q156 : v143 = 2147483648 := q156
      refine x_const (np := 100) (x := 9223372039002259456) (a := 2147483648) (by decide +kernel) (by decide) (by decide) ?_
      refine x_retI (np := 101) (x := 0) (by decide +kernel) (by decide) (Or.inr ⟨by decide +kernel, by omega, by omega⟩) ⟨_, rfl, (by decide), ?_⟩
      exact ⟨j147, f152, (by omega), (fun z => absurd z (by omega))⟩
    have q157 : ¬ (v143 = 2147483648) := q157
    have b158 := c151 (by omega)
    refine x_aload (np := 83) (x := 0) (by decide +kernel) rfl (x_nc_le (by decide)) ?_
    refine x_iload (np := 84) (x := 1) (by decide +kernel) rfl (by omega) ?_
    refine x_const (np := 85) (x := 9223372051887161347) (a := 2147483651) (by decide +kernel) (by decide) (by decide) ?_
    refine x_iadd (np := 86) (x := 0) (v := (2147483671 + 7 * u8)) (by decide +kernel) (by omega) (by decide) (by omega) (by omega) ?_
    refine x_aload (np := 87) (x := 0) (by decide +kernel) rfl (x_nc_le (by decide)) ?_
    refine x_const (np := 88) (x := 9223372043297226753) (a := 2147483649) (by decide +kernel) (by decide) (by decide) ?_
    refine x_const (np := 90) (x := 9223372090541867020) (a := 2147483660) (by decide +kernel) (by decide) (by decide) ?_
    refine x_cI (t := 6) (mj := 174) (n := 3) (rc := 12) (ml := 4) (nr := 2) (np := 93) (as := [x_r 75, iv_c 2147483649, iv_c 2147483660]) (rest := [iv_c (2147483671 + 7 * u8), x_r 75]) (lo1 := [x_r 75, iv_c 2147483649, iv_c 2147483660, 147573952589676412928]) (by decide +kernel) (by decide) (by decide +kernel) (x_rb_of (by decide +kernel)) rfl rfl (x_wr (by decide) (x_wi (by decide) (x_wi (by decide) x_wn))) (x_wi (by omega) (x_wr (by decide) x_wn)) (by decide) rfl (c174_75 j147  (by omega) (by omega)) (fun v159 h162 l160 q161 => ?_)
    obtain ⟨j163, f164, b165, c166, c167, c168, c169, c170⟩ := q161
    have f171 := Fr.trans f152 f164 (by decide)
    have b172 := jB (e := 7) 0 j163 rg_75_7_0_1 (by omega) (by omega)
    have b173 := c170 (by omega)
    refine x_nI (t := 6) (mj := 176) (n := 3) (rc := 12) (ml := 3) (nr := 0) (np := 96) (as := [x_r 75, iv_c (2147483671 + 7 * u8), iv_c v159]) (rest := []) (lo1 := [x_r 75, iv_c (2147483671 + 7 * u8), iv_c v159]) (by decide +kernel) (by decide) (by decide +kernel) (x_rb_of (by decide +kernel)) rfl rfl (x_wr (by decide) (x_wi (by omega) (x_wi l160 x_wn))) x_wn (by decide) rfl ?_
    refine x_aload (np := 1) (x := 0) (by decide +kernel) rfl (x_nc_le (by decide)) ?_
    have q174 : h162 75 3 = 78 := by have z := jB (e := 3) 0 j163 rg_75_3_0_1 (by decide) (by decide); omega
    refine x_getR (np := 4) (x := 707) (f := 3) (q := 78) (by decide +kernel) (by decide) (by decide +kernel) q174 ?_
    refine x_iload (np := 5) (x := 1) (by decide +kernel) rfl (by omega) ?_
    refine x_iload (np := 6) (x := 2) (by decide +kernel) rfl l160 ?_
    refine x_ast (np := 7) (x := 0) (kd := 1) (n := 290) (i := (23 + 7 * u8)) (by decide +kernel) (Or.inl rfl) (by decide +kernel) (by omega) (by omega) (by decide) l160 (fun z => absurd z (by decide)) ?_
    have j176 := jU (e := (23 + 7 * u8)) (v := v159) u8 j163 rg_78_23_7_20 (by omega) (by omega) (by omega)
    have f178 := jF (e := (23 + 7 * u8)) (v := v159) u8 f171 rg_78_23_7_20 (by omega) (by omega) (by decide)
    generalize e177 : x_up h162 78 (23 + 7 * u8) v159 = h175 at j176 f178 ⊢
    refine x_iload (np := 8) (x := 2) (by decide +kernel) rfl l160 ?_
    refine x_ifz (k := 2) (tg := 15) (np := 11) (by decide +kernel) (by decide) l160 (fun q179 => ?_) (fun q180 => ?_)
    · have q179 : v159 < 2147483648 := q179
      refine x_const (np := 16) (x := 9223372039002259456) (a := 2147483648) (by decide +kernel) (by decide) (by decide) ?_
      refine x_retI (np := 17) (x := 0) (by decide +kernel) (by decide) (Or.inr ⟨by decide +kernel, by omega, by omega⟩) ⟨_, rfl, (by decide), ?_⟩
      refine x_ifz (k := 1) (tg := 101) (np := 99) (by decide +kernel) (by decide) (by decide) (fun q181 => ?_) (fun q182 => ?_)
      · have q181 : 2147483648 ≠ 2147483648 := q181
        exfalso; omega
      have q182 : ¬ (2147483648 ≠ 2147483648) := q182
      refine x_const (np := 100) (x := 9223372039002259456) (a := 2147483648) (by decide +kernel) (by decide) (by decide) ?_
      refine x_retI (np := 101) (x := 0) (by decide +kernel) (by decide) (Or.inr ⟨by decide +kernel, by omega, by omega⟩) ⟨_, rfl, (by decide), ?_⟩
      exact ⟨j176, f178, (by omega), (fun z => absurd z (by omega))⟩
    have q180 : ¬ (v159 < 2147483648) := q180
    have b183 := c167 (by omega)
    have b184 := c168 (by omega)
    have b185 := c169 (by omega)
    refine x_const (np := 12) (x := 9223372043297226753) (a := 2147483649) (by decide +kernel) (by decide) (by decide) ?_
    refine x_goto (np := 15) (x := 16) (by decide +kernel) ?_
    refine x_retI (np := 17) (x := 0) (by decide +kernel) (by decide) (Or.inr ⟨by decide +kernel, by omega, by omega⟩) ⟨_, rfl, (by decide), ?_⟩
    refine x_ifz (k := 1) (tg := 101) (np := 99) (by decide +kernel) (by decide) (by decide) (fun q186 => ?_) (fun q187 => ?_)
    · have q186 : 2147483649 ≠ 2147483648 := q186
      refine x_aload (np := 102) (x := 0) (by decide +kernel) rfl (x_nc_le (by decide)) ?_
      have q188 : h175 75 3 = 78 := by have z := jB (e := 3) 0 j176 rg_75_3_0_1 (by decide) (by decide); omega
      refine x_getR (np := 105) (x := 707) (f := 3) (q := 78) (by decide +kernel) (by decide) (by decide +kernel) q188 ?_
      refine x_iload (np := 106) (x := 1) (by decide +kernel) rfl (by omega) ?_
      refine x_const (np := 107) (x := 9223372056182128644) (a := 2147483652) (by decide +kernel) (by decide) (by decide) ?_
      refine x_iadd (np := 108) (x := 0) (v := (2147483672 + 7 * u8)) (by decide +kernel) (by omega) (by decide) (by omega) (by omega) ?_
      refine x_aload (np := 109) (x := 0) (by decide +kernel) rfl (x_nc_le (by decide)) ?_
      refine x_ldcB (i := 4) (idx := 153) (tx := "on") (by rw [tb_y179]; exact List.mem_of_getElem? (i := 39) rfl) (by decide) (by rw [tb_b179]; decide +kernel) ?_
      refine x_cI (t := 6) (mj := 171) (n := 2) (rc := 12) (ml := 2) (nr := 2) (np := 114) (as := [x_r 75, x_b (4 + 1)]) (rest := [iv_c (2147483672 + 7 * u8), x_r 78]) (lo1 := [x_r 75, x_b (4 + 1)]) (by decide +kernel) (by decide) (by decide +kernel) (x_rb_of (by decide +kernel)) rfl rfl (x_wr (by decide) (x_wB (by decide) x_wn)) (x_wi (by omega) (x_wr (by decide) x_wn)) (by decide) rfl (c171_75_S0 j176  (by decide)) (fun v189 h192 l190 q191 => ?_)
      obtain ⟨j193, f194, b195, c196, c197⟩ := q191
      have f198 := Fr.trans f178 f194 (by decide)
      have q199 : h175 75 7 = h162 75 7 := by rw [← e177]; exact x_up_k (by decide)
      have b200 := jB (e := 7) 0 j193 rg_75_7_0_1 (by omega) (by omega)
      have q201 : h175 75 7 = h162 75 7 := by rw [← e177]; exact x_up_k (by decide)
      refine x_ifz (k := 0) (tg := 121) (np := 117) (by decide +kernel) (by decide) l190 (fun q202 => ?_) (fun q203 => ?_)
      · have q202 : v189 = 2147483648 := q202
        refine x_const (np := 122) (x := 9223372039002259456) (a := 2147483648) (by decide +kernel) (by decide) (by decide) ?_
        refine x_ast (np := 123) (x := 0) (kd := 1) (n := 290) (i := (24 + 7 * u8)) (by decide +kernel) (Or.inl rfl) (by decide +kernel) (by omega) (by omega) (by decide) (by decide) (fun z => absurd z (by decide)) ?_
        have j205 := jU (e := (24 + 7 * u8)) (v := 2147483648) u8 j193 rg_78_24_7_20 (by omega) (by omega) (by omega)
        have f207 := jF (e := (24 + 7 * u8)) (v := 2147483648) u8 f198 rg_78_24_7_20 (by omega) (by omega) (by decide)
        generalize e206 : x_up h192 78 (24 + 7 * u8) 2147483648 = h204 at j205 f207 ⊢
        refine x_aload (np := 124) (x := 0) (by decide +kernel) rfl (x_nc_le (by decide)) ?_
        have q208 : h204 75 3 = 78 := by have z := jB (e := 3) 0 j205 rg_75_3_0_1 (by decide) (by decide); omega
        refine x_getR (np := 127) (x := 707) (f := 3) (q := 78) (by decide +kernel) (by decide) (by decide +kernel) q208 ?_
        refine x_iload (np := 128) (x := 1) (by decide +kernel) rfl (by omega) ?_
        refine x_const (np := 129) (x := 9223372060477095941) (a := 2147483653) (by decide +kernel) (by decide) (by decide) ?_
        refine x_iadd (np := 130) (x := 0) (v := (2147483673 + 7 * u8)) (by decide +kernel) (by omega) (by decide) (by omega) (by omega) ?_
        refine x_const (np := 131) (x := 9223372039002259456) (a := 2147483648) (by decide +kernel) (by decide) (by decide) ?_
        refine x_ast (np := 132) (x := 0) (kd := 1) (n := 290) (i := (25 + 7 * u8)) (by decide +kernel) (Or.inl rfl) (by decide +kernel) (by omega) (by omega) (by decide) (by decide) (fun z => absurd z (by decide)) ?_
        have j210 := jU (e := (25 + 7 * u8)) (v := 2147483648) u8 j205 rg_78_25_7_20 (by omega) (by omega) (by omega)
        have f212 := jF (e := (25 + 7 * u8)) (v := 2147483648) u8 f207 rg_78_25_7_20 (by omega) (by omega) (by decide)
        generalize e211 : x_up h204 78 (25 + 7 * u8) 2147483648 = h209 at j210 f212 ⊢
        refine x_aload (np := 133) (x := 0) (by decide +kernel) rfl (x_nc_le (by decide)) ?_
        have q213 : h209 75 3 = 78 := by have z := jB (e := 3) 0 j210 rg_75_3_0_1 (by decide) (by decide); omega
        refine x_getR (np := 136) (x := 707) (f := 3) (q := 78) (by decide +kernel) (by decide) (by decide +kernel) q213 ?_
        refine x_iload (np := 137) (x := 1) (by decide +kernel) rfl (by omega) ?_
        refine x_const (np := 139) (x := 9223372064772063238) (a := 2147483654) (by decide +kernel) (by decide) (by decide) ?_
        refine x_iadd (np := 140) (x := 0) (v := (2147483674 + 7 * u8)) (by decide +kernel) (by omega) (by decide) (by omega) (by omega) ?_
        refine x_const (np := 141) (x := 9223372039002259456) (a := 2147483648) (by decide +kernel) (by decide) (by decide) ?_
        refine x_ast (np := 142) (x := 0) (kd := 1) (n := 290) (i := (26 + 7 * u8)) (by decide +kernel) (Or.inl rfl) (by decide +kernel) (by omega) (by omega) (by decide) (by decide) (fun z => absurd z (by decide)) ?_
        have j215 := jU (e := (26 + 7 * u8)) (v := 2147483648) u8 j210 rg_78_26_7_20 (by omega) (by omega) (by omega)
        have f217 := jF (e := (26 + 7 * u8)) (v := 2147483648) u8 f212 rg_78_26_7_20 (by omega) (by omega) (by decide)
        generalize e216 : x_up h209 78 (26 + 7 * u8) 2147483648 = h214 at j215 f217 ⊢
        refine x_aload (np := 143) (x := 0) (by decide +kernel) rfl (x_nc_le (by decide)) ?_
        refine x_ldcB (i := 5) (idx := 158) (tx := "pledge") (by rw [tb_y179]; exact List.mem_of_getElem? (i := 40) rfl) (by decide) (by rw [tb_b179]; decide +kernel) ?_
        refine x_cI (t := 6) (mj := 171) (n := 2) (rc := 12) (ml := 2) (nr := 0) (np := 148) (as := [x_r 75, x_b (5 + 1)]) (rest := []) (lo1 := [x_r 75, x_b (5 + 1)]) (by decide +kernel) (by decide) (by decide +kernel) (x_rb_of (by decide +kernel)) rfl rfl (x_wr (by decide) (x_wB (by decide) x_wn)) x_wn (by decide) rfl (c171_75_S0 j215  (by decide)) (fun v218 h221 l219 q220 => ?_)
        obtain ⟨j222, f223, b224, c225, c226⟩ := q220
        have f227 := Fr.trans f217 f223 (by decide)
        have q228 : h214 75 7 = h209 75 7 := by rw [← e216]; exact x_up_k (by decide)
        have q229 : h209 75 7 = h204 75 7 := by rw [← e211]; exact x_up_k (by decide)
        have q230 : h204 75 7 = h192 75 7 := by rw [← e206]; exact x_up_k (by decide)
        have b231 := jB (e := 7) 0 j222 rg_75_7_0_1 (by omega) (by omega)
        have q232 : h214 75 7 = h209 75 7 := by rw [← e216]; exact x_up_k (by decide)
        have q233 : h209 75 7 = h204 75 7 := by rw [← e211]; exact x_up_k (by decide)
        have q234 : h204 75 7 = h192 75 7 := by rw [← e206]; exact x_up_k (by decide)
        refine x_ifz (k := 0) (tg := 171) (np := 151) (by decide +kernel) (by decide) l219 (fun q235 => ?_) (fun q236 => ?_)
        · have q235 : v218 = 2147483648 := q235
          refine x_aload (np := 172) (x := 0) (by decide +kernel) rfl (x_nc_le (by decide)) ?_
          have q237 : h221 75 3 = 78 := by have z := jB (e := 3) 0 j222 rg_75_3_0_1 (by decide) (by decide); omega
          refine x_getR (np := 175) (x := 707) (f := 3) (q := 78) (by decide +kernel) (by decide) (by decide +kernel) q237 ?_
          refine x_const (np := 176) (x := 9223372047592194050) (a := 2147483650) (by decide +kernel) (by decide) (by decide) ?_
          refine x_dup2 (np := 177) (x := 0) (by decide +kernel) (by have z := (iw_c_lt (a := 2147483650) (by decide)).1; omega) (by have z := x_nc_le (k := 78) (by decide); unfold x_r; omega) ?_
          have q238 : h221 78 2 = h214 78 2 := jK 0 f223 rg_78_2_0_1 (by omega) (by omega) (by decide)
          have q239 : h214 78 2 = h209 78 2 := by rw [← e216]; exact x_up_i (by omega)
          have q240 : h209 78 2 = h204 78 2 := by rw [← e211]; exact x_up_i (by omega)
          have q241 : h204 78 2 = h192 78 2 := by rw [← e206]; exact x_up_i (by omega)
          have q242 : h192 78 2 = h175 78 2 := jK 0 f194 rg_78_2_0_1 (by omega) (by omega) (by decide)
          have q243 : h175 78 2 = h162 78 2 := by rw [← e177]; exact x_up_i (by omega)
          have q244 : h162 78 2 = h146 78 2 := jK 0 f164 rg_78_2_0_1 (by omega) (by omega) (by decide)
          have q245 : h146 78 2 = h130 78 2 := jK 0 f148 rg_78_2_0_1 (by omega) (by omega) (by decide)
          have q246 : h130 78 2 = h117 78 2 := by rw [← e132]; exact x_up_i (by omega)
          have q247 : h117 78 2 = h101 78 2 := jK 0 f119 rg_78_2_0_1 (by omega) (by omega) (by decide)
          have q248 : h101 78 2 = h85 78 2 := jK 0 f103 rg_78_2_0_1 (by omega) (by omega) (by decide)
          have q249 : h85 78 2 = h72 78 2 := by rw [← e87]; exact x_up_i (by omega)
          have q250 : h72 78 2 = h49 78 2 := jK 0 f74 rg_78_2_0_1 (by omega) (by omega) (by decide)
          have q251 : h49 78 2 = h33 78 2 := jK 0 f51 rg_78_2_0_1 (by omega) (by omega) (by decide)
          have q252 : h33 78 2 = h19 78 2 := by rw [← e35]; exact x_up_i (by omega)
          have q253 : h19 78 2 = h 78 2 := jK 0 f21 rg_78_2_0_1 (by omega) (by omega) (by decide)
          refine x_aldC (np := 178) (x := 0) (n := 290) (i := 2) (q := (h 78 2)) (by decide +kernel) (by decide +kernel) (by omega) (by omega) (by decide) (((((((((((((((q238.trans q239).trans q240).trans q241).trans q242).trans q243).trans q244).trans q245).trans q246).trans q247).trans q248).trans q249).trans q250).trans q251).trans q252).trans q253) (fun l254 => ?_)
          refine x_const (np := 179) (x := 9223372043297226753) (a := 2147483649) (by decide +kernel) (by decide) (by decide) ?_
          refine x_iadd (np := 180) (x := 0) (v := (1 + (h 78 2))) (by decide +kernel) l3 (by decide) (by omega) (by omega) ?_
          refine x_ast (np := 181) (x := 0) (kd := 1) (n := 290) (i := 2) (by decide +kernel) (Or.inl rfl) (by decide +kernel) (by omega) (by omega) (by decide) (by omega) (fun z => absurd z (by decide)) ?_
          have j256 := jU (e := 2) (v := (1 + (h 78 2))) 0 j222 rg_78_2_0_1 (by omega) (by omega) (by omega)
          have f258 := jF (e := 2) (v := (1 + (h 78 2))) 0 f227 rg_78_2_0_1 (by omega) (by omega) (by decide)
          generalize e257 : x_up h221 78 2 (1 + (h 78 2)) = h255 at j256 f258 ⊢
          refine x_const (np := 182) (x := 9223372043297226753) (a := 2147483649) (by decide +kernel) (by decide) (by decide) ?_
          have m275 := Cl.fr hC f21 (by decide)
          have m274 : Cl h33 := by rw [← e35]; exact Cl.upR (e := (20 + 7 * u8)) (v := v16) u8 m275 rg_76_20_7_20 (by omega) (by omega) (by omega)
          have m273 := Cl.fr m274 f51 (by decide)
          have m272 := Cl.fr m273 f74 (by decide)
          have m271 : Cl h85 := by rw [← e87]; exact Cl.upR (e := (21 + 7 * u8)) (v := v69) u8 m272 rg_76_21_7_20 (by omega) (by omega) (by omega)
          have m270 := Cl.fr m271 f103 (by decide)
          have m269 := Cl.fr m270 f119 (by decide)
          have m268 : Cl h130 := by rw [← e132]; exact Cl.upR (e := (22 + 7 * u8)) (v := v114) u8 m269 rg_76_22_7_20 (by omega) (by omega) (by omega)
          have m267 := Cl.fr m268 f148 (by decide)
          have m266 := Cl.fr m267 f164 (by decide)
          have m265 : Cl h175 := by rw [← e177]; exact Cl.upR (e := (23 + 7 * u8)) (v := v159) u8 m266 rg_76_23_7_20 (by omega) (by omega) (by omega)
          have m264 := Cl.fr m265 f194 (by decide)
          have m263 : Cl h204 := by rw [← e206]; exact Cl.upR (e := (24 + 7 * u8)) (v := 2147483648) u8 m264 rg_76_24_7_20 (by omega) (by omega) (by omega)
          have m262 : Cl h209 := by rw [← e211]; exact Cl.upR (e := (25 + 7 * u8)) (v := 2147483648) u8 m263 rg_76_25_7_20 (by omega) (by omega) (by omega)
          have m261 : Cl h214 := by rw [← e216]; exact Cl.upR (e := (26 + 7 * u8)) (v := 2147483648) u8 m262 rg_76_26_7_20 (by omega) (by omega) (by omega)
          have m260 := Cl.fr m261 f223 (by decide)
          have m259 : Cl h255 := by rw [← e257]; exact Cl.upR (e := 2) (v := (1 + (h 78 2))) 0 m260 rg_76_2_0_1 (by omega) (by omega) (by omega)
          refine x_retI (np := 183) (x := 0) (by decide +kernel) (by decide) (Or.inr ⟨by decide +kernel, by omega, by omega⟩) ⟨_, rfl, (by decide), ?_⟩
          exact ⟨j256, f258, (by omega), (fun _ => m259)⟩
        have q236 : ¬ (v218 = 2147483648) := q236
        have b276 := c226 (by omega)
        refine x_aload (np := 152) (x := 0) (by decide +kernel) rfl (x_nc_le (by decide)) ?_
        refine x_iload (np := 153) (x := 1) (by decide +kernel) rfl (by omega) ?_
        refine x_const (np := 154) (x := 9223372060477095941) (a := 2147483653) (by decide +kernel) (by decide) (by decide) ?_
        refine x_iadd (np := 155) (x := 0) (v := (2147483673 + 7 * u8)) (by decide +kernel) (by omega) (by decide) (by omega) (by omega) ?_
        refine x_aload (np := 156) (x := 0) (by decide +kernel) rfl (x_nc_le (by decide)) ?_
        refine x_const (np := 157) (x := 9223372039002259456) (a := 2147483648) (by decide +kernel) (by decide) (by decide) ?_
        refine x_const (np := 160) (x := 9223376329674589159) (a := 2147484647) (by decide +kernel) (by decide) (by decide) ?_
        refine x_cI (t := 6) (mj := 174) (n := 3) (rc := 12) (ml := 4) (nr := 2) (np := 163) (as := [x_r 75, iv_c 2147483648, iv_c 2147484647]) (rest := [iv_c (2147483673 + 7 * u8), x_r 75]) (lo1 := [x_r 75, iv_c 2147483648, iv_c 2147484647, 147573952589676412928]) (by decide +kernel) (by decide) (by decide +kernel) (x_rb_of (by decide +kernel)) rfl rfl (x_wr (by decide) (x_wi (by decide) (x_wi (by decide) x_wn))) (x_wi (by omega) (x_wr (by decide) x_wn)) (by decide) rfl (c174_75 j222  (by omega) (by omega)) (fun v277 h280 l278 q279 => ?_)
        obtain ⟨j281, f282, b283, c284, c285, c286, c287, c288⟩ := q279
        have f289 := Fr.trans f227 f282 (by decide)
        have b290 := jB (e := 7) 0 j281 rg_75_7_0_1 (by omega) (by omega)
        have b291 := c288 (by omega)
        refine x_nI (t := 6) (mj := 176) (n := 3) (rc := 12) (ml := 3) (nr := 0) (np := 166) (as := [x_r 75, iv_c (2147483673 + 7 * u8), iv_c v277]) (rest := []) (lo1 := [x_r 75, iv_c (2147483673 + 7 * u8), iv_c v277]) (by decide +kernel) (by decide) (by decide +kernel) (x_rb_of (by decide +kernel)) rfl rfl (x_wr (by decide) (x_wi (by omega) (x_wi l278 x_wn))) x_wn (by decide) rfl ?_
        refine x_aload (np := 1) (x := 0) (by decide +kernel) rfl (x_nc_le (by decide)) ?_
        have q292 : h280 75 3 = 78 := by have z := jB (e := 3) 0 j281 rg_75_3_0_1 (by decide) (by decide); omega
        refine x_getR (np := 4) (x := 707) (f := 3) (q := 78) (by decide +kernel) (by decide) (by decide +kernel) q292 ?_
        refine x_iload (np := 5) (x := 1) (by decide +kernel) rfl (by omega) ?_
        refine x_iload (np := 6) (x := 2) (by decide +kernel) rfl l278 ?_
        refine x_ast (np := 7) (x := 0) (kd := 1) (n := 290) (i := (25 + 7 * u8)) (by decide +kernel) (Or.inl rfl) (by decide +kernel) (by omega) (by omega) (by decide) l278 (fun z => absurd z (by decide)) ?_
        have j294 := jU (e := (25 + 7 * u8)) (v := v277) u8 j281 rg_78_25_7_20 (by omega) (by omega) (by omega)
        have f296 := jF (e := (25 + 7 * u8)) (v := v277) u8 f289 rg_78_25_7_20 (by omega) (by omega) (by decide)
        generalize e295 : x_up h280 78 (25 + 7 * u8) v277 = h293 at j294 f296 ⊢
        refine x_iload (np := 8) (x := 2) (by decide +kernel) rfl l278 ?_
        refine x_ifz (k := 2) (tg := 15) (np := 11) (by decide +kernel) (by decide) l278 (fun q297 => ?_) (fun q298 => ?_)
        · have q297 : v277 < 2147483648 := q297
          refine x_const (np := 16) (x := 9223372039002259456) (a := 2147483648) (by decide +kernel) (by decide) (by decide) ?_
          refine x_retI (np := 17) (x := 0) (by decide +kernel) (by decide) (Or.inr ⟨by decide +kernel, by omega, by omega⟩) ⟨_, rfl, (by decide), ?_⟩
          refine x_ifz (k := 1) (tg := 171) (np := 169) (by decide +kernel) (by decide) (by decide) (fun q299 => ?_) (fun q300 => ?_)
          · have q299 : 2147483648 ≠ 2147483648 := q299
            exfalso; omega
          have q300 : ¬ (2147483648 ≠ 2147483648) := q300
          refine x_const (np := 170) (x := 9223372039002259456) (a := 2147483648) (by decide +kernel) (by decide) (by decide) ?_
          refine x_retI (np := 171) (x := 0) (by decide +kernel) (by decide) (Or.inr ⟨by decide +kernel, by omega, by omega⟩) ⟨_, rfl, (by decide), ?_⟩
          exact ⟨j294, f296, (by omega), (fun z => absurd z (by omega))⟩
        have q298 : ¬ (v277 < 2147483648) := q298
        have b301 := c285 (by omega)
        have b302 := c286 (by omega)
        have b303 := c287 (by omega)
        refine x_const (np := 12) (x := 9223372043297226753) (a := 2147483649) (by decide +kernel) (by decide) (by decide) ?_
        refine x_goto (np := 15) (x := 16) (by decide +kernel) ?_
        refine x_retI (np := 17) (x := 0) (by decide +kernel) (by decide) (Or.inr ⟨by decide +kernel, by omega, by omega⟩) ⟨_, rfl, (by decide), ?_⟩
        refine x_ifz (k := 1) (tg := 171) (np := 169) (by decide +kernel) (by decide) (by decide) (fun q304 => ?_) (fun q305 => ?_)
        · have q304 : 2147483649 ≠ 2147483648 := q304
          refine x_aload (np := 172) (x := 0) (by decide +kernel) rfl (x_nc_le (by decide)) ?_
          have q306 : h293 75 3 = 78 := by have z := jB (e := 3) 0 j294 rg_75_3_0_1 (by decide) (by decide); omega
          refine x_getR (np := 175) (x := 707) (f := 3) (q := 78) (by decide +kernel) (by decide) (by decide +kernel) q306 ?_
          refine x_const (np := 176) (x := 9223372047592194050) (a := 2147483650) (by decide +kernel) (by decide) (by decide) ?_
          refine x_dup2 (np := 177) (x := 0) (by decide +kernel) (by have z := (iw_c_lt (a := 2147483650) (by decide)).1; omega) (by have z := x_nc_le (k := 78) (by decide); unfold x_r; omega) ?_
          have q307 : h293 78 2 = h280 78 2 := by rw [← e295]; exact x_up_i (by omega)
          have q308 : h280 78 2 = h221 78 2 := jK 0 f282 rg_78_2_0_1 (by omega) (by omega) (by decide)
          have q309 : h221 78 2 = h214 78 2 := jK 0 f223 rg_78_2_0_1 (by omega) (by omega) (by decide)
          have q310 : h214 78 2 = h209 78 2 := by rw [← e216]; exact x_up_i (by omega)
          have q311 : h209 78 2 = h204 78 2 := by rw [← e211]; exact x_up_i (by omega)
          have q312 : h204 78 2 = h192 78 2 := by rw [← e206]; exact x_up_i (by omega)
          have q313 : h192 78 2 = h175 78 2 := jK 0 f194 rg_78_2_0_1 (by omega) (by omega) (by decide)
          have q314 : h175 78 2 = h162 78 2 := by rw [← e177]; exact x_up_i (by omega)
          have q315 : h162 78 2 = h146 78 2 := jK 0 f164 rg_78_2_0_1 (by omega) (by omega) (by decide)
          have q316 : h146 78 2 = h130 78 2 := jK 0 f148 rg_78_2_0_1 (by omega) (by omega) (by decide)
          have q317 : h130 78 2 = h117 78 2 := by rw [← e132]; exact x_up_i (by omega)
          have q318 : h117 78 2 = h101 78 2 := jK 0 f119 rg_78_2_0_1 (by omega) (by omega) (by decide)
          have q319 : h101 78 2 = h85 78 2 := jK 0 f103 rg_78_2_0_1 (by omega) (by omega) (by decide)
          have q320 : h85 78 2 = h72 78 2 := by rw [← e87]; exact x_up_i (by omega)
          have q321 : h72 78 2 = h49 78 2 := jK 0 f74 rg_78_2_0_1 (by omega) (by omega) (by decide)
          have q322 : h49 78 2 = h33 78 2 := jK 0 f51 rg_78_2_0_1 (by omega) (by omega) (by decide)
          have q323 : h33 78 2 = h19 78 2 := by rw [← e35]; exact x_up_i (by omega)
          have q324 : h19 78 2 = h 78 2 := jK 0 f21 rg_78_2_0_1 (by omega) (by omega) (by decide)
          refine x_aldC (np := 178) (x := 0) (n := 290) (i := 2) (q := (h 78 2)) (by decide +kernel) (by decide +kernel) (by omega) (by omega) (by decide) (((((((((((((((((q307.trans q308).trans q309).trans q310).trans q311).trans q312).trans q313).trans q314).trans q315).trans q316).trans q317).trans q318).trans q319).trans q320).trans q321).trans q322).trans q323).trans q324) (fun l325 => ?_)
          refine x_const (np := 179) (x := 9223372043297226753) (a := 2147483649) (by decide +kernel) (by decide) (by decide) ?_
          refine x_iadd (np := 180) (x := 0) (v := (1 + (h 78 2))) (by decide +kernel) l3 (by decide) (by omega) (by omega) ?_
          refine x_ast (np := 181) (x := 0) (kd := 1) (n := 290) (i := 2) (by decide +kernel) (Or.inl rfl) (by decide +kernel) (by omega) (by omega) (by decide) (by omega) (fun z => absurd z (by decide)) ?_
          have j327 := jU (e := 2) (v := (1 + (h 78 2))) 0 j294 rg_78_2_0_1 (by omega) (by omega) (by omega)
          have f329 := jF (e := 2) (v := (1 + (h 78 2))) 0 f296 rg_78_2_0_1 (by omega) (by omega) (by decide)
          generalize e328 : x_up h293 78 2 (1 + (h 78 2)) = h326 at j327 f329 ⊢
          refine x_const (np := 182) (x := 9223372043297226753) (a := 2147483649) (by decide +kernel) (by decide) (by decide) ?_
          have m348 := Cl.fr hC f21 (by decide)
          have m347 : Cl h33 := by rw [← e35]; exact Cl.upR (e := (20 + 7 * u8)) (v := v16) u8 m348 rg_76_20_7_20 (by omega) (by omega) (by omega)
          have m346 := Cl.fr m347 f51 (by decide)
          have m345 := Cl.fr m346 f74 (by decide)
          have m344 : Cl h85 := by rw [← e87]; exact Cl.upR (e := (21 + 7 * u8)) (v := v69) u8 m345 rg_76_21_7_20 (by omega) (by omega) (by omega)
          have m343 := Cl.fr m344 f103 (by decide)
          have m342 := Cl.fr m343 f119 (by decide)
          have m341 : Cl h130 := by rw [← e132]; exact Cl.upR (e := (22 + 7 * u8)) (v := v114) u8 m342 rg_76_22_7_20 (by omega) (by omega) (by omega)
          have m340 := Cl.fr m341 f148 (by decide)
          have m339 := Cl.fr m340 f164 (by decide)
          have m338 : Cl h175 := by rw [← e177]; exact Cl.upR (e := (23 + 7 * u8)) (v := v159) u8 m339 rg_76_23_7_20 (by omega) (by omega) (by omega)
          have m337 := Cl.fr m338 f194 (by decide)
          have m336 : Cl h204 := by rw [← e206]; exact Cl.upR (e := (24 + 7 * u8)) (v := 2147483648) u8 m337 rg_76_24_7_20 (by omega) (by omega) (by omega)
          have m335 : Cl h209 := by rw [← e211]; exact Cl.upR (e := (25 + 7 * u8)) (v := 2147483648) u8 m336 rg_76_25_7_20 (by omega) (by omega) (by omega)
          have m334 : Cl h214 := by rw [← e216]; exact Cl.upR (e := (26 + 7 * u8)) (v := 2147483648) u8 m335 rg_76_26_7_20 (by omega) (by omega) (by omega)
          have m333 := Cl.fr m334 f223 (by decide)
          have m332 := Cl.fr m333 f282 (by decide)
          have m331 : Cl h293 := by rw [← e295]; exact Cl.upR (e := (25 + 7 * u8)) (v := v277) u8 m332 rg_76_25_7_20 (by omega) (by omega) (by omega)
          have m330 : Cl h326 := by rw [← e328]; exact Cl.upR (e := 2) (v := (1 + (h 78 2))) 0 m331 rg_76_2_0_1 (by omega) (by omega) (by omega)
          refine x_retI (np := 183) (x := 0) (by decide +kernel) (by decide) (Or.inr ⟨by decide +kernel, by omega, by omega⟩) ⟨_, rfl, (by decide), ?_⟩
          exact ⟨j327, f329, (by omega), (fun _ => m330)⟩
        have q305 : ¬ (2147483649 ≠ 2147483648) := q305
        exfalso; omega
      have q203 : ¬ (v189 = 2147483648) := q203
      have b349 := c197 (by omega)
      refine x_const (np := 118) (x := 9223372043297226753) (a := 2147483649) (by decide +kernel) (by decide) (by decide) ?_
      refine x_goto (np := 121) (x := 122) (by decide +kernel) ?_
      refine x_ast (np := 123) (x := 0) (kd := 1) (n := 290) (i := (24 + 7 * u8)) (by decide +kernel) (Or.inl rfl) (by decide +kernel) (by omega) (by omega) (by decide) (by decide) (fun z => absurd z (by decide)) ?_
      have j351 := jU (e := (24 + 7 * u8)) (v := 2147483649) u8 j193 rg_78_24_7_20 (by omega) (by omega) (by omega)
      have f353 := jF (e := (24 + 7 * u8)) (v := 2147483649) u8 f198 rg_78_24_7_20 (by omega) (by omega) (by decide)
      generalize e352 : x_up h192 78 (24 + 7 * u8) 2147483649 = h350 at j351 f353 ⊢
      refine x_aload (np := 124) (x := 0) (by decide +kernel) rfl (x_nc_le (by decide)) ?_
      have q354 : h350 75 3 = 78 := by have z := jB (e := 3) 0 j351 rg_75_3_0_1 (by decide) (by decide); omega
      refine x_getR (np := 127) (x := 707) (f := 3) (q := 78) (by decide +kernel) (by decide) (by decide +kernel) q354 ?_
      refine x_iload (np := 128) (x := 1) (by decide +kernel) rfl (by omega) ?_
      refine x_const (np := 129) (x := 9223372060477095941) (a := 2147483653) (by decide +kernel) (by decide) (by decide) ?_
      refine x_iadd (np := 130) (x := 0) (v := (2147483673 + 7 * u8)) (by decide +kernel) (by omega) (by decide) (by omega) (by omega) ?_
      refine x_const (np := 131) (x := 9223372039002259456) (a := 2147483648) (by decide +kernel) (by decide) (by decide) ?_
      refine x_ast (np := 132) (x := 0) (kd := 1) (n := 290) (i := (25 + 7 * u8)) (by decide +kernel) (Or.inl rfl) (by decide +kernel) (by omega) (by omega) (by decide) (by decide) (fun z => absurd z (by decide)) ?_
      have j356 := jU (e := (25 + 7 * u8)) (v := 2147483648) u8 j351 rg_78_25_7_20 (by omega) (by omega) (by omega)
      have f358 := jF (e := (25 + 7 * u8)) (v := 2147483648) u8 f353 rg_78_25_7_20 (by omega) (by omega) (by decide)
      generalize e357 : x_up h350 78 (25 + 7 * u8) 2147483648 = h355 at j356 f358 ⊢
      refine x_aload (np := 133) (x := 0) (by decide +kernel) rfl (x_nc_le (by decide)) ?_
      have q359 : h355 75 3 = 78 := by have z := jB (e := 3) 0 j356 rg_75_3_0_1 (by decide) (by decide); omega
      refine x_getR (np := 136) (x := 707) (f := 3) (q := 78) (by decide +kernel) (by decide) (by decide +kernel) q359 ?_
      refine x_iload (np := 137) (x := 1) (by decide +kernel) rfl (by omega) ?_
      refine x_const (np := 139) (x := 9223372064772063238) (a := 2147483654) (by decide +kernel) (by decide) (by decide) ?_
      refine x_iadd (np := 140) (x := 0) (v := (2147483674 + 7 * u8)) (by decide +kernel) (by omega) (by decide) (by omega) (by omega) ?_
      refine x_const (np := 141) (x := 9223372039002259456) (a := 2147483648) (by decide +kernel) (by decide) (by decide) ?_
      refine x_ast (np := 142) (x := 0) (kd := 1) (n := 290) (i := (26 + 7 * u8)) (by decide +kernel) (Or.inl rfl) (by decide +kernel) (by omega) (by omega) (by decide) (by decide) (fun z => absurd z (by decide)) ?_
      have j361 := jU (e := (26 + 7 * u8)) (v := 2147483648) u8 j356 rg_78_26_7_20 (by omega) (by omega) (by omega)
      have f363 := jF (e := (26 + 7 * u8)) (v := 2147483648) u8 f358 rg_78_26_7_20 (by omega) (by omega) (by decide)
      generalize e362 : x_up h355 78 (26 + 7 * u8) 2147483648 = h360 at j361 f363 ⊢
      refine x_aload (np := 143) (x := 0) (by decide +kernel) rfl (x_nc_le (by decide)) ?_
      refine x_ldcB (i := 5) (idx := 158) (tx := "pledge") (by rw [tb_y179]; exact List.mem_of_getElem? (i := 40) rfl) (by decide) (by rw [tb_b179]; decide +kernel) ?_
      refine x_cI (t := 6) (mj := 171) (n := 2) (rc := 12) (ml := 2) (nr := 0) (np := 148) (as := [x_r 75, x_b (5 + 1)]) (rest := []) (lo1 := [x_r 75, x_b (5 + 1)]) (by decide +kernel) (by decide) (by decide +kernel) (x_rb_of (by decide +kernel)) rfl rfl (x_wr (by decide) (x_wB (by decide) x_wn)) x_wn (by decide) rfl (c171_75_S0 j361  (by decide)) (fun v364 h367 l365 q366 => ?_)
      obtain ⟨j368, f369, b370, c371, c372⟩ := q366
      have f373 := Fr.trans f363 f369 (by decide)
      have q374 : h360 75 7 = h355 75 7 := by rw [← e362]; exact x_up_k (by decide)
      have q375 : h355 75 7 = h350 75 7 := by rw [← e357]; exact x_up_k (by decide)
      have q376 : h350 75 7 = h192 75 7 := by rw [← e352]; exact x_up_k (by decide)
      have b377 := jB (e := 7) 0 j368 rg_75_7_0_1 (by omega) (by omega)
      have q378 : h360 75 7 = h355 75 7 := by rw [← e362]; exact x_up_k (by decide)
      have q379 : h355 75 7 = h350 75 7 := by rw [← e357]; exact x_up_k (by decide)
      have q380 : h350 75 7 = h192 75 7 := by rw [← e352]; exact x_up_k (by decide)
      refine x_ifz (k := 0) (tg := 171) (np := 151) (by decide +kernel) (by decide) l365 (fun q381 => ?_) (fun q382 => ?_)
      · have q381 : v364 = 2147483648 := q381
        refine x_aload (np := 172) (x := 0) (by decide +kernel) rfl (x_nc_le (by decide)) ?_
        have q383 : h367 75 3 = 78 := by have z := jB (e := 3) 0 j368 rg_75_3_0_1 (by decide) (by decide); omega
        refine x_getR (np := 175) (x := 707) (f := 3) (q := 78) (by decide +kernel) (by decide) (by decide +kernel) q383 ?_
        refine x_const (np := 176) (x := 9223372047592194050) (a := 2147483650) (by decide +kernel) (by decide) (by decide) ?_
        refine x_dup2 (np := 177) (x := 0) (by decide +kernel) (by have z := (iw_c_lt (a := 2147483650) (by decide)).1; omega) (by have z := x_nc_le (k := 78) (by decide); unfold x_r; omega) ?_
        have q384 : h367 78 2 = h360 78 2 := jK 0 f369 rg_78_2_0_1 (by omega) (by omega) (by decide)
        have q385 : h360 78 2 = h355 78 2 := by rw [← e362]; exact x_up_i (by omega)
        have q386 : h355 78 2 = h350 78 2 := by rw [← e357]; exact x_up_i (by omega)
        have q387 : h350 78 2 = h192 78 2 := by rw [← e352]; exact x_up_i (by omega)
        have q388 : h192 78 2 = h175 78 2 := jK 0 f194 rg_78_2_0_1 (by omega) (by omega) (by decide)
        have q389 : h175 78 2 = h162 78 2 := by rw [← e177]; exact x_up_i (by omega)
        have q390 : h162 78 2 = h146 78 2 := jK 0 f164 rg_78_2_0_1 (by omega) (by omega) (by decide)
        have q391 : h146 78 2 = h130 78 2 := jK 0 f148 rg_78_2_0_1 (by omega) (by omega) (by decide)
        have q392 : h130 78 2 = h117 78 2 := by rw [← e132]; exact x_up_i (by omega)
        have q393 : h117 78 2 = h101 78 2 := jK 0 f119 rg_78_2_0_1 (by omega) (by omega) (by decide)
        have q394 : h101 78 2 = h85 78 2 := jK 0 f103 rg_78_2_0_1 (by omega) (by omega) (by decide)
        have q395 : h85 78 2 = h72 78 2 := by rw [← e87]; exact x_up_i (by omega)
        have q396 : h72 78 2 = h49 78 2 := jK 0 f74 rg_78_2_0_1 (by omega) (by omega) (by decide)
        have q397 : h49 78 2 = h33 78 2 := jK 0 f51 rg_78_2_0_1 (by omega) (by omega) (by decide)
        have q398 : h33 78 2 = h19 78 2 := by rw [← e35]; exact x_up_i (by omega)
        have q399 : h19 78 2 = h 78 2 := jK 0 f21 rg_78_2_0_1 (by omega) (by omega) (by decide)
        refine x_aldC (np := 178) (x := 0) (n := 290) (i := 2) (q := (h 78 2)) (by decide +kernel) (by decide +kernel) (by omega) (by omega) (by decide) (((((((((((((((q384.trans q385).trans q386).trans q387).trans q388).trans q389).trans q390).trans q391).trans q392).trans q393).trans q394).trans q395).trans q396).trans q397).trans q398).trans q399) (fun l400 => ?_)
        refine x_const (np := 179) (x := 9223372043297226753) (a := 2147483649) (by decide +kernel) (by decide) (by decide) ?_
        refine x_iadd (np := 180) (x := 0) (v := (1 + (h 78 2))) (by decide +kernel) l3 (by decide) (by omega) (by omega) ?_
        refine x_ast (np := 181) (x := 0) (kd := 1) (n := 290) (i := 2) (by decide +kernel) (Or.inl rfl) (by decide +kernel) (by omega) (by omega) (by decide) (by omega) (fun z => absurd z (by decide)) ?_
        have j402 := jU (e := 2) (v := (1 + (h 78 2))) 0 j368 rg_78_2_0_1 (by omega) (by omega) (by omega)
        have f404 := jF (e := 2) (v := (1 + (h 78 2))) 0 f373 rg_78_2_0_1 (by omega) (by omega) (by decide)
        generalize e403 : x_up h367 78 2 (1 + (h 78 2)) = h401 at j402 f404 ⊢
        refine x_const (np := 182) (x := 9223372043297226753) (a := 2147483649) (by decide +kernel) (by decide) (by decide) ?_
        have m421 := Cl.fr hC f21 (by decide)
        have m420 : Cl h33 := by rw [← e35]; exact Cl.upR (e := (20 + 7 * u8)) (v := v16) u8 m421 rg_76_20_7_20 (by omega) (by omega) (by omega)
        have m419 := Cl.fr m420 f51 (by decide)
        have m418 := Cl.fr m419 f74 (by decide)
        have m417 : Cl h85 := by rw [← e87]; exact Cl.upR (e := (21 + 7 * u8)) (v := v69) u8 m418 rg_76_21_7_20 (by omega) (by omega) (by omega)
        have m416 := Cl.fr m417 f103 (by decide)
        have m415 := Cl.fr m416 f119 (by decide)
        have m414 : Cl h130 := by rw [← e132]; exact Cl.upR (e := (22 + 7 * u8)) (v := v114) u8 m415 rg_76_22_7_20 (by omega) (by omega) (by omega)
        have m413 := Cl.fr m414 f148 (by decide)
        have m412 := Cl.fr m413 f164 (by decide)
        have m411 : Cl h175 := by rw [← e177]; exact Cl.upR (e := (23 + 7 * u8)) (v := v159) u8 m412 rg_76_23_7_20 (by omega) (by omega) (by omega)
        have m410 := Cl.fr m411 f194 (by decide)
        have m409 : Cl h350 := by rw [← e352]; exact Cl.upR (e := (24 + 7 * u8)) (v := 2147483649) u8 m410 rg_76_24_7_20 (by omega) (by omega) (by omega)
        have m408 : Cl h355 := by rw [← e357]; exact Cl.upR (e := (25 + 7 * u8)) (v := 2147483648) u8 m409 rg_76_25_7_20 (by omega) (by omega) (by omega)
        have m407 : Cl h360 := by rw [← e362]; exact Cl.upR (e := (26 + 7 * u8)) (v := 2147483648) u8 m408 rg_76_26_7_20 (by omega) (by omega) (by omega)
        have m406 := Cl.fr m407 f369 (by decide)
        have m405 : Cl h401 := by rw [← e403]; exact Cl.upR (e := 2) (v := (1 + (h 78 2))) 0 m406 rg_76_2_0_1 (by omega) (by omega) (by omega)
        refine x_retI (np := 183) (x := 0) (by decide +kernel) (by decide) (Or.inr ⟨by decide +kernel, by omega, by omega⟩) ⟨_, rfl, (by decide), ?_⟩
        exact ⟨j402, f404, (by omega), (fun _ => m405)⟩
      have q382 : ¬ (v364 = 2147483648) := q382
      have b422 := c372 (by omega)
      refine x_aload (np := 152) (x := 0) (by decide +kernel) rfl (x_nc_le (by decide)) ?_
      refine x_iload (np := 153) (x := 1) (by decide +kernel) rfl (by omega) ?_
      refine x_const (np := 154) (x := 9223372060477095941) (a := 2147483653) (by decide +kernel) (by decide) (by decide) ?_
      refine x_iadd (np := 155) (x := 0) (v := (2147483673 + 7 * u8)) (by decide +kernel) (by omega) (by decide) (by omega) (by omega) ?_
      refine x_aload (np := 156) (x := 0) (by decide +kernel) rfl (x_nc_le (by decide)) ?_
      refine x_const (np := 157) (x := 9223372039002259456) (a := 2147483648) (by decide +kernel) (by decide) (by decide) ?_
      refine x_const (np := 160) (x := 9223376329674589159) (a := 2147484647) (by decide +kernel) (by decide) (by decide) ?_
      refine x_cI (t := 6) (mj := 174) (n := 3) (rc := 12) (ml := 4) (nr := 2) (np := 163) (as := [x_r 75, iv_c 2147483648, iv_c 2147484647]) (rest := [iv_c (2147483673 + 7 * u8), x_r 75]) (lo1 := [x_r 75, iv_c 2147483648, iv_c 2147484647, 147573952589676412928]) (by decide +kernel) (by decide) (by decide +kernel) (x_rb_of (by decide +kernel)) rfl rfl (x_wr (by decide) (x_wi (by decide) (x_wi (by decide) x_wn))) (x_wi (by omega) (x_wr (by decide) x_wn)) (by decide) rfl (c174_75 j368  (by omega) (by omega)) (fun v423 h426 l424 q425 => ?_)
      obtain ⟨j427, f428, b429, c430, c431, c432, c433, c434⟩ := q425
      have f435 := Fr.trans f373 f428 (by decide)
      have b436 := jB (e := 7) 0 j427 rg_75_7_0_1 (by omega) (by omega)
      have b437 := c434 (by omega)
      refine x_nI (t := 6) (mj := 176) (n := 3) (rc := 12) (ml := 3) (nr := 0) (np := 166) (as := [x_r 75, iv_c (2147483673 + 7 * u8), iv_c v423]) (rest := []) (lo1 := [x_r 75, iv_c (2147483673 + 7 * u8), iv_c v423]) (by decide +kernel) (by decide) (by decide +kernel) (x_rb_of (by decide +kernel)) rfl rfl (x_wr (by decide) (x_wi (by omega) (x_wi l424 x_wn))) x_wn (by decide) rfl ?_
      refine x_aload (np := 1) (x := 0) (by decide +kernel) rfl (x_nc_le (by decide)) ?_
      have q438 : h426 75 3 = 78 := by have z := jB (e := 3) 0 j427 rg_75_3_0_1 (by decide) (by decide); omega
      refine x_getR (np := 4) (x := 707) (f := 3) (q := 78) (by decide +kernel) (by decide) (by decide +kernel) q438 ?_
      refine x_iload (np := 5) (x := 1) (by decide +kernel) rfl (by omega) ?_
      refine x_iload (np := 6) (x := 2) (by decide +kernel) rfl l424 ?_
      refine x_ast (np := 7) (x := 0) (kd := 1) (n := 290) (i := (25 + 7 * u8)) (by decide +kernel) (Or.inl rfl) (by decide +kernel) (by omega) (by omega) (by decide) l424 (fun z => absurd z (by decide)) ?_
      have j440 := jU (e := (25 + 7 * u8)) (v := v423) u8 j427 rg_78_25_7_20 (by omega) (by omega) (by omega)
      have f442 := jF (e := (25 + 7 * u8)) (v := v423) u8 f435 rg_78_25_7_20 (by omega) (by omega) (by decide)
      generalize e441 : x_up h426 78 (25 + 7 * u8) v423 = h439 at j440 f442 ⊢
      refine x_iload (np := 8) (x := 2) (by decide +kernel) rfl l424 ?_
      refine x_ifz (k := 2) (tg := 15) (np := 11) (by decide +kernel) (by decide) l424 (fun q443 => ?_) (fun q444 => ?_)
      · have q443 : v423 < 2147483648 := q443
        refine x_const (np := 16) (x := 9223372039002259456) (a := 2147483648) (by decide +kernel) (by decide) (by decide) ?_
        refine x_retI (np := 17) (x := 0) (by decide +kernel) (by decide) (Or.inr ⟨by decide +kernel, by omega, by omega⟩) ⟨_, rfl, (by decide), ?_⟩
        refine x_ifz (k := 1) (tg := 171) (np := 169) (by decide +kernel) (by decide) (by decide) (fun q445 => ?_) (fun q446 => ?_)
        · have q445 : 2147483648 ≠ 2147483648 := q445
          exfalso; omega
        have q446 : ¬ (2147483648 ≠ 2147483648) := q446
        refine x_const (np := 170) (x := 9223372039002259456) (a := 2147483648) (by decide +kernel) (by decide) (by decide) ?_
        refine x_retI (np := 171) (x := 0) (by decide +kernel) (by decide) (Or.inr ⟨by decide +kernel, by omega, by omega⟩) ⟨_, rfl, (by decide), ?_⟩
        exact ⟨j440, f442, (by omega), (fun z => absurd z (by omega))⟩
      have q444 : ¬ (v423 < 2147483648) := q444
      have b447 := c431 (by omega)
      have b448 := c432 (by omega)
      have b449 := c433 (by omega)
      refine x_const (np := 12) (x := 9223372043297226753) (a := 2147483649) (by decide +kernel) (by decide) (by decide) ?_
      refine x_goto (np := 15) (x := 16) (by decide +kernel) ?_
      refine x_retI (np := 17) (x := 0) (by decide +kernel) (by decide) (Or.inr ⟨by decide +kernel, by omega, by omega⟩) ⟨_, rfl, (by decide), ?_⟩
      refine x_ifz (k := 1) (tg := 171) (np := 169) (by decide +kernel) (by decide) (by decide) (fun q450 => ?_) (fun q451 => ?_)
      · have q450 : 2147483649 ≠ 2147483648 := q450
        refine x_aload (np := 172) (x := 0) (by decide +kernel) rfl (x_nc_le (by decide)) ?_
        have q452 : h439 75 3 = 78 := by have z := jB (e := 3) 0 j440 rg_75_3_0_1 (by decide) (by decide); omega
        refine x_getR (np := 175) (x := 707) (f := 3) (q := 78) (by decide +kernel) (by decide) (by decide +kernel) q452 ?_
        refine x_const (np := 176) (x := 9223372047592194050) (a := 2147483650) (by decide +kernel) (by decide) (by decide) ?_
        refine x_dup2 (np := 177) (x := 0) (by decide +kernel) (by have z := (iw_c_lt (a := 2147483650) (by decide)).1; omega) (by have z := x_nc_le (k := 78) (by decide); unfold x_r; omega) ?_
        have q453 : h439 78 2 = h426 78 2 := by rw [← e441]; exact x_up_i (by omega)
        have q454 : h426 78 2 = h367 78 2 := jK 0 f428 rg_78_2_0_1 (by omega) (by omega) (by decide)
        have q455 : h367 78 2 = h360 78 2 := jK 0 f369 rg_78_2_0_1 (by omega) (by omega) (by decide)
        have q456 : h360 78 2 = h355 78 2 := by rw [← e362]; exact x_up_i (by omega)
        have q457 : h355 78 2 = h350 78 2 := by rw [← e357]; exact x_up_i (by omega)
        have q458 : h350 78 2 = h192 78 2 := by rw [← e352]; exact x_up_i (by omega)
        have q459 : h192 78 2 = h175 78 2 := jK 0 f194 rg_78_2_0_1 (by omega) (by omega) (by decide)
        have q460 : h175 78 2 = h162 78 2 := by rw [← e177]; exact x_up_i (by omega)
        have q461 : h162 78 2 = h146 78 2 := jK 0 f164 rg_78_2_0_1 (by omega) (by omega) (by decide)
        have q462 : h146 78 2 = h130 78 2 := jK 0 f148 rg_78_2_0_1 (by omega) (by omega) (by decide)
        have q463 : h130 78 2 = h117 78 2 := by rw [← e132]; exact x_up_i (by omega)
        have q464 : h117 78 2 = h101 78 2 := jK 0 f119 rg_78_2_0_1 (by omega) (by omega) (by decide)
        have q465 : h101 78 2 = h85 78 2 := jK 0 f103 rg_78_2_0_1 (by omega) (by omega) (by decide)
        have q466 : h85 78 2 = h72 78 2 := by rw [← e87]; exact x_up_i (by omega)
        have q467 : h72 78 2 = h49 78 2 := jK 0 f74 rg_78_2_0_1 (by omega) (by omega) (by decide)
        have q468 : h49 78 2 = h33 78 2 := jK 0 f51 rg_78_2_0_1 (by omega) (by omega) (by decide)
        have q469 : h33 78 2 = h19 78 2 := by rw [← e35]; exact x_up_i (by omega)
        have q470 : h19 78 2 = h 78 2 := jK 0 f21 rg_78_2_0_1 (by omega) (by omega) (by decide)
        refine x_aldC (np := 178) (x := 0) (n := 290) (i := 2) (q := (h 78 2)) (by decide +kernel) (by decide +kernel) (by omega) (by omega) (by decide) (((((((((((((((((q453.trans q454).trans q455).trans q456).trans q457).trans q458).trans q459).trans q460).trans q461).trans q462).trans q463).trans q464).trans q465).trans q466).trans q467).trans q468).trans q469).trans q470) (fun l471 => ?_)
        refine x_const (np := 179) (x := 9223372043297226753) (a := 2147483649) (by decide +kernel) (by decide) (by decide) ?_
        refine x_iadd (np := 180) (x := 0) (v := (1 + (h 78 2))) (by decide +kernel) l3 (by decide) (by omega) (by omega) ?_
        refine x_ast (np := 181) (x := 0) (kd := 1) (n := 290) (i := 2) (by decide +kernel) (Or.inl rfl) (by decide +kernel) (by omega) (by omega) (by decide) (by omega) (fun z => absurd z (by decide)) ?_
        have j473 := jU (e := 2) (v := (1 + (h 78 2))) 0 j440 rg_78_2_0_1 (by omega) (by omega) (by omega)
        have f475 := jF (e := 2) (v := (1 + (h 78 2))) 0 f442 rg_78_2_0_1 (by omega) (by omega) (by decide)
        generalize e474 : x_up h439 78 2 (1 + (h 78 2)) = h472 at j473 f475 ⊢
        refine x_const (np := 182) (x := 9223372043297226753) (a := 2147483649) (by decide +kernel) (by decide) (by decide) ?_
        have m494 := Cl.fr hC f21 (by decide)
        have m493 : Cl h33 := by rw [← e35]; exact Cl.upR (e := (20 + 7 * u8)) (v := v16) u8 m494 rg_76_20_7_20 (by omega) (by omega) (by omega)
        have m492 := Cl.fr m493 f51 (by decide)
        have m491 := Cl.fr m492 f74 (by decide)
        have m490 : Cl h85 := by rw [← e87]; exact Cl.upR (e := (21 + 7 * u8)) (v := v69) u8 m491 rg_76_21_7_20 (by omega) (by omega) (by omega)
        have m489 := Cl.fr m490 f103 (by decide)
        have m488 := Cl.fr m489 f119 (by decide)
        have m487 : Cl h130 := by rw [← e132]; exact Cl.upR (e := (22 + 7 * u8)) (v := v114) u8 m488 rg_76_22_7_20 (by omega) (by omega) (by omega)
        have m486 := Cl.fr m487 f148 (by decide)
        have m485 := Cl.fr m486 f164 (by decide)
        have m484 : Cl h175 := by rw [← e177]; exact Cl.upR (e := (23 + 7 * u8)) (v := v159) u8 m485 rg_76_23_7_20 (by omega) (by omega) (by omega)
        have m483 := Cl.fr m484 f194 (by decide)
        have m482 : Cl h350 := by rw [← e352]; exact Cl.upR (e := (24 + 7 * u8)) (v := 2147483649) u8 m483 rg_76_24_7_20 (by omega) (by omega) (by omega)
        have m481 : Cl h355 := by rw [← e357]; exact Cl.upR (e := (25 + 7 * u8)) (v := 2147483648) u8 m482 rg_76_25_7_20 (by omega) (by omega) (by omega)
        have m480 : Cl h360 := by rw [← e362]; exact Cl.upR (e := (26 + 7 * u8)) (v := 2147483648) u8 m481 rg_76_26_7_20 (by omega) (by omega) (by omega)
        have m479 := Cl.fr m480 f369 (by decide)
        have m478 := Cl.fr m479 f428 (by decide)
        have m477 : Cl h439 := by rw [← e441]; exact Cl.upR (e := (25 + 7 * u8)) (v := v423) u8 m478 rg_76_25_7_20 (by omega) (by omega) (by omega)
        have m476 : Cl h472 := by rw [← e474]; exact Cl.upR (e := 2) (v := (1 + (h 78 2))) 0 m477 rg_76_2_0_1 (by omega) (by omega) (by omega)
        refine x_retI (np := 183) (x := 0) (by decide +kernel) (by decide) (Or.inr ⟨by decide +kernel, by omega, by omega⟩) ⟨_, rfl, (by decide), ?_⟩
        exact ⟨j473, f475, (by omega), (fun _ => m476)⟩
      have q451 : ¬ (2147483649 ≠ 2147483648) := q451
      exfalso; omega
    have q187 : ¬ (2147483649 ≠ 2147483648) := q187
    exfalso; omega
  have q5 : ¬ ((h 78 2) ≠ 2147483668) := q5
  refine x_const (np := 12) (x := 9223372039002259456) (a := 2147483648) (by decide +kernel) (by decide) (by decide) ?_
  refine x_retI (np := 13) (x := 0) (by decide +kernel) (by decide) (Or.inr ⟨by decide +kernel, by omega, by omega⟩) ⟨_, rfl, (by decide), ?_⟩
  exact ⟨hJ, hF, (by omega), (fun z => absurd z (by omega))⟩
