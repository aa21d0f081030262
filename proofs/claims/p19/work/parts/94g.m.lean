/-! ===== methods ===== -/
set_option maxHeartbeats 0 in
/-- LentNamesModel.readTownLine()Z -/
theorem c186_75 {sc : Nat × Nat} {d  : Nat} {h : xh} (hJ : J h) (hC : Cl h) : X sc 186 (d + 7) (xI fun r h' => J h' ∧ Fr 273678337 h h' ∧ (2147483648 ≤ r ∧ r ≤ 2147483649) ∧ (r = 2147483649 → Cl h')) 0 0 0 [x_r 75] [] h := by
  have hF := Fr.refl 273678337 h
  refine x_aload (np := 1) (x := 0) (by decide +kernel) rfl (x_nc_le (by decide)) ?_
  refine x_ldcB (i := 0) (idx := 183) (tx := "lend") (by rw [tb_y186]; exact List.mem_of_getElem? (i := 35) rfl) (by decide) (by rw [tb_b186]; decide +kernel) ?_
  refine x_cP (t := 6) (mj := 170) (n := 2) (rc := 12) (ml := 4) (nr := 0) (np := 6) (as := [x_r 75, x_b (0 + 1)]) (rest := []) (lo1 := [x_r 75, x_b (0 + 1), 147573952589676412928, 147573952589676412928]) (by decide +kernel) (by decide) (by decide +kernel) (x_rb_of (by decide +kernel)) rfl rfl (x_wr (by decide) (x_wB (by decide) x_wn)) x_wn (by decide) rfl (c170_75_S0 hJ  (by decide)) (fun v1 l2 q3 => ?_)
  obtain ⟨b5, c4⟩ := q3
  have b6 := jB (e := 7) 0 hJ rg_75_7_0_1 (by omega) (by omega)
  have b7 := jB (e := 9) 0 hJ rg_75_9_0_1 (by omega) (by omega)
  have b8 : iv_tl 0 = 4 := by decide
  refine x_ifz (k := 0) (tg := 14) (np := 9) (by decide +kernel) (by decide) l2 (fun q9 => ?_) (fun q10 => ?_)
  · have q9 : v1 = 2147483648 := q9
    refine x_aload (np := 15) (x := 0) (by decide +kernel) rfl (x_nc_le (by decide)) ?_
    refine x_ldcB (i := 17) (idx := 189) (tx := "late") (by rw [tb_y186]; exact List.mem_of_getElem? (i := 41) rfl) (by decide) (by rw [tb_b186]; decide +kernel) ?_
    refine x_cP (t := 6) (mj := 170) (n := 2) (rc := 12) (ml := 4) (nr := 0) (np := 20) (as := [x_r 75, x_b (17 + 1)]) (rest := []) (lo1 := [x_r 75, x_b (17 + 1), 147573952589676412928, 147573952589676412928]) (by decide +kernel) (by decide) (by decide +kernel) (x_rb_of (by decide +kernel)) rfl rfl (x_wr (by decide) (x_wB (by decide) x_wn)) x_wn (by decide) rfl (c170_75_S0 hJ  (by decide)) (fun v11 l12 q13 => ?_)
    obtain ⟨b15, c14⟩ := q13
    have b16 : iv_tl 17 = 4 := by decide
    refine x_ifz (k := 0) (tg := 28) (np := 23) (by decide +kernel) (by decide) l12 (fun q17 => ?_) (fun q18 => ?_)
    · have q17 : v11 = 2147483648 := q17
      refine x_aload (np := 29) (x := 0) (by decide +kernel) rfl (x_nc_le (by decide)) ?_
      refine x_ldcB (i := 19) (idx := 194) (tx := "dies") (by rw [tb_y186]; exact List.mem_of_getElem? (i := 43) rfl) (by decide) (by rw [tb_b186]; decide +kernel) ?_
      refine x_cP (t := 6) (mj := 170) (n := 2) (rc := 12) (ml := 4) (nr := 0) (np := 34) (as := [x_r 75, x_b (19 + 1)]) (rest := []) (lo1 := [x_r 75, x_b (19 + 1), 147573952589676412928, 147573952589676412928]) (by decide +kernel) (by decide) (by decide +kernel) (x_rb_of (by decide +kernel)) rfl rfl (x_wr (by decide) (x_wB (by decide) x_wn)) x_wn (by decide) rfl (c170_75_S0 hJ  (by decide)) (fun v19 l20 q21 => ?_)
      obtain ⟨b23, c22⟩ := q21
      have b24 : iv_tl 19 = 4 := by decide
      refine x_ifz (k := 0) (tg := 42) (np := 37) (by decide +kernel) (by decide) l20 (fun q25 => ?_) (fun q26 => ?_)
      · have q25 : v19 = 2147483648 := q25
        refine x_aload (np := 43) (x := 0) (by decide +kernel) rfl (x_nc_le (by decide)) ?_
        refine x_ldcB (i := 20) (idx := 199) (tx := "court") (by rw [tb_y186]; exact List.mem_of_getElem? (i := 44) rfl) (by decide) (by rw [tb_b186]; decide +kernel) ?_
        refine x_cP (t := 6) (mj := 170) (n := 2) (rc := 12) (ml := 4) (nr := 0) (np := 48) (as := [x_r 75, x_b (20 + 1)]) (rest := []) (lo1 := [x_r 75, x_b (20 + 1), 147573952589676412928, 147573952589676412928]) (by decide +kernel) (by decide) (by decide +kernel) (x_rb_of (by decide +kernel)) rfl rfl (x_wr (by decide) (x_wB (by decide) x_wn)) x_wn (by decide) rfl (c170_75_S0 hJ  (by decide)) (fun v27 l28 q29 => ?_)
        obtain ⟨b31, c30⟩ := q29
        have b32 : iv_tl 20 = 5 := by decide
        refine x_ifz (k := 0) (tg := 56) (np := 51) (by decide +kernel) (by decide) l28 (fun q33 => ?_) (fun q34 => ?_)
        · have q33 : v27 = 2147483648 := q33
          refine x_aload (np := 57) (x := 0) (by decide +kernel) rfl (x_nc_le (by decide)) ?_
          refine x_ldcB (i := 6) (idx := 204) (tx := "letter") (by rw [tb_y186]; exact List.mem_of_getElem? (i := 45) rfl) (by decide) (by rw [tb_b186]; decide +kernel) ?_
          refine x_cP (t := 6) (mj := 170) (n := 2) (rc := 12) (ml := 4) (nr := 0) (np := 62) (as := [x_r 75, x_b (6 + 1)]) (rest := []) (lo1 := [x_r 75, x_b (6 + 1), 147573952589676412928, 147573952589676412928]) (by decide +kernel) (by decide) (by decide +kernel) (x_rb_of (by decide +kernel)) rfl rfl (x_wr (by decide) (x_wB (by decide) x_wn)) x_wn (by decide) rfl (c170_75_S0 hJ  (by decide)) (fun v35 l36 q37 => ?_)
          obtain ⟨b39, c38⟩ := q37
          have b40 : iv_tl 6 = 6 := by decide
          refine x_ifz (k := 0) (tg := 70) (np := 65) (by decide +kernel) (by decide) l36 (fun q41 => ?_) (fun q42 => ?_)
          · have q41 : v35 = 2147483648 := q41
            refine x_aload (np := 71) (x := 0) (by decide +kernel) rfl (x_nc_le (by decide)) ?_
            refine x_ldcB (i := 8) (idx := 209) (tx := "debt") (by rw [tb_y186]; exact List.mem_of_getElem? (i := 47) rfl) (by decide) (by rw [tb_b186]; decide +kernel) ?_
            refine x_cP (t := 6) (mj := 170) (n := 2) (rc := 12) (ml := 4) (nr := 0) (np := 76) (as := [x_r 75, x_b (8 + 1)]) (rest := []) (lo1 := [x_r 75, x_b (8 + 1), 147573952589676412928, 147573952589676412928]) (by decide +kernel) (by decide) (by decide +kernel) (x_rb_of (by decide +kernel)) rfl rfl (x_wr (by decide) (x_wB (by decide) x_wn)) x_wn (by decide) rfl (c170_75_S0 hJ  (by decide)) (fun v43 l44 q45 => ?_)
            obtain ⟨b47, c46⟩ := q45
            have b48 : iv_tl 8 = 4 := by decide
            refine x_ifz (k := 0) (tg := 84) (np := 79) (by decide +kernel) (by decide) l44 (fun q49 => ?_) (fun q50 => ?_)
            · have q49 : v43 = 2147483648 := q49
              refine x_aload (np := 85) (x := 0) (by decide +kernel) rfl (x_nc_le (by decide)) ?_
              refine x_ldcB (i := 13) (idx := 214) (tx := "seen") (by rw [tb_y186]; exact List.mem_of_getElem? (i := 52) rfl) (by decide) (by rw [tb_b186]; decide +kernel) ?_
              refine x_cP (t := 6) (mj := 170) (n := 2) (rc := 12) (ml := 4) (nr := 0) (np := 90) (as := [x_r 75, x_b (13 + 1)]) (rest := []) (lo1 := [x_r 75, x_b (13 + 1), 147573952589676412928, 147573952589676412928]) (by decide +kernel) (by decide) (by decide +kernel) (x_rb_of (by decide +kernel)) rfl rfl (x_wr (by decide) (x_wB (by decide) x_wn)) x_wn (by decide) rfl (c170_75_S0 hJ  (by decide)) (fun v51 l52 q53 => ?_)
              obtain ⟨b55, c54⟩ := q53
              have b56 : iv_tl 13 = 4 := by decide
              refine x_ifz (k := 0) (tg := 104) (np := 93) (by decide +kernel) (by decide) l52 (fun q57 => ?_) (fun q58 => ?_)
              · have q57 : v51 = 2147483648 := q57
                refine x_const (np := 105) (x := 9223372039002259456) (a := 2147483648) (by decide +kernel) (by decide) (by decide) ?_
                refine x_retI (np := 106) (x := 0) (by decide +kernel) (by decide) (Or.inr ⟨by decide +kernel, by omega, by omega⟩) ⟨_, rfl, (by decide), ?_⟩
                exact ⟨hJ, hF, (by omega), (fun z => absurd z (by omega))⟩
              have q58 : ¬ (v51 = 2147483648) := q58
              have b59 := c54 (by omega)
              refine x_aload (np := 94) (x := 0) (by decide +kernel) rfl (x_nc_le (by decide)) ?_
              refine x_cI (t := 6) (mj := 185) (n := 1) (rc := 12) (ml := 4) (nr := 0) (np := 97) (as := [x_r 75]) (rest := []) (lo1 := [x_r 75, 147573952589676412928, 147573952589676412928, 147573952589676412928]) (by decide +kernel) (by decide) (by decide +kernel) (x_rb_of (by decide +kernel)) rfl rfl (x_wr (by decide) x_wn) x_wn (by decide) rfl (c185_75 hJ  hC) (fun v60 h63 l61 q62 => ?_)
              obtain ⟨j64, f65, b66, c67⟩ := q62
              have f68 := Fr.trans hF f65 (by decide)
              refine x_ifz (k := 0) (tg := 104) (np := 100) (by decide +kernel) (by decide) l61 (fun q69 => ?_) (fun q70 => ?_)
              · have q69 : v60 = 2147483648 := q69
                refine x_const (np := 105) (x := 9223372039002259456) (a := 2147483648) (by decide +kernel) (by decide) (by decide) ?_
                refine x_retI (np := 106) (x := 0) (by decide +kernel) (by decide) (Or.inr ⟨by decide +kernel, by omega, by omega⟩) ⟨_, rfl, (by decide), ?_⟩
                exact ⟨j64, f68, (by omega), (fun z => absurd z (by omega))⟩
              have q70 : ¬ (v60 = 2147483648) := q70
              have m71 := c67 (by omega)
              refine x_const (np := 101) (x := 9223372043297226753) (a := 2147483649) (by decide +kernel) (by decide) (by decide) ?_
              refine x_goto (np := 104) (x := 105) (by decide +kernel) ?_
              refine x_retI (np := 106) (x := 0) (by decide +kernel) (by decide) (Or.inr ⟨by decide +kernel, by omega, by omega⟩) ⟨_, rfl, (by decide), ?_⟩
              exact ⟨j64, f68, (by omega), (fun _ => m71)⟩
            have q50 : ¬ (v43 = 2147483648) := q50
            have b72 := c46 (by omega)
            refine x_aload (np := 80) (x := 0) (by decide +kernel) rfl (x_nc_le (by decide)) ?_
            refine x_cI (t := 6) (mj := 184) (n := 1) (rc := 12) (ml := 2) (nr := 0) (np := 83) (as := [x_r 75]) (rest := []) (lo1 := [x_r 75, 147573952589676412928]) (by decide +kernel) (by decide) (by decide +kernel) (x_rb_of (by decide +kernel)) rfl rfl (x_wr (by decide) x_wn) x_wn (by decide) rfl (c184_75 hJ  hC) (fun v73 h76 l74 q75 => ?_)
            obtain ⟨j77, f78, b79, c80⟩ := q75
            have f81 := Fr.trans hF f78 (by decide)
            refine x_retI (np := 84) (x := 0) (by decide +kernel) l74 (Or.inr ⟨by decide +kernel, by omega, by omega⟩) ⟨_, rfl, l74, ?_⟩
            exact ⟨j77, f81, (by omega), (fun z => c80 (by omega))⟩
          have q42 : ¬ (v35 = 2147483648) := q42
          have b82 := c38 (by omega)
          refine x_aload (np := 66) (x := 0) (by decide +kernel) rfl (x_nc_le (by decide)) ?_
          refine x_cI (t := 6) (mj := 183) (n := 1) (rc := 12) (ml := 2) (nr := 0) (np := 69) (as := [x_r 75]) (rest := []) (lo1 := [x_r 75, 147573952589676412928]) (by decide +kernel) (by decide) (by decide +kernel) (x_rb_of (by decide +kernel)) rfl rfl (x_wr (by decide) x_wn) x_wn (by decide) rfl (c183_75 hJ  hC) (fun v83 h86 l84 q85 => ?_)
          obtain ⟨j87, f88, b89, c90⟩ := q85
          have f91 := Fr.trans hF f88 (by decide)
          refine x_retI (np := 70) (x := 0) (by decide +kernel) l84 (Or.inr ⟨by decide +kernel, by omega, by omega⟩) ⟨_, rfl, l84, ?_⟩
          exact ⟨j87, f91, (by omega), (fun z => c90 (by omega))⟩
        have q34 : ¬ (v27 = 2147483648) := q34
        have b92 := c30 (by omega)
        refine x_aload (np := 52) (x := 0) (by decide +kernel) rfl (x_nc_le (by decide)) ?_
        refine x_cI (t := 6) (mj := 182) (n := 1) (rc := 12) (ml := 2) (nr := 0) (np := 55) (as := [x_r 75]) (rest := []) (lo1 := [x_r 75, 147573952589676412928]) (by decide +kernel) (by decide) (by decide +kernel) (x_rb_of (by decide +kernel)) rfl rfl (x_wr (by decide) x_wn) x_wn (by decide) rfl (c182_75 hJ  hC) (fun v93 h96 l94 q95 => ?_)
        obtain ⟨j97, f98, b99, c100⟩ := q95
        have f101 := Fr.trans hF f98 (by decide)
        refine x_retI (np := 56) (x := 0) (by decide +kernel) l94 (Or.inr ⟨by decide +kernel, by omega, by omega⟩) ⟨_, rfl, l94, ?_⟩
        exact ⟨j97, f101, (by omega), (fun z => c100 (by omega))⟩
      have q26 : ¬ (v19 = 2147483648) := q26
      have b102 := c22 (by omega)
      refine x_aload (np := 38) (x := 0) (by decide +kernel) rfl (x_nc_le (by decide)) ?_
      refine x_cI (t := 6) (mj := 181) (n := 1) (rc := 12) (ml := 3) (nr := 0) (np := 41) (as := [x_r 75]) (rest := []) (lo1 := [x_r 75, 147573952589676412928, 147573952589676412928]) (by decide +kernel) (by decide) (by decide +kernel) (x_rb_of (by decide +kernel)) rfl rfl (x_wr (by decide) x_wn) x_wn (by decide) rfl (c181_75 hJ  hC) (fun v103 h106 l104 q105 => ?_)
      obtain ⟨j107, f108, b109, c110⟩ := q105
      have f111 := Fr.trans hF f108 (by decide)
      refine x_retI (np := 42) (x := 0) (by decide +kernel) l104 (Or.inr ⟨by decide +kernel, by omega, by omega⟩) ⟨_, rfl, l104, ?_⟩
      exact ⟨j107, f111, (by omega), (fun z => c110 (by omega))⟩
    have q18 : ¬ (v11 = 2147483648) := q18
    have b112 := c14 (by omega)
    refine x_aload (np := 24) (x := 0) (by decide +kernel) rfl (x_nc_le (by decide)) ?_
    refine x_cI (t := 6) (mj := 180) (n := 1) (rc := 12) (ml := 2) (nr := 0) (np := 27) (as := [x_r 75]) (rest := []) (lo1 := [x_r 75, 147573952589676412928]) (by decide +kernel) (by decide) (by decide +kernel) (x_rb_of (by decide +kernel)) rfl rfl (x_wr (by decide) x_wn) x_wn (by decide) rfl (c180_75 hJ  hC) (fun v113 h116 l114 q115 => ?_)
    obtain ⟨j117, f118, b119, c120⟩ := q115
    have f121 := Fr.trans hF f118 (by decide)
    refine x_retI (np := 28) (x := 0) (by decide +kernel) l114 (Or.inr ⟨by decide +kernel, by omega, by omega⟩) ⟨_, rfl, l114, ?_⟩
    exact ⟨j117, f121, (by omega), (fun z => c120 (by omega))⟩
  have q10 : ¬ (v1 = 2147483648) := q10
  have b122 := c4 (by omega)
  refine x_aload (np := 10) (x := 0) (by decide +kernel) rfl (x_nc_le (by decide)) ?_
  refine x_cI (t := 6) (mj := 179) (n := 1) (rc := 12) (ml := 2) (nr := 0) (np := 13) (as := [x_r 75]) (rest := []) (lo1 := [x_r 75, 147573952589676412928]) (by decide +kernel) (by decide) (by decide +kernel) (x_rb_of (by decide +kernel)) rfl rfl (x_wr (by decide) x_wn) x_wn (by decide) rfl (c179_75 hJ  hC) (fun v123 h126 l124 q125 => ?_)
  obtain ⟨j127, f128, b129, c130⟩ := q125
  have f131 := Fr.trans hF f128 (by decide)
  refine x_retI (np := 14) (x := 0) (by decide +kernel) l124 (Or.inr ⟨by decide +kernel, by omega, by omega⟩) ⟨_, rfl, l124, ?_⟩
  exact ⟨j127, f131, (by omega), (fun z => c130 (by omega))⟩
set_option maxHeartbeats 0 in
/-- LentNamesModel.readAll(Z)I -/
theorem c194_75_c1 {sc : Nat × Nat} {d  : Nat} {h : xh} (hJ : J h) (hC : Cl h) : X sc 194 (d + 8) (xI fun r h' => J h' ∧ Fr 293076993 h h' ∧ (2147483647 ≤ r ∧ r ≤ 2147483662) ∧ (h' 75 6 = 2147483648) ∧ (2147483648 ≤ r → Cl h')) 0 0 0 [x_r 75, iv_c 2147483649, 147573952589676412928] [] h := by
  have hF := Fr.refl 293076993 h
  refine x_aload (np := 1) (x := 0) (by decide +kernel) rfl (x_nc_le (by decide)) ?_
  refine x_aload (np := 2) (x := 0) (by decide +kernel) rfl (x_nc_le (by decide)) ?_
  have b1 := jB (e := 6) 0 hJ rg_75_6_0_1 (by omega) (by omega)
  refine x_getC (np := 5) (x := 710) (f := 6) (q := (h 75 6)) (by decide +kernel) (by decide) (by decide +kernel) rfl (fun l2 => ?_)
  refine x_putI (np := 8) (x := 712) (f := 8) (by decide +kernel) (by decide +kernel) l2 (Or.inl (by decide)) ?_
  have j4 := jU (e := 8) (v := (h 75 6)) 0 hJ rg_75_8_0_1 (by omega) (by omega) (by omega)
  have f6 := jF (e := 8) (v := (h 75 6)) 0 hF rg_75_8_0_1 (by omega) (by omega) (by decide)
  generalize e5 : x_up h 75 8 (h 75 6) = h3 at j4 f6 ⊢
  refine x_aload (np := 9) (x := 0) (by decide +kernel) rfl (x_nc_le (by decide)) ?_
  refine x_const (np := 10) (x := 9223372039002259456) (a := 2147483648) (by decide +kernel) (by decide) (by decide) ?_
  refine x_putI (np := 13) (x := 710) (f := 6) (by decide +kernel) (by decide +kernel) (by decide) (Or.inl (by decide)) ?_
  have j8 := jU (e := 6) (v := 2147483648) 0 j4 rg_75_6_0_1 (by omega) (by omega) (by omega)
  have f10 := jF (e := 6) (v := 2147483648) 0 f6 rg_75_6_0_1 (by omega) (by omega) (by decide)
  generalize e9 : x_up h3 75 6 2147483648 = h7 at j8 f10 ⊢
  refine x_aload (np := 14) (x := 0) (by decide +kernel) rfl (x_nc_le (by decide)) ?_
  refine x_const (np := 15) (x := 9223372039002259456) (a := 2147483648) (by decide +kernel) (by decide) (by decide) ?_
  refine x_putI (np := 18) (x := 711) (f := 7) (by decide +kernel) (by decide +kernel) (by decide) (Or.inl (by decide)) ?_
  have j12 := jU (e := 7) (v := 2147483648) 0 j8 rg_75_7_0_1 (by omega) (by omega) (by omega)
  have f14 := jF (e := 7) (v := 2147483648) 0 f10 rg_75_7_0_1 (by omega) (by omega) (by decide)
  generalize e13 : x_up h7 75 7 2147483648 = h11 at j12 f14 ⊢
  refine x_aload (np := 19) (x := 0) (by decide +kernel) rfl (x_nc_le (by decide)) ?_
  refine x_const (np := 20) (x := 9223372039002259456) (a := 2147483648) (by decide +kernel) (by decide) (by decide) ?_
  refine x_putI (np := 23) (x := 717) (f := 13) (by decide +kernel) (by decide +kernel) (by decide) (Or.inl (by decide)) ?_
  have j16 := jU (e := 13) (v := 2147483648) 0 j12 rg_75_13_0_1 (by omega) (by omega) (by omega)
  have f18 := jF (e := 13) (v := 2147483648) 0 f14 rg_75_13_0_1 (by omega) (by omega) (by decide)
  generalize e17 : x_up h11 75 13 2147483648 = h15 at j16 f18 ⊢
  refine x_aload (np := 24) (x := 0) (by decide +kernel) rfl (x_nc_le (by decide)) ?_
  refine x_cV (t := 6) (mj := 168) (n := 1) (rc := 12) (ml := 1) (nr := 0) (np := 27) (as := [x_r 75]) (rest := []) (lo1 := [x_r 75]) (by decide +kernel) (by decide) (by decide +kernel) (x_rb_of (by decide +kernel)) rfl rfl (x_wr (by decide) x_wn) x_wn (by decide) rfl (c168_75 j16 ) (fun h22 q21 => ?_)
  obtain ⟨j23, f24, c27, c28⟩ := q21
  have f29 := Fr.trans f18 f24 (by decide)
  have q30 : h15 75 7 = h11 75 7 := by rw [← e17]; exact x_up_i (by omega)
  have q31 : h11 75 7 = 2147483648 := by rw [← e13]; exact x_up_at
  have b32 := jB (e := 7) 0 j23 rg_75_7_0_1 (by omega) (by omega)
  have b33 := jB (e := 9) 0 j23 rg_75_9_0_1 (by omega) (by omega)
  refine x_aload (np := 28) (x := 0) (by decide +kernel) rfl (x_nc_le (by decide)) ?_
  refine x_getC (np := 31) (x := 711) (f := 7) (q := (h22 75 7)) (by decide +kernel) (by decide) (by decide +kernel) rfl (fun l34 => ?_)
  refine x_aload (np := 32) (x := 0) (by decide +kernel) rfl (x_nc_le (by decide)) ?_
  have q35 : h22 75 8 = h15 75 8 := jK 0 f24 rg_75_8_0_1 (by omega) (by omega) (by decide)
  have q36 : h15 75 8 = h11 75 8 := by rw [← e17]; exact x_up_i (by omega)
  have q37 : h11 75 8 = h7 75 8 := by rw [← e13]; exact x_up_i (by omega)
  have q38 : h7 75 8 = h3 75 8 := by rw [← e9]; exact x_up_i (by omega)
  have q39 : h3 75 8 = (h 75 6) := by rw [← e5]; exact x_up_at
  refine x_getC (np := 35) (x := 712) (f := 8) (q := (h 75 6)) (by decide +kernel) (by decide) (by decide +kernel) ((((q35.trans q36).trans q37).trans q38).trans q39) (fun l40 => ?_)
  refine x_icmp (k := 1) (tg := 40) (np := 38) (by decide +kernel) (by decide) l34 l2 (fun q41 => ?_) (fun q42 => ?_)
  · have q41 : (h22 75 7) ≠ (h 75 6) := q41
    refine x_const (np := 41) (x := 9223372039002259456) (a := 2147483648) (by decide +kernel) (by decide) (by decide) ?_
    refine x_istore (np := 42) (x := 2) (lo' := [x_r 75, iv_c 2147483649, iv_c 2147483648]) (by decide +kernel) (by decide) (Nat.le_of_ble_eq_true rfl) rfl ?_
    have p1683 : ∀ (n : Nat) (v1678 : Nat) (h1680 : xh), 4294967296 - v1678 < n → (2147483648 ≤ v1678 ∧ v1678 ≤ 2147483662) → J h1680 → Fr 273678337 h22 h1680 → Cl h1680 → X sc 194 (d + 8) (xI fun r h' => J h' ∧ Fr 293076993 h h' ∧ (2147483647 ≤ r ∧ r ≤ 2147483662) ∧ (h' 75 6 = 2147483648) ∧ (2147483648 ≤ r → Cl h')) 0 0 42 [x_r 75, iv_c 2147483649, iv_c v1678] [] h1680 := by
      intro n
      induction n with
      | zero => intro v1678 h1680 q1685; exact absurd q1685 (Nat.not_lt_zero _)
      | succ n i1686 =>
        intro v1678 h1680 q1685 b1679 j1682 f1681 m1684
        have f1687 := Fr.trans f29 f1681 (by decide)
        refine x_aload (np := 43) (x := 0) (by decide +kernel) rfl (x_nc_le (by decide)) ?_
        refine x_cV (t := 6) (mj := 169) (n := 1) (rc := 12) (ml := 1) (nr := 0) (np := 46) (as := [x_r 75]) (rest := []) (lo1 := [x_r 75]) (by decide +kernel) (by decide) (by decide +kernel) (x_rb_of (by decide +kernel)) rfl rfl (x_wr (by decide) x_wn) x_wn (by decide) rfl (c169_75 j1682 ) (fun h1691 q1690 => ?_)
        obtain ⟨j1692, f1693, c1696, c1697⟩ := q1690
        have f1698 := Fr.trans f1687 f1693 (by decide)
        have f1699 := Fr.trans f1681 f1693 (by decide)
        have b1700 := jB (e := 7) 0 j1682 rg_75_7_0_1 (by omega) (by omega)
        have b1701 := jB (e := 9) 0 j1692 rg_75_9_0_1 (by omega) (by omega)
        have b1702 := jB (e := 7) 0 j1692 rg_75_7_0_1 (by omega) (by omega)
        refine x_iload (np := 47) (x := 2) (by decide +kernel) rfl (by omega) ?_
        refine x_iload (np := 48) (x := 1) (by decide +kernel) rfl (by decide) ?_
        refine x_ifz (k := 0) (tg := 56) (np := 51) (by decide +kernel) (by decide) (by decide) (fun q1703 => ?_) (fun q1704 => ?_)
        · have q1703 : 2147483649 = 2147483648 := q1703
          exfalso; omega
        have q1704 : ¬ (2147483649 = 2147483648) := q1704
        refine x_const (np := 53) (x := 9223372099131801614) (a := 2147483662) (by decide +kernel) (by decide) (by decide) ?_
        refine x_goto (np := 56) (x := 58) (by decide +kernel) ?_
        refine x_icmp (k := 0) (tg := 83) (np := 61) (by decide +kernel) (by decide) (by omega) (by decide) (fun q1705 => ?_) (fun q1706 => ?_)
        · have q1705 : v1678 = 2147483662 := q1705
          refine x_const (np := 84) (x := 9223372034707292159) (a := 2147483647) (by decide +kernel) (by decide) (by decide) ?_
          have q1707 : h1691 75 6 = h1680 75 6 := jK 0 f1693 rg_75_6_0_1 (by omega) (by omega) (by decide)
          have q1708 : h1680 75 6 = h22 75 6 := jK 0 f1681 rg_75_6_0_1 (by omega) (by omega) (by decide)
          have q1709 : h22 75 6 = h15 75 6 := jK 0 f24 rg_75_6_0_1 (by omega) (by omega) (by decide)
          have q1710 : h15 75 6 = h11 75 6 := by rw [← e17]; exact x_up_i (by omega)
          have q1711 : h11 75 6 = h7 75 6 := by rw [← e13]; exact x_up_i (by omega)
          have q1712 : h7 75 6 = 2147483648 := by rw [← e9]; exact x_up_at
          refine x_retI (np := 85) (x := 0) (by decide +kernel) (by decide) (Or.inl (by decide +kernel)) ⟨_, rfl, (by decide), ?_⟩
          exact ⟨j1692, f1698, (by omega), (by omega), (fun z => absurd z (by omega))⟩
        have q1706 : ¬ (v1678 = 2147483662) := q1706
        refine x_iload (np := 62) (x := 1) (by decide +kernel) rfl (by decide) ?_
        refine x_ifz (k := 0) (tg := 75) (np := 65) (by decide +kernel) (by decide) (by decide) (fun q1713 => ?_) (fun q1714 => ?_)
        · have q1713 : 2147483649 = 2147483648 := q1713
          exfalso; omega
        have q1714 : ¬ (2147483649 = 2147483648) := q1714
        refine x_aload (np := 66) (x := 0) (by decide +kernel) rfl (x_nc_le (by decide)) ?_
        have m1718 := Cl.fr m1684 f1693 (by decide)
        refine x_cI (t := 6) (mj := 186) (n := 1) (rc := 12) (ml := 1) (nr := 0) (np := 69) (as := [x_r 75]) (rest := []) (lo1 := [x_r 75]) (by decide +kernel) (by decide) (by decide +kernel) (x_rb_of (by decide +kernel)) rfl rfl (x_wr (by decide) x_wn) x_wn (by decide) rfl (c186_75 j1692  m1718) (fun v1715 h1719 l1716 q1717 => ?_)
        obtain ⟨j1720, f1721, b1722, c1723⟩ := q1717
        have f1724 := Fr.trans f1698 f1721 (by decide)
        have f1725 := Fr.trans f1699 f1721 (by decide)
        refine x_ifz (k := 0) (tg := 83) (np := 72) (by decide +kernel) (by decide) l1716 (fun q1726 => ?_) (fun q1727 => ?_)
        · have q1726 : v1715 = 2147483648 := q1726
          refine x_const (np := 84) (x := 9223372034707292159) (a := 2147483647) (by decide +kernel) (by decide) (by decide) ?_
          have q1728 : h1719 75 6 = h1691 75 6 := jK 0 f1721 rg_75_6_0_1 (by omega) (by omega) (by decide)
          have q1729 : h1691 75 6 = h1680 75 6 := jK 0 f1693 rg_75_6_0_1 (by omega) (by omega) (by decide)
          have q1730 : h1680 75 6 = h22 75 6 := jK 0 f1681 rg_75_6_0_1 (by omega) (by omega) (by decide)
          have q1731 : h22 75 6 = h15 75 6 := jK 0 f24 rg_75_6_0_1 (by omega) (by omega) (by decide)
          have q1732 : h15 75 6 = h11 75 6 := by rw [← e17]; exact x_up_i (by omega)
          have q1733 : h11 75 6 = h7 75 6 := by rw [← e13]; exact x_up_i (by omega)
          have q1734 : h7 75 6 = 2147483648 := by rw [← e9]; exact x_up_at
          refine x_retI (np := 85) (x := 0) (by decide +kernel) (by decide) (Or.inl (by decide +kernel)) ⟨_, rfl, (by decide), ?_⟩
          exact ⟨j1720, f1724, (by omega), (by omega), (fun z => absurd z (by omega))⟩
        have q1727 : ¬ (v1715 = 2147483648) := q1727
        have m1735 := c1723 (by omega)
        refine x_goto (np := 75) (x := 85) (by decide +kernel) ?_
        refine x_aload (np := 86) (x := 0) (by decide +kernel) rfl (x_nc_le (by decide)) ?_
        refine x_cV (t := 6) (mj := 168) (n := 1) (rc := 12) (ml := 1) (nr := 0) (np := 89) (as := [x_r 75]) (rest := []) (lo1 := [x_r 75]) (by decide +kernel) (by decide) (by decide +kernel) (x_rb_of (by decide +kernel)) rfl rfl (x_wr (by decide) x_wn) x_wn (by decide) rfl (c168_75 j1720 ) (fun h1739 q1738 => ?_)
        obtain ⟨j1740, f1741, c1744, c1745⟩ := q1738
        have f1746 := Fr.trans f1724 f1741 (by decide)
        have f1747 := Fr.trans f1725 f1741 (by decide)
        have b1748 := jB (e := 7) 0 j1720 rg_75_7_0_1 (by omega) (by omega)
        have b1749 := jB (e := 7) 0 j1740 rg_75_7_0_1 (by omega) (by omega)
        have b1750 := jB (e := 9) 0 j1740 rg_75_9_0_1 (by omega) (by omega)
        refine x_aload (np := 90) (x := 0) (by decide +kernel) rfl (x_nc_le (by decide)) ?_
        refine x_getC (np := 93) (x := 711) (f := 7) (q := (h1739 75 7)) (by decide +kernel) (by decide) (by decide +kernel) rfl (fun l1751 => ?_)
        refine x_aload (np := 94) (x := 0) (by decide +kernel) rfl (x_nc_le (by decide)) ?_
        have q1752 : h1739 75 8 = h1719 75 8 := jK 0 f1741 rg_75_8_0_1 (by omega) (by omega) (by decide)
        have q1753 : h1719 75 8 = h1691 75 8 := jK 0 f1721 rg_75_8_0_1 (by omega) (by omega) (by decide)
        have q1754 : h1691 75 8 = h1680 75 8 := jK 0 f1693 rg_75_8_0_1 (by omega) (by omega) (by decide)
        have q1755 : h1680 75 8 = h22 75 8 := jK 0 f1681 rg_75_8_0_1 (by omega) (by omega) (by decide)
        have q1756 : h22 75 8 = h15 75 8 := jK 0 f24 rg_75_8_0_1 (by omega) (by omega) (by decide)
        have q1757 : h15 75 8 = h11 75 8 := by rw [← e17]; exact x_up_i (by omega)
        have q1758 : h11 75 8 = h7 75 8 := by rw [← e13]; exact x_up_i (by omega)
        have q1759 : h7 75 8 = h3 75 8 := by rw [← e9]; exact x_up_i (by omega)
        have q1760 : h3 75 8 = (h 75 6) := by rw [← e5]; exact x_up_at
        refine x_getC (np := 97) (x := 712) (f := 8) (q := (h 75 6)) (by decide +kernel) (by decide) (by decide +kernel) ((((((((q1752.trans q1753).trans q1754).trans q1755).trans q1756).trans q1757).trans q1758).trans q1759).trans q1760) (fun l1761 => ?_)
        refine x_icmp (k := 1) (tg := 104) (np := 100) (by decide +kernel) (by decide) l1751 l2 (fun q1762 => ?_) (fun q1763 => ?_)
        · have q1762 : (h1739 75 7) ≠ (h 75 6) := q1762
          refine x_aload (np := 105) (x := 0) (by decide +kernel) rfl (x_nc_le (by decide)) ?_
          refine x_const (np := 107) (x := 9223372292405329979) (a := 2147483707) (by decide +kernel) (by decide) (by decide) ?_
          refine x_const (np := 109) (x := 9223372292405329979) (a := 2147483707) (by decide +kernel) (by decide) (by decide) ?_
          refine x_nI (t := 6) (mj := 167) (n := 3) (rc := 12) (ml := 3) (nr := 0) (np := 112) (as := [x_r 75, iv_c 2147483707, iv_c 2147483707]) (rest := []) (lo1 := [x_r 75, iv_c 2147483707, iv_c 2147483707]) (by decide +kernel) (by decide) (by decide +kernel) (x_rb_of (by decide +kernel)) rfl rfl (x_wr (by decide) (x_wi (by decide) (x_wi (by decide) x_wn))) x_wn (by decide) rfl ?_
          refine x_aload (np := 1) (x := 0) (by decide +kernel) rfl (x_nc_le (by decide)) ?_
          refine x_getC (np := 4) (x := 711) (f := 7) (q := (h1739 75 7)) (by decide +kernel) (by decide) (by decide +kernel) rfl (fun l1764 => ?_)
          refine x_aload (np := 5) (x := 0) (by decide +kernel) rfl (x_nc_le (by decide)) ?_
          have q1765 : h1739 75 8 = h1719 75 8 := jK 0 f1741 rg_75_8_0_1 (by omega) (by omega) (by decide)
          have q1766 : h1719 75 8 = h1691 75 8 := jK 0 f1721 rg_75_8_0_1 (by omega) (by omega) (by decide)
          have q1767 : h1691 75 8 = h1680 75 8 := jK 0 f1693 rg_75_8_0_1 (by omega) (by omega) (by decide)
          have q1768 : h1680 75 8 = h22 75 8 := jK 0 f1681 rg_75_8_0_1 (by omega) (by omega) (by decide)
          have q1769 : h22 75 8 = h15 75 8 := jK 0 f24 rg_75_8_0_1 (by omega) (by omega) (by decide)
          have q1770 : h15 75 8 = h11 75 8 := by rw [← e17]; exact x_up_i (by omega)
          have q1771 : h11 75 8 = h7 75 8 := by rw [← e13]; exact x_up_i (by omega)
          have q1772 : h7 75 8 = h3 75 8 := by rw [← e9]; exact x_up_i (by omega)
          have q1773 : h3 75 8 = (h 75 6) := by rw [← e5]; exact x_up_at
          refine x_getC (np := 8) (x := 712) (f := 8) (q := (h 75 6)) (by decide +kernel) (by decide) (by decide +kernel) ((((((((q1765.trans q1766).trans q1767).trans q1768).trans q1769).trans q1770).trans q1771).trans q1772).trans q1773) (fun l1774 => ?_)
          refine x_icmp (k := 3) (tg := 41) (np := 11) (by decide +kernel) (by decide) l1751 l2 (fun q1775 => ?_) (fun q1776 => ?_)
          · have q1775 : (h 75 6) ≤ (h1739 75 7) := q1775
            refine x_const (np := 42) (x := 9223372039002259456) (a := 2147483648) (by decide +kernel) (by decide) (by decide) ?_
            refine x_retI (np := 43) (x := 0) (by decide +kernel) (by decide) (Or.inr ⟨by decide +kernel, by omega, by omega⟩) ⟨_, rfl, (by decide), ?_⟩
            refine x_ifz (k := 1) (tg := 117) (np := 115) (by decide +kernel) (by decide) (by decide) (fun q1777 => ?_) (fun q1778 => ?_)
            · have q1777 : 2147483648 ≠ 2147483648 := q1777
              exfalso; omega
            have q1778 : ¬ (2147483648 ≠ 2147483648) := q1778
            refine x_const (np := 116) (x := 9223372034707292159) (a := 2147483647) (by decide +kernel) (by decide) (by decide) ?_
            have q1779 : h1739 75 6 = h1719 75 6 := jK 0 f1741 rg_75_6_0_1 (by omega) (by omega) (by decide)
            have q1780 : h1719 75 6 = h1691 75 6 := jK 0 f1721 rg_75_6_0_1 (by omega) (by omega) (by decide)
            have q1781 : h1691 75 6 = h1680 75 6 := jK 0 f1693 rg_75_6_0_1 (by omega) (by omega) (by decide)
            have q1782 : h1680 75 6 = h22 75 6 := jK 0 f1681 rg_75_6_0_1 (by omega) (by omega) (by decide)
            have q1783 : h22 75 6 = h15 75 6 := jK 0 f24 rg_75_6_0_1 (by omega) (by omega) (by decide)
            have q1784 : h15 75 6 = h11 75 6 := by rw [← e17]; exact x_up_i (by omega)
            have q1785 : h11 75 6 = h7 75 6 := by rw [← e13]; exact x_up_i (by omega)
            have q1786 : h7 75 6 = 2147483648 := by rw [← e9]; exact x_up_at
            refine x_retI (np := 117) (x := 0) (by decide +kernel) (by decide) (Or.inl (by decide +kernel)) ⟨_, rfl, (by decide), ?_⟩
            exact ⟨j1740, f1746, (by omega), (by omega), (fun z => absurd z (by omega))⟩
          have q1776 : ¬ ((h 75 6) ≤ (h1739 75 7)) := q1776
          refine x_aload (np := 12) (x := 0) (by decide +kernel) rfl (x_nc_le (by decide)) ?_
          have q1787 : h1739 75 5 = 79 := by have z := jB (e := 5) 0 j1740 rg_75_5_0_1 (by decide) (by decide); omega
          refine x_getR (np := 15) (x := 709) (f := 5) (q := 79) (by decide +kernel) (by decide) (by decide +kernel) q1787 ?_
          refine x_aload (np := 16) (x := 0) (by decide +kernel) rfl (x_nc_le (by decide)) ?_
          refine x_getC (np := 19) (x := 711) (f := 7) (q := (h1739 75 7)) (by decide +kernel) (by decide) (by decide +kernel) rfl (fun l1788 => ?_)
          obtain ⟨u1789, q1790⟩ : ∃ z, (h1739 75 7) = 2147483648 + z := ⟨(h1739 75 7) - 2147483648, by omega⟩
          have q1791 : h1739 79 u1789 = h1719 79 u1789 := jK u1789 f1741 rg_79_0_1_400 (by omega) (by omega) (by decide)
          have q1792 : h1719 79 u1789 = h1691 79 u1789 := jK u1789 f1721 rg_79_0_1_400 (by omega) (by omega) (by decide)
          have q1793 : h1691 79 u1789 = h1680 79 u1789 := jK u1789 f1693 rg_79_0_1_400 (by omega) (by omega) (by decide)
          have q1794 : h1680 79 u1789 = h22 79 u1789 := jK u1789 f1681 rg_79_0_1_400 (by omega) (by omega) (by decide)
          have q1795 : h22 79 u1789 = h15 79 u1789 := jK u1789 f24 rg_79_0_1_400 (by omega) (by omega) (by decide)
          have q1796 : h15 79 u1789 = h11 79 u1789 := by rw [← e17]; exact x_up_k (by decide)
          have q1797 : h11 79 u1789 = h7 79 u1789 := by rw [← e13]; exact x_up_k (by decide)
          have q1798 : h7 79 u1789 = h3 79 u1789 := by rw [← e9]; exact x_up_k (by decide)
          have q1799 : h3 79 u1789 = h 79 u1789 := by rw [← e5]; exact x_up_k (by decide)
          have b1800 := jB (e := u1789) u1789 hJ rg_79_0_1_400 (by omega) (by omega)
          refine x_baldC (np := 20) (x := 0) (n := 400) (i := u1789) (q := (h 79 u1789)) (by decide +kernel) (by decide +kernel) (by omega) (by omega) (by decide) ((((((((q1791.trans q1792).trans q1793).trans q1794).trans q1795).trans q1796).trans q1797).trans q1798).trans q1799) (fun l1801 => ?_)
          refine x_iload (np := 21) (x := 1) (by decide +kernel) rfl (by decide) ?_
          refine x_icmp (k := 2) (tg := 41) (np := 24) (by decide +kernel) (by decide) l1801 (by decide) (fun q1802 => ?_) (fun q1803 => ?_)
          · have q1802 : (h 79 u1789) < 2147483707 := q1802
            refine x_const (np := 42) (x := 9223372039002259456) (a := 2147483648) (by decide +kernel) (by decide) (by decide) ?_
            refine x_retI (np := 43) (x := 0) (by decide +kernel) (by decide) (Or.inr ⟨by decide +kernel, by omega, by omega⟩) ⟨_, rfl, (by decide), ?_⟩
            refine x_ifz (k := 1) (tg := 117) (np := 115) (by decide +kernel) (by decide) (by decide) (fun q1804 => ?_) (fun q1805 => ?_)
            · have q1804 : 2147483648 ≠ 2147483648 := q1804
              exfalso; omega
            have q1805 : ¬ (2147483648 ≠ 2147483648) := q1805
            refine x_const (np := 116) (x := 9223372034707292159) (a := 2147483647) (by decide +kernel) (by decide) (by decide) ?_
            have q1806 : h1739 75 6 = h1719 75 6 := jK 0 f1741 rg_75_6_0_1 (by omega) (by omega) (by decide)
            have q1807 : h1719 75 6 = h1691 75 6 := jK 0 f1721 rg_75_6_0_1 (by omega) (by omega) (by decide)
            have q1808 : h1691 75 6 = h1680 75 6 := jK 0 f1693 rg_75_6_0_1 (by omega) (by omega) (by decide)
            have q1809 : h1680 75 6 = h22 75 6 := jK 0 f1681 rg_75_6_0_1 (by omega) (by omega) (by decide)
            have q1810 : h22 75 6 = h15 75 6 := jK 0 f24 rg_75_6_0_1 (by omega) (by omega) (by decide)
            have q1811 : h15 75 6 = h11 75 6 := by rw [← e17]; exact x_up_i (by omega)
            have q1812 : h11 75 6 = h7 75 6 := by rw [← e13]; exact x_up_i (by omega)
            have q1813 : h7 75 6 = 2147483648 := by rw [← e9]; exact x_up_at
            refine x_retI (np := 117) (x := 0) (by decide +kernel) (by decide) (Or.inl (by decide +kernel)) ⟨_, rfl, (by decide), ?_⟩
            exact ⟨j1740, f1746, (by omega), (by omega), (fun z => absurd z (by omega))⟩
          have q1803 : ¬ ((h 79 u1789) < 2147483707) := q1803
          refine x_aload (np := 25) (x := 0) (by decide +kernel) rfl (x_nc_le (by decide)) ?_
          have q1814 : h1739 75 5 = 79 := by have z := jB (e := 5) 0 j1740 rg_75_5_0_1 (by decide) (by decide); omega
          refine x_getR (np := 28) (x := 709) (f := 5) (q := 79) (by decide +kernel) (by decide) (by decide +kernel) q1814 ?_
          refine x_aload (np := 29) (x := 0) (by decide +kernel) rfl (x_nc_le (by decide)) ?_
          refine x_getC (np := 32) (x := 711) (f := 7) (q := (h1739 75 7)) (by decide +kernel) (by decide) (by decide +kernel) rfl (fun l1815 => ?_)
          have q1816 : h1739 79 u1789 = h1719 79 u1789 := jK u1789 f1741 rg_79_0_1_400 (by omega) (by omega) (by decide)
          have q1817 : h1719 79 u1789 = h1691 79 u1789 := jK u1789 f1721 rg_79_0_1_400 (by omega) (by omega) (by decide)
          have q1818 : h1691 79 u1789 = h1680 79 u1789 := jK u1789 f1693 rg_79_0_1_400 (by omega) (by omega) (by decide)
          have q1819 : h1680 79 u1789 = h22 79 u1789 := jK u1789 f1681 rg_79_0_1_400 (by omega) (by omega) (by decide)
          have q1820 : h22 79 u1789 = h15 79 u1789 := jK u1789 f24 rg_79_0_1_400 (by omega) (by omega) (by decide)
          have q1821 : h15 79 u1789 = h11 79 u1789 := by rw [← e17]; exact x_up_k (by decide)
          have q1822 : h11 79 u1789 = h7 79 u1789 := by rw [← e13]; exact x_up_k (by decide)
          have q1823 : h7 79 u1789 = h3 79 u1789 := by rw [← e9]; exact x_up_k (by decide)
          have q1824 : h3 79 u1789 = h 79 u1789 := by rw [← e5]; exact x_up_k (by decide)
          refine x_baldC (np := 33) (x := 0) (n := 400) (i := u1789) (q := (h 79 u1789)) (by decide +kernel) (by decide +kernel) (by omega) (by omega) (by decide) ((((((((q1816.trans q1817).trans q1818).trans q1819).trans q1820).trans q1821).trans q1822).trans q1823).trans q1824) (fun l1825 => ?_)
          refine x_iload (np := 34) (x := 2) (by decide +kernel) rfl (by decide) ?_
          refine x_icmp (k := 4) (tg := 41) (np := 37) (by decide +kernel) (by decide) l1801 (by decide) (fun q1826 => ?_) (fun q1827 => ?_)
          · have q1826 : 2147483707 < (h 79 u1789) := q1826
            refine x_const (np := 42) (x := 9223372039002259456) (a := 2147483648) (by decide +kernel) (by decide) (by decide) ?_
            refine x_retI (np := 43) (x := 0) (by decide +kernel) (by decide) (Or.inr ⟨by decide +kernel, by omega, by omega⟩) ⟨_, rfl, (by decide), ?_⟩
            refine x_ifz (k := 1) (tg := 117) (np := 115) (by decide +kernel) (by decide) (by decide) (fun q1828 => ?_) (fun q1829 => ?_)
            · have q1828 : 2147483648 ≠ 2147483648 := q1828
              exfalso; omega
            have q1829 : ¬ (2147483648 ≠ 2147483648) := q1829
            refine x_const (np := 116) (x := 9223372034707292159) (a := 2147483647) (by decide +kernel) (by decide) (by decide) ?_
            have q1830 : h1739 75 6 = h1719 75 6 := jK 0 f1741 rg_75_6_0_1 (by omega) (by omega) (by decide)
            have q1831 : h1719 75 6 = h1691 75 6 := jK 0 f1721 rg_75_6_0_1 (by omega) (by omega) (by decide)
            have q1832 : h1691 75 6 = h1680 75 6 := jK 0 f1693 rg_75_6_0_1 (by omega) (by omega) (by decide)
            have q1833 : h1680 75 6 = h22 75 6 := jK 0 f1681 rg_75_6_0_1 (by omega) (by omega) (by decide)
            have q1834 : h22 75 6 = h15 75 6 := jK 0 f24 rg_75_6_0_1 (by omega) (by omega) (by decide)
            have q1835 : h15 75 6 = h11 75 6 := by rw [← e17]; exact x_up_i (by omega)
            have q1836 : h11 75 6 = h7 75 6 := by rw [← e13]; exact x_up_i (by omega)
            have q1837 : h7 75 6 = 2147483648 := by rw [← e9]; exact x_up_at
            refine x_retI (np := 117) (x := 0) (by decide +kernel) (by decide) (Or.inl (by decide +kernel)) ⟨_, rfl, (by decide), ?_⟩
            exact ⟨j1740, f1746, (by omega), (by omega), (fun z => absurd z (by omega))⟩
          have q1827 : ¬ (2147483707 < (h 79 u1789)) := q1827
          refine x_const (np := 38) (x := 9223372043297226753) (a := 2147483649) (by decide +kernel) (by decide) (by decide) ?_
          refine x_goto (np := 41) (x := 42) (by decide +kernel) ?_
          refine x_retI (np := 43) (x := 0) (by decide +kernel) (by decide) (Or.inr ⟨by decide +kernel, by omega, by omega⟩) ⟨_, rfl, (by decide), ?_⟩
          refine x_ifz (k := 1) (tg := 117) (np := 115) (by decide +kernel) (by decide) (by decide) (fun q1838 => ?_) (fun q1839 => ?_)
          · have q1838 : 2147483649 ≠ 2147483648 := q1838
            refine x_aload (np := 118) (x := 0) (by decide +kernel) rfl (x_nc_le (by decide)) ?_
            refine x_dup (np := 119) (x := 0) (by decide +kernel) (by have z := x_nc_le (k := 75) (by decide); unfold x_r; omega) ?_
            refine x_getC (np := 122) (x := 711) (f := 7) (q := (h1739 75 7)) (by decide +kernel) (by decide) (by decide +kernel) rfl (fun l1840 => ?_)
            refine x_const (np := 123) (x := 9223372043297226753) (a := 2147483649) (by decide +kernel) (by decide) (by decide) ?_
            refine x_iadd (np := 124) (x := 0) (v := (1 + (h1739 75 7))) (by decide +kernel) l1751 (by decide) (by omega) (by omega) ?_
            refine x_putI (np := 127) (x := 711) (f := 7) (by decide +kernel) (by decide +kernel) (by omega) (Or.inl (by decide)) ?_
            have j1842 := jU (e := 7) (v := (1 + (h1739 75 7))) 0 j1740 rg_75_7_0_1 (by omega) (by omega) (by omega)
            have f1844 := jF (e := 7) (v := (1 + (h1739 75 7))) 0 f1746 rg_75_7_0_1 (by omega) (by omega) (by decide)
            have f1845 := jF (e := 7) (v := (1 + (h1739 75 7))) 0 f1747 rg_75_7_0_1 (by omega) (by omega) (by decide)
            generalize e1843 : x_up h1739 75 7 (1 + (h1739 75 7)) = h1841 at j1842 f1844 f1845 ⊢
            refine x_iinc (np := 130) (i := 2) (j := 2147483649) (v := (1 + v1678)) (lo' := [x_r 75, iv_c 2147483649, iv_c (1 + v1678)]) (by decide +kernel) (by decide) (by decide) rfl (by omega) (by omega) (by omega) rfl ?_
            refine x_goto (np := 133) (x := 42) (by decide +kernel) ?_
            have m1847 := Cl.fr m1735 f1741 (by decide)
            have m1846 : Cl h1841 := by rw [← e1843]; exact Cl.oth m1847 (by decide)
            exact i1686 (1 + v1678) h1841 (by omega) (by omega) j1842 f1845 m1846
          have q1839 : ¬ (2147483649 ≠ 2147483648) := q1839
          exfalso; omega
        have q1763 : ¬ ((h1739 75 7) ≠ (h 75 6)) := q1763
        refine x_iload (np := 101) (x := 2) (by decide +kernel) rfl (by omega) ?_
        refine x_const (np := 102) (x := 9223372043297226753) (a := 2147483649) (by decide +kernel) (by decide) (by decide) ?_
        refine x_iadd (np := 103) (x := 0) (v := (1 + v1678)) (by decide +kernel) (by omega) (by decide) (by omega) (by omega) ?_
        have q1848 : h1739 75 6 = h1719 75 6 := jK 0 f1741 rg_75_6_0_1 (by omega) (by omega) (by decide)
        have q1849 : h1719 75 6 = h1691 75 6 := jK 0 f1721 rg_75_6_0_1 (by omega) (by omega) (by decide)
        have q1850 : h1691 75 6 = h1680 75 6 := jK 0 f1693 rg_75_6_0_1 (by omega) (by omega) (by decide)
        have q1851 : h1680 75 6 = h22 75 6 := jK 0 f1681 rg_75_6_0_1 (by omega) (by omega) (by decide)
        have q1852 : h22 75 6 = h15 75 6 := jK 0 f24 rg_75_6_0_1 (by omega) (by omega) (by decide)
        have q1853 : h15 75 6 = h11 75 6 := by rw [← e17]; exact x_up_i (by omega)
        have q1854 : h11 75 6 = h7 75 6 := by rw [← e13]; exact x_up_i (by omega)
        have q1855 : h7 75 6 = 2147483648 := by rw [← e9]; exact x_up_at
        have m1856 := Cl.fr m1735 f1741 (by decide)
        refine x_retI (np := 104) (x := 0) (by decide +kernel) (by omega) (Or.inl (by decide +kernel)) ⟨_, rfl, (by omega), ?_⟩
        exact ⟨j1740, f1746, (by omega), (by omega), (fun _ => m1856)⟩
    have m1861 : Cl h3 := by rw [← e5]; exact Cl.oth hC (by decide)
    have m1860 : Cl h7 := by rw [← e9]; exact Cl.oth m1861 (by decide)
    have m1859 : Cl h11 := by rw [← e13]; exact Cl.oth m1860 (by decide)
    have m1858 : Cl h15 := by rw [← e17]; exact Cl.oth m1859 (by decide)
    have m1857 := Cl.fr m1858 f24 (by decide)
    exact p1683 _ 2147483648 h22 (Nat.lt_succ_self _) (by omega) j23 (Fr.refl _ _) m1857
  have q42 : ¬ ((h22 75 7) ≠ (h 75 6)) := q42
  refine x_const (np := 39) (x := 9223372039002259456) (a := 2147483648) (by decide +kernel) (by decide) (by decide) ?_
  have q1862 : h22 75 6 = h15 75 6 := jK 0 f24 rg_75_6_0_1 (by omega) (by omega) (by decide)
  have q1863 : h15 75 6 = h11 75 6 := by rw [← e17]; exact x_up_i (by omega)
  have q1864 : h11 75 6 = h7 75 6 := by rw [← e13]; exact x_up_i (by omega)
  have q1865 : h7 75 6 = 2147483648 := by rw [← e9]; exact x_up_at
  have m1870 : Cl h3 := by rw [← e5]; exact Cl.oth hC (by decide)
  have m1869 : Cl h7 := by rw [← e9]; exact Cl.oth m1870 (by decide)
  have m1868 : Cl h11 := by rw [← e13]; exact Cl.oth m1869 (by decide)
  have m1867 : Cl h15 := by rw [← e17]; exact Cl.oth m1868 (by decide)
  have m1866 := Cl.fr m1867 f24 (by decide)
  refine x_retI (np := 40) (x := 0) (by decide +kernel) (by decide) (Or.inl (by decide +kernel)) ⟨_, rfl, (by decide), ?_⟩
  exact ⟨j23, f29, (by omega), (by omega), (fun _ => m1866)⟩
set_option maxHeartbeats 0 in
/-- LentNamesModel.tell()I -/
theorem c195_75 {sc : Nat × Nat} {d  : Nat} {h : xh} (hJ : J h) : X sc 195 (d + 9) (xI fun r h' => J h' ∧ Fr 326762497 h h' ∧ (0 ≤ r ∧ r ≤ 4294967295) ∧ (h' 75 6 = 2147483648)) 0 0 0 [x_r 75, 147573952589676412928, 147573952589676412928] [] h := by
  have hF := Fr.refl 326762497 h
  refine x_aload (np := 1) (x := 0) (by decide +kernel) rfl (x_nc_le (by decide)) ?_
  refine x_const (np := 2) (x := 9223372039002259456) (a := 2147483648) (by decide +kernel) (by decide) (by decide) ?_
  refine x_putI (np := 5) (x := 704) (f := 0) (by decide +kernel) (by decide +kernel) (by decide) (Or.inl (by decide)) ?_
  have j2 := jU (e := 0) (v := 2147483648) 0 hJ rg_75_0_0_1 (by omega) (by omega) (by omega)
  have f4 := jF (e := 0) (v := 2147483648) 0 hF rg_75_0_0_1 (by omega) (by omega) (by decide)
  generalize e3 : x_up h 75 0 2147483648 = h1 at j2 f4 ⊢
  refine x_const (np := 6) (x := 9223372039002259456) (a := 2147483648) (by decide +kernel) (by decide) (by decide) ?_
  refine x_istore (np := 7) (x := 1) (lo' := [x_r 75, iv_c 2147483648, 147573952589676412928]) (by decide +kernel) (by decide) (Nat.le_of_ble_eq_true rfl) rfl ?_
  have p366 : ∀ (n : Nat) (v361 : Nat) (h363 : xh), 4294967296 - v361 < n → (2147483648 ≤ v361 ∧ v361 ≤ 2147483938) → J h363 → Fr 268435456 h1 h363 → Clp (v361 - 2147483648) h363 → X sc 195 (d + 9) (xI fun r h' => J h' ∧ Fr 326762497 h h' ∧ (0 ≤ r ∧ r ≤ 4294967295) ∧ (h' 75 6 = 2147483648)) 0 0 7 [x_r 75, iv_c v361, 147573952589676412928] [] h363 := by
    intro n
    induction n with
    | zero => intro v361 h363 q368; exact absurd q368 (Nat.not_lt_zero _)
    | succ n i369 =>
      intro v361 h363 q368 b362 j365 f364 m367
      have f370 := Fr.trans f4 f364 (by decide)
      refine x_iload (np := 8) (x := 1) (by decide +kernel) rfl (by omega) ?_
      refine x_const (np := 11) (x := 9223373284542775586) (a := 2147483938) (by decide +kernel) (by decide) (by decide) ?_
      refine x_icmp (k := 3) (tg := 32) (np := 14) (by decide +kernel) (by decide) (by omega) (by decide) (fun q371 => ?_) (fun q372 => ?_)
      · have q371 : 2147483938 ≤ v361 := q371
        refine x_aload (np := 33) (x := 0) (by decide +kernel) rfl (x_nc_le (by decide)) ?_
        refine x_const (np := 34) (x := 9223372043297226753) (a := 2147483649) (by decide +kernel) (by decide) (by decide) ?_
        have m376 : Cl h363 := Clp.cl m367 (by omega)
        refine x_cI (t := 6) (mj := 194) (n := 2) (rc := 12) (ml := 3) (nr := 0) (np := 37) (as := [x_r 75, iv_c 2147483649]) (rest := []) (lo1 := [x_r 75, iv_c 2147483649, 147573952589676412928]) (by decide +kernel) (by decide) (by decide +kernel) (x_rb_of (by decide +kernel)) rfl rfl (x_wr (by decide) (x_wi (by decide) x_wn)) x_wn (by decide) rfl (c194_75_c1 j365   m376) (fun v373 h377 l374 q375 => ?_)
        obtain ⟨j378, f379, b380, c381, c382⟩ := q375
        have f383 := Fr.trans f370 f379 (by decide)
        have b384 := jB (e := 6) 0 j378 rg_75_6_0_1 (by omega) (by omega)
        refine x_istore (np := 38) (x := 1) (lo' := [x_r 75, iv_c v373, 147573952589676412928]) (by decide +kernel) l374 (Nat.le_of_ble_eq_true rfl) rfl ?_
        refine x_aload (np := 39) (x := 0) (by decide +kernel) rfl (x_nc_le (by decide)) ?_
        refine x_iload (np := 40) (x := 1) (by decide +kernel) rfl l374 ?_
        refine x_ifz (k := 3) (tg := 50) (np := 43) (by decide +kernel) (by decide) l374 (fun q385 => ?_) (fun q386 => ?_)
        · have q385 : 2147483648 ≤ v373 := q385
          have m387 := c382 (by omega)
          refine x_const (np := 51) (x := 9223372034707292159) (a := 2147483647) (by decide +kernel) (by decide) (by decide) ?_
          refine x_putI (np := 54) (x := 715) (f := 11) (by decide +kernel) (by decide +kernel) (by decide) (Or.inl (by decide)) ?_
          have j389 := jU (e := 11) (v := 2147483647) 0 j378 rg_75_11_0_1 (by omega) (by omega) (by omega)
          have f391 := jF (e := 11) (v := 2147483647) 0 f383 rg_75_11_0_1 (by omega) (by omega) (by decide)
          generalize e390 : x_up h377 75 11 2147483647 = h388 at j389 f391 ⊢
          refine x_aload (np := 55) (x := 0) (by decide +kernel) rfl (x_nc_le (by decide)) ?_
          refine x_iload (np := 56) (x := 1) (by decide +kernel) rfl l374 ?_
          refine x_ifz (k := 3) (tg := 63) (np := 59) (by decide +kernel) (by decide) l374 (fun q392 => ?_) (fun q393 => ?_)
          · have q392 : 2147483648 ≤ v373 := q392
            refine x_const (np := 64) (x := 9223372039002259456) (a := 2147483648) (by decide +kernel) (by decide) (by decide) ?_
            refine x_const (np := 65) (x := 9223372043297226753) (a := 2147483649) (by decide +kernel) (by decide) (by decide) ?_
            refine x_nI (t := 6) (mj := 152) (n := 3) (rc := 12) (ml := 3) (nr := 0) (np := 68) (as := [x_r 75, iv_c 2147483648, iv_c 2147483649]) (rest := []) (lo1 := [x_r 75, iv_c 2147483648, iv_c 2147483649]) (by decide +kernel) (by decide) (by decide +kernel) (x_rb_of (by decide +kernel)) rfl rfl (x_wr (by decide) (x_wi (by decide) (x_wi (by decide) x_wn))) x_wn (by decide) rfl ?_
            refine x_iload (np := 1) (x := 1) (by decide +kernel) rfl (by decide) ?_
            refine x_ifz (k := 0) (tg := 9) (np := 4) (by decide +kernel) (by decide) (by decide) (fun q394 => ?_) (fun q395 => ?_)
            · have q394 : 2147483648 = 2147483648 := q394
              refine x_iload (np := 10) (x := 1) (by decide +kernel) rfl (by decide) ?_
              refine x_retI (np := 11) (x := 0) (by decide +kernel) (by decide) (Or.inr ⟨by decide +kernel, by omega, by omega⟩) ⟨_, rfl, (by decide), ?_⟩
              refine x_ifz (k := 1) (tg := 95) (np := 71) (by decide +kernel) (by decide) (by decide) (fun q396 => ?_) (fun q397 => ?_)
              · have q396 : 2147483648 ≠ 2147483648 := q396
                exfalso; omega
              have q397 : ¬ (2147483648 ≠ 2147483648) := q397
              refine x_aload (np := 72) (x := 0) (by decide +kernel) rfl (x_nc_le (by decide)) ?_
              refine x_aload (np := 73) (x := 0) (by decide +kernel) rfl (x_nc_le (by decide)) ?_
              have q398 : h388 75 1 = 76 := by have z := jB (e := 1) 0 j389 rg_75_1_0_1 (by decide) (by decide); omega
              refine x_getR (np := 76) (x := 705) (f := 1) (q := 76) (by decide +kernel) (by decide) (by decide +kernel) q398 ?_
              refine x_const (np := 77) (x := 9223372043297226753) (a := 2147483649) (by decide +kernel) (by decide) (by decide) ?_
              have q399 : h388 76 1 = h377 76 1 := by rw [← e390]; exact x_up_k (by decide)
              have q400 : h377 76 1 = h363 76 1 := jK 0 f379 rg_76_1_0_1 (by omega) (by omega) (by decide)
              have q401 : h363 76 1 = h1 76 1 := jK 0 f364 rg_76_1_0_1 (by omega) (by omega) (by decide)
              have q402 : h1 76 1 = h 76 1 := by rw [← e3]; exact x_up_k (by decide)
              refine x_aldC (np := 78) (x := 0) (n := 1952) (i := 1) (q := (h 76 1)) (by decide +kernel) (by decide +kernel) (by omega) (by omega) (by decide) (((q399.trans q400).trans q401).trans q402) (fun l403 => ?_)
              refine x_const (np := 80) (x := 9223372081951932426) (a := 2147483658) (by decide +kernel) (by decide) (by decide) ?_
              refine x_icmp (k := 1) (tg := 87) (np := 83) (by decide +kernel) (by decide) l403 (by decide) (fun q404 => ?_) (fun q405 => ?_)
              · have q404 : (h 76 1) ≠ 2147483658 := q404
                refine x_const (np := 88) (x := 9223372039002259456) (a := 2147483648) (by decide +kernel) (by decide) (by decide) ?_
                refine x_const (np := 89) (x := 9223372047592194050) (a := 2147483650) (by decide +kernel) (by decide) (by decide) ?_
                refine x_nI (t := 6) (mj := 152) (n := 3) (rc := 12) (ml := 3) (nr := 0) (np := 92) (as := [x_r 75, iv_c 2147483648, iv_c 2147483650]) (rest := []) (lo1 := [x_r 75, iv_c 2147483648, iv_c 2147483650]) (by decide +kernel) (by decide) (by decide +kernel) (x_rb_of (by decide +kernel)) rfl rfl (x_wr (by decide) (x_wi (by decide) (x_wi (by decide) x_wn))) x_wn (by decide) rfl ?_
                refine x_iload (np := 1) (x := 1) (by decide +kernel) rfl (by decide) ?_
                refine x_ifz (k := 0) (tg := 9) (np := 4) (by decide +kernel) (by decide) (by decide) (fun q406 => ?_) (fun q407 => ?_)
                · have q406 : 2147483648 = 2147483648 := q406
                  refine x_iload (np := 10) (x := 1) (by decide +kernel) rfl (by decide) ?_
                  refine x_retI (np := 11) (x := 0) (by decide +kernel) (by decide) (Or.inr ⟨by decide +kernel, by omega, by omega⟩) ⟨_, rfl, (by decide), ?_⟩
                  refine x_ifz (k := 0) (tg := 97) (np := 95) (by decide +kernel) (by decide) (by decide) (fun q408 => ?_) (fun q409 => ?_)
                  · have q408 : 2147483648 = 2147483648 := q408
                    refine x_const (np := 98) (x := 9223372039002259456) (a := 2147483648) (by decide +kernel) (by decide) (by decide) ?_
                    refine x_istore (np := 99) (x := 2) (lo' := [x_r 75, iv_c v373, iv_c 2147483648]) (by decide +kernel) (by decide) (Nat.le_of_ble_eq_true rfl) rfl ?_
                    have p811 : ∀ (n : Nat) (v806 : Nat) (h808 : xh), 4294967296 - v806 < n → (2147483648 ≤ v806 ∧ v806 ≤ 2147483938) → J h808 → Fr 33554432 h388 h808 → X sc 195 (d + 9) (xI fun r h' => J h' ∧ Fr 326762497 h h' ∧ (0 ≤ r ∧ r ≤ 4294967295) ∧ (h' 75 6 = 2147483648)) 0 0 99 [x_r 75, iv_c v373, iv_c v806] [] h808 := by
                      intro n
                      induction n with
                      | zero => intro v806 h808 q812; exact absurd q812 (Nat.not_lt_zero _)
                      | succ n i813 =>
                        intro v806 h808 q812 b807 j810 f809
                        have f814 := Fr.trans f391 f809 (by decide)
                        refine x_iload (np := 100) (x := 2) (by decide +kernel) rfl (by omega) ?_
                        refine x_const (np := 103) (x := 9223373284542775586) (a := 2147483938) (by decide +kernel) (by decide) (by decide) ?_
                        refine x_icmp (k := 3) (tg := 124) (np := 106) (by decide +kernel) (by decide) (by omega) (by decide) (fun q815 => ?_) (fun q816 => ?_)
                        · have q815 : 2147483938 ≤ v806 := q815
                          refine x_aload (np := 125) (x := 0) (by decide +kernel) rfl (x_nc_le (by decide)) ?_
                          have q817 : h808 75 1 = 76 := by have z := jB (e := 1) 0 j810 rg_75_1_0_1 (by decide) (by decide); omega
                          refine x_getR (np := 128) (x := 705) (f := 1) (q := 76) (by decide +kernel) (by decide) (by decide +kernel) q817 ?_
                          refine x_const (np := 129) (x := 9223372043297226753) (a := 2147483649) (by decide +kernel) (by decide) (by decide) ?_
                          refine x_dup2 (np := 130) (x := 0) (by decide +kernel) (by have z := (iw_c_lt (a := 2147483649) (by decide)).1; omega) (by have z := x_nc_le (k := 76) (by decide); unfold x_r; omega) ?_
                          refine x_aldC (np := 131) (x := 0) (n := 1952) (i := 1) (q := (h808 76 1)) (by decide +kernel) (by decide +kernel) (by omega) (by omega) (by decide) rfl (fun l818 => ?_)
                          refine x_const (np := 132) (x := 9223372043297226753) (a := 2147483649) (by decide +kernel) (by decide) (by decide) ?_
                          refine x_addA (by rw [tb_b195]; decide +kernel) l818 (by decide) (fun v819 l820 => ?_)
                          refine x_ast (np := 134) (x := 0) (kd := 1) (n := 1952) (i := 1) (by decide +kernel) (Or.inl rfl) (by decide +kernel) (by omega) (by omega) (by decide) l820 (fun z => absurd z (by decide)) ?_
                          have j822 := jU (e := 1) (v := v819) 0 j810 rg_76_1_0_1 (by omega) (by omega) (by omega)
                          have f824 := jF (e := 1) (v := v819) 0 f814 rg_76_1_0_1 (by omega) (by omega) (by decide)
                          generalize e823 : x_up h808 76 1 v819 = h821 at j822 f824 ⊢
                          refine x_aload (np := 135) (x := 0) (by decide +kernel) rfl (x_nc_le (by decide)) ?_
                          have q825 : h821 75 1 = 76 := by have z := jB (e := 1) 0 j822 rg_75_1_0_1 (by decide) (by decide); omega
                          refine x_getR (np := 138) (x := 705) (f := 1) (q := 76) (by decide +kernel) (by decide) (by decide +kernel) q825 ?_
                          refine x_const (np := 139) (x := 9223372043297226753) (a := 2147483649) (by decide +kernel) (by decide) (by decide) ?_
                          have q826 : h821 76 1 = v819 := by rw [← e823]; exact x_up_at
                          refine x_aldC (np := 140) (x := 0) (n := 1952) (i := 1) (q := v819) (by decide +kernel) (by decide +kernel) (by omega) (by omega) (by decide) q826 (fun l827 => ?_)
                          have q828 : h821 75 6 = h808 75 6 := by rw [← e823]; exact x_up_k (by decide)
                          have q829 : h808 75 6 = h388 75 6 := jK 0 f809 rg_75_6_0_1 (by omega) (by omega) (by decide)
                          have q830 : h388 75 6 = h377 75 6 := by rw [← e390]; exact x_up_i (by omega)
                          refine x_retI (np := 141) (x := 0) (by decide +kernel) l820 (Or.inl (by decide +kernel)) ⟨_, rfl, l820, ?_⟩
                          exact ⟨j822, f824, (by omega), (by omega)⟩
                        have q816 : ¬ (2147483938 ≤ v806) := q816
                        refine x_aload (np := 107) (x := 0) (by decide +kernel) rfl (x_nc_le (by decide)) ?_
                        have q831 : h808 75 1 = 76 := by have z := jB (e := 1) 0 j810 rg_75_1_0_1 (by decide) (by decide); omega
                        refine x_getR (np := 110) (x := 705) (f := 1) (q := 76) (by decide +kernel) (by decide) (by decide +kernel) q831 ?_
                        refine x_iload (np := 111) (x := 2) (by decide +kernel) rfl (by omega) ?_
                        refine x_aload (np := 112) (x := 0) (by decide +kernel) rfl (x_nc_le (by decide)) ?_
                        have q832 : h808 75 3 = 78 := by have z := jB (e := 3) 0 j810 rg_75_3_0_1 (by decide) (by decide); omega
                        refine x_getR (np := 115) (x := 707) (f := 3) (q := 78) (by decide +kernel) (by decide) (by decide +kernel) q832 ?_
                        refine x_iload (np := 116) (x := 2) (by decide +kernel) rfl (by omega) ?_
                        obtain ⟨u833, q834⟩ : ∃ z, v806 = 2147483648 + z := ⟨v806 - 2147483648, by omega⟩
                        refine x_aldC (np := 117) (x := 0) (n := 290) (i := u833) (q := (h808 78 u833)) (by decide +kernel) (by decide +kernel) (by omega) (by omega) (by decide) rfl (fun l835 => ?_)
                        refine x_ast (np := 118) (x := 0) (kd := 1) (n := 1952) (i := u833) (by decide +kernel) (Or.inl rfl) (by decide +kernel) (by omega) (by omega) (by decide) l835 (fun z => absurd z (by decide)) ?_
                        have m840 : Cl h388 := by rw [← e390]; exact Cl.oth m387 (by decide)
                        have m839 := Cl.fr m840 f809 (by decide)
                        have j837 := clJ (e := u833) (v := (h808 78 u833)) j810 m839 (by omega) rfl
                        have f841 := clF (e := u833) (v := (h808 78 u833)) f814 (by omega) (by decide)
                        have f842 := clF (e := u833) (v := (h808 78 u833)) f809 (by omega) (by decide)
                        generalize e838 : x_up h808 76 u833 (h808 78 u833) = h836 at j837 f841 f842 ⊢
                        refine x_iinc (np := 121) (i := 2) (j := 2147483649) (v := (1 + v806)) (lo' := [x_r 75, iv_c v373, iv_c (1 + v806)]) (by decide +kernel) (by decide) (by decide) rfl (by omega) (by omega) (by omega) rfl ?_
                        refine x_goto (np := 124) (x := 99) (by decide +kernel) ?_
                        exact i813 (1 + v806) h836 (by omega) (by omega) j837 f842
                    exact p811 _ 2147483648 h388 (Nat.lt_succ_self _) (by omega) j389 (Fr.refl _ _)
                  have q409 : ¬ (2147483648 = 2147483648) := q409
                  exfalso; omega
                have q407 : ¬ (2147483648 = 2147483648) := q407
                exfalso; omega
              have q405 : ¬ ((h 76 1) ≠ 2147483658) := q405
              refine x_const (np := 84) (x := 9223372043297226753) (a := 2147483649) (by decide +kernel) (by decide) (by decide) ?_
              refine x_goto (np := 87) (x := 88) (by decide +kernel) ?_
              refine x_const (np := 89) (x := 9223372047592194050) (a := 2147483650) (by decide +kernel) (by decide) (by decide) ?_
              refine x_nI (t := 6) (mj := 152) (n := 3) (rc := 12) (ml := 3) (nr := 0) (np := 92) (as := [x_r 75, iv_c 2147483649, iv_c 2147483650]) (rest := []) (lo1 := [x_r 75, iv_c 2147483649, iv_c 2147483650]) (by decide +kernel) (by decide) (by decide +kernel) (x_rb_of (by decide +kernel)) rfl rfl (x_wr (by decide) (x_wi (by decide) (x_wi (by decide) x_wn))) x_wn (by decide) rfl ?_
              refine x_iload (np := 1) (x := 1) (by decide +kernel) rfl (by decide) ?_
              refine x_ifz (k := 0) (tg := 9) (np := 4) (by decide +kernel) (by decide) (by decide) (fun q843 => ?_) (fun q844 => ?_)
              · have q843 : 2147483649 = 2147483648 := q843
                exfalso; omega
              have q844 : ¬ (2147483649 = 2147483648) := q844
              refine x_aload (np := 5) (x := 0) (by decide +kernel) rfl (x_nc_le (by decide)) ?_
              refine x_iload (np := 6) (x := 2) (by decide +kernel) rfl (by decide) ?_
              refine x_putI (np := 9) (x := 704) (f := 0) (by decide +kernel) (by decide +kernel) (by decide) (Or.inl (by decide)) ?_
              have j846 := jU (e := 0) (v := 2147483650) 0 j389 rg_75_0_0_1 (by omega) (by omega) (by omega)
              have f848 := jF (e := 0) (v := 2147483650) 0 f391 rg_75_0_0_1 (by omega) (by omega) (by decide)
              generalize e847 : x_up h388 75 0 2147483650 = h845 at j846 f848 ⊢
              refine x_iload (np := 10) (x := 1) (by decide +kernel) rfl (by decide) ?_
              refine x_retI (np := 11) (x := 0) (by decide +kernel) (by decide) (Or.inr ⟨by decide +kernel, by omega, by omega⟩) ⟨_, rfl, (by decide), ?_⟩
              refine x_ifz (k := 0) (tg := 97) (np := 95) (by decide +kernel) (by decide) (by decide) (fun q849 => ?_) (fun q850 => ?_)
              · have q849 : 2147483649 = 2147483648 := q849
                exfalso; omega
              have q850 : ¬ (2147483649 = 2147483648) := q850
              refine x_const (np := 96) (x := 9223372039002259456) (a := 2147483648) (by decide +kernel) (by decide) (by decide) ?_
              have q851 : h845 75 6 = h388 75 6 := by rw [← e847]; exact x_up_i (by omega)
              have q852 : h388 75 6 = h377 75 6 := by rw [← e390]; exact x_up_i (by omega)
              refine x_retI (np := 97) (x := 0) (by decide +kernel) (by decide) (Or.inl (by decide +kernel)) ⟨_, rfl, (by decide), ?_⟩
              exact ⟨j846, f848, (by omega), (by omega)⟩
            have q395 : ¬ (2147483648 = 2147483648) := q395
            exfalso; omega
          have q393 : ¬ (2147483648 ≤ v373) := q393
          exfalso; omega
        have q386 : ¬ (2147483648 ≤ v373) := q386
        refine x_aload (np := 44) (x := 0) (by decide +kernel) rfl (x_nc_le (by decide)) ?_
        have b853 := jB (e := 9) 0 j378 rg_75_9_0_1 (by omega) (by omega)
        refine x_getC (np := 47) (x := 713) (f := 9) (q := (h377 75 9)) (by decide +kernel) (by decide) (by decide +kernel) rfl (fun l854 => ?_)
        refine x_goto (np := 50) (x := 51) (by decide +kernel) ?_
        refine x_putI (np := 54) (x := 715) (f := 11) (by decide +kernel) (by decide +kernel) l854 (Or.inl (by decide)) ?_
        have j856 := jU (e := 11) (v := (h377 75 9)) 0 j378 rg_75_11_0_1 (by omega) (by omega) (by omega)
        have f858 := jF (e := 11) (v := (h377 75 9)) 0 f383 rg_75_11_0_1 (by omega) (by omega) (by decide)
        generalize e857 : x_up h377 75 11 (h377 75 9) = h855 at j856 f858 ⊢
        refine x_aload (np := 55) (x := 0) (by decide +kernel) rfl (x_nc_le (by decide)) ?_
        refine x_iload (np := 56) (x := 1) (by decide +kernel) rfl l374 ?_
        refine x_ifz (k := 3) (tg := 63) (np := 59) (by decide +kernel) (by decide) l374 (fun q859 => ?_) (fun q860 => ?_)
        · have q859 : 2147483648 ≤ v373 := q859
          exfalso; omega
        have q860 : ¬ (2147483648 ≤ v373) := q860
        refine x_const (np := 60) (x := 9223372043297226753) (a := 2147483649) (by decide +kernel) (by decide) (by decide) ?_
        refine x_goto (np := 63) (x := 64) (by decide +kernel) ?_
        refine x_const (np := 65) (x := 9223372043297226753) (a := 2147483649) (by decide +kernel) (by decide) (by decide) ?_
        refine x_nI (t := 6) (mj := 152) (n := 3) (rc := 12) (ml := 3) (nr := 0) (np := 68) (as := [x_r 75, iv_c 2147483649, iv_c 2147483649]) (rest := []) (lo1 := [x_r 75, iv_c 2147483649, iv_c 2147483649]) (by decide +kernel) (by decide) (by decide +kernel) (x_rb_of (by decide +kernel)) rfl rfl (x_wr (by decide) (x_wi (by decide) (x_wi (by decide) x_wn))) x_wn (by decide) rfl ?_
        refine x_iload (np := 1) (x := 1) (by decide +kernel) rfl (by decide) ?_
        refine x_ifz (k := 0) (tg := 9) (np := 4) (by decide +kernel) (by decide) (by decide) (fun q861 => ?_) (fun q862 => ?_)
        · have q861 : 2147483649 = 2147483648 := q861
          exfalso; omega
        have q862 : ¬ (2147483649 = 2147483648) := q862
        refine x_aload (np := 5) (x := 0) (by decide +kernel) rfl (x_nc_le (by decide)) ?_
        refine x_iload (np := 6) (x := 2) (by decide +kernel) rfl (by decide) ?_
        refine x_putI (np := 9) (x := 704) (f := 0) (by decide +kernel) (by decide +kernel) (by decide) (Or.inl (by decide)) ?_
        have j864 := jU (e := 0) (v := 2147483649) 0 j856 rg_75_0_0_1 (by omega) (by omega) (by omega)
        have f866 := jF (e := 0) (v := 2147483649) 0 f858 rg_75_0_0_1 (by omega) (by omega) (by decide)
        generalize e865 : x_up h855 75 0 2147483649 = h863 at j864 f866 ⊢
        refine x_iload (np := 10) (x := 1) (by decide +kernel) rfl (by decide) ?_
        refine x_retI (np := 11) (x := 0) (by decide +kernel) (by decide) (Or.inr ⟨by decide +kernel, by omega, by omega⟩) ⟨_, rfl, (by decide), ?_⟩
        refine x_ifz (k := 1) (tg := 95) (np := 71) (by decide +kernel) (by decide) (by decide) (fun q867 => ?_) (fun q868 => ?_)
        · have q867 : 2147483649 ≠ 2147483648 := q867
          refine x_const (np := 96) (x := 9223372039002259456) (a := 2147483648) (by decide +kernel) (by decide) (by decide) ?_
          have q869 : h863 75 6 = h855 75 6 := by rw [← e865]; exact x_up_i (by omega)
          have q870 : h855 75 6 = h377 75 6 := by rw [← e857]; exact x_up_i (by omega)
          refine x_retI (np := 97) (x := 0) (by decide +kernel) (by decide) (Or.inl (by decide +kernel)) ⟨_, rfl, (by decide), ?_⟩
          exact ⟨j864, f866, (by omega), (by omega)⟩
        have q868 : ¬ (2147483649 ≠ 2147483648) := q868
        exfalso; omega
      have q372 : ¬ (2147483938 ≤ v361) := q372
      refine x_aload (np := 15) (x := 0) (by decide +kernel) rfl (x_nc_le (by decide)) ?_
      have q871 : h363 75 3 = 78 := by have z := jB (e := 3) 0 j365 rg_75_3_0_1 (by decide) (by decide); omega
      refine x_getR (np := 18) (x := 707) (f := 3) (q := 78) (by decide +kernel) (by decide) (by decide +kernel) q871 ?_
      refine x_iload (np := 19) (x := 1) (by decide +kernel) rfl (by omega) ?_
      refine x_aload (np := 20) (x := 0) (by decide +kernel) rfl (x_nc_le (by decide)) ?_
      have q872 : h363 75 1 = 76 := by have z := jB (e := 1) 0 j365 rg_75_1_0_1 (by decide) (by decide); omega
      refine x_getR (np := 23) (x := 705) (f := 1) (q := 76) (by decide +kernel) (by decide) (by decide +kernel) q872 ?_
      refine x_iload (np := 24) (x := 1) (by decide +kernel) rfl (by omega) ?_
      obtain ⟨u873, q874⟩ : ∃ z, v361 = 2147483648 + z := ⟨v361 - 2147483648, by omega⟩
      refine x_aldC (np := 25) (x := 0) (n := 1952) (i := u873) (q := (h363 76 u873)) (by decide +kernel) (by decide +kernel) (by omega) (by omega) (by decide) rfl (fun l875 => ?_)
      refine x_ast (np := 26) (x := 0) (kd := 1) (n := 290) (i := u873) (by decide +kernel) (Or.inl rfl) (by decide +kernel) (by omega) (by omega) (by decide) l875 (fun z => absurd z (by decide)) ?_
      have j877 := cwJ (e := u873) (v := (h363 76 u873)) u873 j365 j365 cw_78_0_76_0_290 (by omega) (by omega) (by first | rfl | (congr 1; omega))
      have f879 := cwF (e := u873) (v := (h363 76 u873)) u873 f370 cw_78_0_76_0_290 (by omega) (by omega) (by decide)
      have f880 := cwF (e := u873) (v := (h363 76 u873)) u873 f364 cw_78_0_76_0_290 (by omega) (by omega) (by decide)
      generalize e878 : x_up h363 78 u873 (h363 76 u873) = h876 at j877 f879 f880 ⊢
      refine x_iinc (np := 29) (i := 1) (j := 2147483649) (v := (1 + v361)) (lo' := [x_r 75, iv_c (1 + v361), 147573952589676412928]) (by decide +kernel) (by decide) (by decide) rfl (by omega) (by omega) (by omega) rfl ?_
      refine x_goto (np := 32) (x := 7) (by decide +kernel) ?_
      have m881 : Clp ((1 + v361) - 2147483648) h876 := by
        have e0 : v361 - 2147483648 = u873 := by omega
        have e9 : (1 + v361) = 2147483648 + (u873 + 1) := by omega
        have e1 : (1 + v361) - 2147483648 = u873 + 1 := by rw [e9]; exact Nat.add_sub_cancel_left _ _
        have p9 := m367
        rw [e0] at p9
        rw [e1, ← e878]
        exact Clp.step p9 j365 (by omega)
      exact i369 (1 + v361) h876 (by omega) (by omega) j877 f880 m881
  exact p366 _ 2147483648 h1 (Nat.lt_succ_self _) (by omega) j2 (Fr.refl _ _) Clp.zero
set_option maxHeartbeats 0 in
/-- LentNamesModel.feed(IIIII)I -/
theorem c165_75 {sc : Nat × Nat} {d a1 a2 a3 a4 a5 : Nat} {h : xh} (hJ : J h) (ba1 : 0 ≤ a1 ∧ a1 ≤ 4294967295) (ba2 : 0 ≤ a2 ∧ a2 ≤ 4294967295) (ba3 : 0 ≤ a3 ∧ a3 ≤ 4294967295) (ba4 : 0 ≤ a4 ∧ a4 ≤ 4294967295) (ba5 : 0 ≤ a5 ∧ a5 ≤ 4294967295) : X sc 165 d (xI fun r h' => J h' ∧ Fr 1611268096 h h' ∧ (2147483647 ≤ r ∧ r ≤ 2147484048) ∧ (h 75 6 + 20 ≤ 2147484048 → h' 75 6 = h 75 6 + 20 ∧ r = h 75 6 + 20) ∧ (2147484048 < h 75 6 + 20 → h' 75 6 = h 75 6 ∧ r = 2147483647)) 0 0 0 [x_r 75, iv_c a1, iv_c a2, iv_c a3, iv_c a4, iv_c a5, 147573952589676412928] [] h := by
  have la1 : a1 < 4294967296 := by omega
  have la2 : a2 < 4294967296 := by omega
  have la3 : a3 < 4294967296 := by omega
  have la4 : a4 < 4294967296 := by omega
  have la5 : a5 < 4294967296 := by omega
  have hF := Fr.refl 1611268096 h
  refine x_aload (np := 1) (x := 0) (by decide +kernel) rfl (x_nc_le (by decide)) ?_
  refine x_const (np := 2) (x := 9223372039002259456) (a := 2147483648) (by decide +kernel) (by decide) (by decide) ?_
  refine x_putI (np := 5) (x := 704) (f := 0) (by decide +kernel) (by decide +kernel) (by decide) (Or.inl (by decide)) ?_
  have j2 := jU (e := 0) (v := 2147483648) 0 hJ rg_75_0_0_1 (by omega) (by omega) (by omega)
  have f4 := jF (e := 0) (v := 2147483648) 0 hF rg_75_0_0_1 (by omega) (by omega) (by decide)
  generalize e3 : x_up h 75 0 2147483648 = h1 at j2 f4 ⊢
  refine x_aload (np := 6) (x := 0) (by decide +kernel) rfl (x_nc_le (by decide)) ?_
  have q5 : h1 75 6 = h 75 6 := by rw [← e3]; exact x_up_i (by omega)
  have b6 := jB (e := 6) 0 hJ rg_75_6_0_1 (by omega) (by omega)
  refine x_getC (np := 9) (x := 710) (f := 6) (q := (h 75 6)) (by decide +kernel) (by decide) (by decide +kernel) q5 (fun l7 => ?_)
  refine x_const (np := 11) (x := 9223372124901605396) (a := 2147483668) (by decide +kernel) (by decide) (by decide) ?_
  refine x_iadd (np := 12) (x := 0) (v := (20 + (h 75 6))) (by decide +kernel) l7 (by decide) (by omega) (by omega) ?_
  refine x_const (np := 15) (x := 9223373756989178256) (a := 2147484048) (by decide +kernel) (by decide) (by decide) ?_
  refine x_icmp (k := 5) (tg := 20) (np := 18) (by decide +kernel) (by decide) (by omega) (by decide) (fun q8 => ?_) (fun q9 => ?_)
  · have q8 : (20 + (h 75 6)) ≤ 2147484048 := q8
    refine x_aload (np := 21) (x := 0) (by decide +kernel) rfl (x_nc_le (by decide)) ?_
    have q10 : h1 75 12 = 80 := by have z := jB (e := 12) 0 j2 rg_75_12_0_1 (by decide) (by decide); omega
    refine x_getR (np := 24) (x := 716) (f := 12) (q := 80) (by decide +kernel) (by decide) (by decide +kernel) q10 ?_
    refine x_const (np := 25) (x := 9223372039002259456) (a := 2147483648) (by decide +kernel) (by decide) (by decide) ?_
    refine x_iload (np := 26) (x := 1) (by decide +kernel) rfl la1 ?_
    refine x_ast (np := 27) (x := 0) (kd := 1) (n := 5) (i := 0) (by decide +kernel) (Or.inl rfl) (by decide +kernel) (by omega) (by omega) (by decide) la1 (fun z => absurd z (by decide)) ?_
    have j12 := jU (e := 0) (v := a1) 0 j2 rg_80_0_1_5 (by omega) (by omega) (by omega)
    have f14 := jF (e := 0) (v := a1) 0 f4 rg_80_0_1_5 (by omega) (by omega) (by decide)
    generalize e13 : x_up h1 80 0 a1 = h11 at j12 f14 ⊢
    refine x_aload (np := 28) (x := 0) (by decide +kernel) rfl (x_nc_le (by decide)) ?_
    have q15 : h11 75 12 = 80 := by have z := jB (e := 12) 0 j12 rg_75_12_0_1 (by decide) (by decide); omega
    refine x_getR (np := 31) (x := 716) (f := 12) (q := 80) (by decide +kernel) (by decide) (by decide +kernel) q15 ?_
    refine x_const (np := 32) (x := 9223372043297226753) (a := 2147483649) (by decide +kernel) (by decide) (by decide) ?_
    refine x_iload (np := 33) (x := 2) (by decide +kernel) rfl la2 ?_
    refine x_ast (np := 34) (x := 0) (kd := 1) (n := 5) (i := 1) (by decide +kernel) (Or.inl rfl) (by decide +kernel) (by omega) (by omega) (by decide) la2 (fun z => absurd z (by decide)) ?_
    have j17 := jU (e := 1) (v := a2) 1 j12 rg_80_0_1_5 (by omega) (by omega) (by omega)
    have f19 := jF (e := 1) (v := a2) 1 f14 rg_80_0_1_5 (by omega) (by omega) (by decide)
    generalize e18 : x_up h11 80 1 a2 = h16 at j17 f19 ⊢
    refine x_aload (np := 35) (x := 0) (by decide +kernel) rfl (x_nc_le (by decide)) ?_
    have q20 : h16 75 12 = 80 := by have z := jB (e := 12) 0 j17 rg_75_12_0_1 (by decide) (by decide); omega
    refine x_getR (np := 38) (x := 716) (f := 12) (q := 80) (by decide +kernel) (by decide) (by decide +kernel) q20 ?_
    refine x_const (np := 39) (x := 9223372047592194050) (a := 2147483650) (by decide +kernel) (by decide) (by decide) ?_
    refine x_iload (np := 40) (x := 3) (by decide +kernel) rfl la3 ?_
    refine x_ast (np := 41) (x := 0) (kd := 1) (n := 5) (i := 2) (by decide +kernel) (Or.inl rfl) (by decide +kernel) (by omega) (by omega) (by decide) la3 (fun z => absurd z (by decide)) ?_
    have j22 := jU (e := 2) (v := a3) 2 j17 rg_80_0_1_5 (by omega) (by omega) (by omega)
    have f24 := jF (e := 2) (v := a3) 2 f19 rg_80_0_1_5 (by omega) (by omega) (by decide)
    generalize e23 : x_up h16 80 2 a3 = h21 at j22 f24 ⊢
    refine x_aload (np := 42) (x := 0) (by decide +kernel) rfl (x_nc_le (by decide)) ?_
    have q25 : h21 75 12 = 80 := by have z := jB (e := 12) 0 j22 rg_75_12_0_1 (by decide) (by decide); omega
    refine x_getR (np := 45) (x := 716) (f := 12) (q := 80) (by decide +kernel) (by decide) (by decide +kernel) q25 ?_
    refine x_const (np := 46) (x := 9223372051887161347) (a := 2147483651) (by decide +kernel) (by decide) (by decide) ?_
    refine x_iload (np := 48) (x := 4) (by decide +kernel) rfl la4 ?_
    refine x_ast (np := 49) (x := 0) (kd := 1) (n := 5) (i := 3) (by decide +kernel) (Or.inl rfl) (by decide +kernel) (by omega) (by omega) (by decide) la4 (fun z => absurd z (by decide)) ?_
    have j27 := jU (e := 3) (v := a4) 3 j22 rg_80_0_1_5 (by omega) (by omega) (by omega)
    have f29 := jF (e := 3) (v := a4) 3 f24 rg_80_0_1_5 (by omega) (by omega) (by decide)
    generalize e28 : x_up h21 80 3 a4 = h26 at j27 f29 ⊢
    refine x_aload (np := 50) (x := 0) (by decide +kernel) rfl (x_nc_le (by decide)) ?_
    have q30 : h26 75 12 = 80 := by have z := jB (e := 12) 0 j27 rg_75_12_0_1 (by decide) (by decide); omega
    refine x_getR (np := 53) (x := 716) (f := 12) (q := 80) (by decide +kernel) (by decide) (by decide +kernel) q30 ?_
    refine x_const (np := 54) (x := 9223372056182128644) (a := 2147483652) (by decide +kernel) (by decide) (by decide) ?_
    refine x_iload (np := 56) (x := 5) (by decide +kernel) rfl la5 ?_
    refine x_ast (np := 57) (x := 0) (kd := 1) (n := 5) (i := 4) (by decide +kernel) (Or.inl rfl) (by decide +kernel) (by omega) (by omega) (by decide) la5 (fun z => absurd z (by decide)) ?_
    have j32 := jU (e := 4) (v := a5) 4 j27 rg_80_0_1_5 (by omega) (by omega) (by omega)
    have f34 := jF (e := 4) (v := a5) 4 f29 rg_80_0_1_5 (by omega) (by omega) (by decide)
    generalize e33 : x_up h26 80 4 a5 = h31 at j32 f34 ⊢
    refine x_const (np := 58) (x := 9223372039002259456) (a := 2147483648) (by decide +kernel) (by decide) (by decide) ?_
    refine x_istore (np := 60) (x := 6) (lo' := [x_r 75, iv_c a1, iv_c a2, iv_c a3, iv_c a4, iv_c a5, iv_c 2147483648]) (by decide +kernel) (by decide) (Nat.le_of_ble_eq_true rfl) rfl ?_
    have p698 : ∀ (n : Nat) (v693 : Nat) (h695 : xh), 4294967296 - v693 < n → (2147483648 ≤ v693 ∧ v693 ≤ 2147483668) → J h695 → Fr 536870912 h31 h695 → X sc 165 d (xI fun r h' => J h' ∧ Fr 1611268096 h h' ∧ (2147483647 ≤ r ∧ r ≤ 2147484048) ∧ (h 75 6 + 20 ≤ 2147484048 → h' 75 6 = h 75 6 + 20 ∧ r = h 75 6 + 20) ∧ (2147484048 < h 75 6 + 20 → h' 75 6 = h 75 6 ∧ r = 2147483647)) 0 0 60 [x_r 75, iv_c a1, iv_c a2, iv_c a3, iv_c a4, iv_c a5, iv_c v693] [] h695 := by
      intro n
      induction n with
      | zero => intro v693 h695 q699; exact absurd q699 (Nat.not_lt_zero _)
      | succ n i700 =>
        intro v693 h695 q699 b694 j697 f696
        have f701 := Fr.trans f34 f696 (by decide)
        refine x_iload (np := 62) (x := 6) (by decide +kernel) rfl (by omega) ?_
        refine x_const (np := 64) (x := 9223372124901605396) (a := 2147483668) (by decide +kernel) (by decide) (by decide) ?_
        refine x_icmp (k := 3) (tg := 106) (np := 67) (by decide +kernel) (by decide) (by omega) (by decide) (fun q702 => ?_) (fun q703 => ?_)
        · have q702 : 2147483668 ≤ v693 := q702
          refine x_aload (np := 107) (x := 0) (by decide +kernel) rfl (x_nc_le (by decide)) ?_
          refine x_dup (np := 108) (x := 0) (by decide +kernel) (by have z := x_nc_le (k := 75) (by decide); unfold x_r; omega) ?_
          have q704 : h695 75 6 = h31 75 6 := jK 0 f696 rg_75_6_0_1 (by omega) (by omega) (by decide)
          have q705 : h31 75 6 = h26 75 6 := by rw [← e33]; exact x_up_k (by decide)
          have q706 : h26 75 6 = h21 75 6 := by rw [← e28]; exact x_up_k (by decide)
          have q707 : h21 75 6 = h16 75 6 := by rw [← e23]; exact x_up_k (by decide)
          have q708 : h16 75 6 = h11 75 6 := by rw [← e18]; exact x_up_k (by decide)
          have q709 : h11 75 6 = h1 75 6 := by rw [← e13]; exact x_up_k (by decide)
          have q710 : h1 75 6 = h 75 6 := by rw [← e3]; exact x_up_i (by omega)
          refine x_getC (np := 111) (x := 710) (f := 6) (q := (h 75 6)) (by decide +kernel) (by decide) (by decide +kernel) ((((((q704.trans q705).trans q706).trans q707).trans q708).trans q709).trans q710) (fun l711 => ?_)
          refine x_const (np := 113) (x := 9223372124901605396) (a := 2147483668) (by decide +kernel) (by decide) (by decide) ?_
          refine x_iadd (np := 114) (x := 0) (v := (20 + (h 75 6))) (by decide +kernel) l7 (by decide) (by omega) (by omega) ?_
          refine x_putI (np := 117) (x := 710) (f := 6) (by decide +kernel) (by decide +kernel) (by omega) (Or.inl (by decide)) ?_
          have j713 := jU (e := 6) (v := (20 + (h 75 6))) 0 j697 rg_75_6_0_1 (by omega) (by omega) (by omega)
          have f715 := jF (e := 6) (v := (20 + (h 75 6))) 0 f701 rg_75_6_0_1 (by omega) (by omega) (by decide)
          generalize e714 : x_up h695 75 6 (20 + (h 75 6)) = h712 at j713 f715 ⊢
          refine x_aload (np := 118) (x := 0) (by decide +kernel) rfl (x_nc_le (by decide)) ?_
          have q716 : h712 75 6 = (20 + (h 75 6)) := by rw [← e714]; exact x_up_at
          refine x_getC (np := 121) (x := 710) (f := 6) (q := (20 + (h 75 6))) (by decide +kernel) (by decide) (by decide +kernel) q716 (fun l717 => ?_)
          have q718 : h712 75 6 = (20 + (h 75 6)) := by rw [← e714]; exact x_up_at
          have q719 : h712 75 6 = (20 + (h 75 6)) := by rw [← e714]; exact x_up_at
          refine x_retI (np := 122) (x := 0) (by decide +kernel) (by omega) (Or.inl (by decide +kernel)) ⟨_, rfl, (by omega), ?_⟩
          exact ⟨j713, f715, (by omega), (fun z => by omega), (fun z => by omega)⟩
        have q703 : ¬ (2147483668 ≤ v693) := q703
        refine x_aload (np := 68) (x := 0) (by decide +kernel) rfl (x_nc_le (by decide)) ?_
        have q720 : h695 75 5 = 79 := by have z := jB (e := 5) 0 j697 rg_75_5_0_1 (by decide) (by decide); omega
        refine x_getR (np := 71) (x := 709) (f := 5) (q := 79) (by decide +kernel) (by decide) (by decide +kernel) q720 ?_
        refine x_aload (np := 72) (x := 0) (by decide +kernel) rfl (x_nc_le (by decide)) ?_
        have q721 : h695 75 6 = h31 75 6 := jK 0 f696 rg_75_6_0_1 (by omega) (by omega) (by decide)
        have q722 : h31 75 6 = h26 75 6 := by rw [← e33]; exact x_up_k (by decide)
        have q723 : h26 75 6 = h21 75 6 := by rw [← e28]; exact x_up_k (by decide)
        have q724 : h21 75 6 = h16 75 6 := by rw [← e23]; exact x_up_k (by decide)
        have q725 : h16 75 6 = h11 75 6 := by rw [← e18]; exact x_up_k (by decide)
        have q726 : h11 75 6 = h1 75 6 := by rw [← e13]; exact x_up_k (by decide)
        have q727 : h1 75 6 = h 75 6 := by rw [← e3]; exact x_up_i (by omega)
        refine x_getC (np := 75) (x := 710) (f := 6) (q := (h 75 6)) (by decide +kernel) (by decide) (by decide +kernel) ((((((q721.trans q722).trans q723).trans q724).trans q725).trans q726).trans q727) (fun l728 => ?_)
        refine x_iload (np := 77) (x := 6) (by decide +kernel) rfl (by omega) ?_
        obtain ⟨v729, q730⟩ : ∃ z, z + 2147483648 = (h 75 6) + v693 := ⟨(h 75 6) + v693 - 2147483648, by omega⟩
        refine x_iadd (np := 78) (x := 0) (v := v729) (by decide +kernel) l7 (by omega) (by omega) (by omega) ?_
        refine x_aload (np := 79) (x := 0) (by decide +kernel) rfl (x_nc_le (by decide)) ?_
        have q731 : h695 75 12 = 80 := by have z := jB (e := 12) 0 j697 rg_75_12_0_1 (by decide) (by decide); omega
        refine x_getR (np := 82) (x := 716) (f := 12) (q := 80) (by decide +kernel) (by decide) (by decide +kernel) q731 ?_
        refine x_iload (np := 84) (x := 6) (by decide +kernel) rfl (by omega) ?_
        refine x_const (np := 85) (x := 9223372056182128644) (a := 2147483652) (by decide +kernel) (by decide) (by decide) ?_
        obtain ⟨u732, q733⟩ : ∃ z, v693 = 2147483648 + z := ⟨v693 - 2147483648, by omega⟩
        obtain ⟨u734, q735⟩ : ∃ z, z = u732 / 4 := ⟨_, rfl⟩
        refine x_div (np := 86) (i := u732) (j := 4) (by decide +kernel) (by omega) (by decide) (by omega) (by decide) ?_
        rw [← q735]
        have q736 : h695 80 u734 = h31 80 u734 := jK u734 f696 rg_80_0_1_5 (by omega) (by omega) (by decide)
        refine x_aldC (np := 87) (x := 0) (n := 5) (i := u734) (q := (h31 80 u734)) (by decide +kernel) (by decide +kernel) (by omega) (by omega) (by decide) q736 (fun l737 => ?_)
        refine x_const (np := 89) (x := 9223372142081474584) (a := 2147483672) (by decide +kernel) (by decide) (by decide) ?_
        refine x_const (np := 91) (x := 9223372073361997832) (a := 2147483656) (by decide +kernel) (by decide) (by decide) ?_
        refine x_iload (np := 93) (x := 6) (by decide +kernel) rfl (by omega) ?_
        refine x_const (np := 94) (x := 9223372056182128644) (a := 2147483652) (by decide +kernel) (by decide) (by decide) ?_
        obtain ⟨u738, q739⟩ : ∃ z, z = u732 % 4 := ⟨_, rfl⟩
        refine x_rem (np := 95) (i := u732) (j := 4) (by decide +kernel) (by omega) (by decide) (by omega) (by decide) ?_
        rw [← q739]
        refine x_imul (np := 96) (x := 0) (i := 8) (j := u738) (v := (2147483648 + 8 * u738)) (by decide +kernel) (by omega) (by omega) (by omega) (by omega) (by decide) (by omega) ?_
        obtain ⟨v741, q742⟩ : ∃ z, z + (2147483648 + 8 * u738) = 2147483672 + 2147483648 := ⟨2147483672 + 2147483648 - (2147483648 + 8 * u738), by omega⟩
        refine x_isub (np := 97) (x := 0) (v := v741) (by decide +kernel) (by decide) (by omega) (by omega) (by omega) ?_
        refine x_any (np := 98) (k9 := 4) (by decide +kernel) (by decide) l737 (by omega) (fun v743 l744 => ?_)
        refine x_i2b (by rw [tb_b165]; decide +kernel) l744 (fun v745 l746 l747 => ?_)
        obtain ⟨u748, q749⟩ : ∃ z, v729 = 2147483648 + z := ⟨v729 - 2147483648, by omega⟩
        refine x_ast (np := 100) (x := 0) (kd := 2) (n := 400) (i := u748) (by decide +kernel) (Or.inr rfl) (by decide +kernel) (by omega) (by omega) (by decide) (by omega) (fun _ => by omega) ?_
        have j751 := jU (e := u748) (v := v745) u748 j697 rg_79_0_1_400 (by omega) (by omega) (by omega)
        have f753 := jF (e := u748) (v := v745) u748 f701 rg_79_0_1_400 (by omega) (by omega) (by decide)
        have f754 := jF (e := u748) (v := v745) u748 f696 rg_79_0_1_400 (by omega) (by omega) (by decide)
        generalize e752 : x_up h695 79 u748 v745 = h750 at j751 f753 f754 ⊢
        refine x_iinc (np := 103) (i := 6) (j := 2147483649) (v := (1 + v693)) (lo' := [x_r 75, iv_c a1, iv_c a2, iv_c a3, iv_c a4, iv_c a5, iv_c (1 + v693)]) (by decide +kernel) (by decide) (by decide) rfl (by omega) (by omega) (by omega) rfl ?_
        refine x_goto (np := 106) (x := 60) (by decide +kernel) ?_
        exact i700 (1 + v693) h750 (by omega) (by omega) j751 f754
    exact p698 _ 2147483648 h31 (Nat.lt_succ_self _) (by omega) j32 (Fr.refl _ _)
  have q9 : ¬ ((20 + (h 75 6)) ≤ 2147484048) := q9
  refine x_const (np := 19) (x := 9223372034707292159) (a := 2147483647) (by decide +kernel) (by decide) (by decide) ?_
  have q755 : h1 75 6 = h 75 6 := by rw [← e3]; exact x_up_i (by omega)
  have q756 : h1 75 6 = h 75 6 := by rw [← e3]; exact x_up_i (by omega)
  refine x_retI (np := 20) (x := 0) (by decide +kernel) (by decide) (Or.inl (by decide +kernel)) ⟨_, rfl, (by decide), ?_⟩
  exact ⟨j2, f4, (by omega), (fun z => by omega), (fun z => by omega)⟩
set_option maxHeartbeats 0 in
/-- LentNamesModel.end(I)Z -/
theorem c166_75 {sc : Nat × Nat} {d a1 : Nat} {h : xh} (hJ : J h) (ba1 : 0 ≤ a1 ∧ a1 ≤ 4294967295) : X sc 166 d (xI fun r h' => J h' ∧ Fr 655360 h h' ∧ (2147483648 ≤ r ∧ r ≤ 2147483649) ∧ ((a1 < 2147483648 ∨ h 75 6 < a1) → r = 2147483648 ∧ h' 75 6 = h 75 6) ∧ ((2147483648 ≤ a1 ∧ a1 ≤ h 75 6) → r = 2147483649 ∧ h' 75 6 = a1)) 0 0 0 [x_r 75, iv_c a1] [] h := by
  have la1 : a1 < 4294967296 := by omega
  have hF := Fr.refl 655360 h
  refine x_aload (np := 1) (x := 0) (by decide +kernel) rfl (x_nc_le (by decide)) ?_
  refine x_const (np := 2) (x := 9223372039002259456) (a := 2147483648) (by decide +kernel) (by decide) (by decide) ?_
  refine x_putI (np := 5) (x := 704) (f := 0) (by decide +kernel) (by decide +kernel) (by decide) (Or.inl (by decide)) ?_
  have j2 := jU (e := 0) (v := 2147483648) 0 hJ rg_75_0_0_1 (by omega) (by omega) (by omega)
  have f4 := jF (e := 0) (v := 2147483648) 0 hF rg_75_0_0_1 (by omega) (by omega) (by decide)
  generalize e3 : x_up h 75 0 2147483648 = h1 at j2 f4 ⊢
  refine x_iload (np := 6) (x := 1) (by decide +kernel) rfl la1 ?_
  refine x_ifz (k := 2) (tg := 17) (np := 9) (by decide +kernel) (by decide) la1 (fun q5 => ?_) (fun q6 => ?_)
  · have q5 : a1 < 2147483648 := q5
    refine x_const (np := 18) (x := 9223372039002259456) (a := 2147483648) (by decide +kernel) (by decide) (by decide) ?_
    have b7 := jB (e := 6) 0 hJ rg_75_6_0_1 (by omega) (by omega)
    have q8 : h1 75 6 = h 75 6 := by rw [← e3]; exact x_up_i (by omega)
    have q9 : h1 75 6 = h 75 6 := by rw [← e3]; exact x_up_i (by omega)
    refine x_retI (np := 19) (x := 0) (by decide +kernel) (by decide) (Or.inr ⟨by decide +kernel, by omega, by omega⟩) ⟨_, rfl, (by decide), ?_⟩
    exact ⟨j2, f4, (by omega), (fun z => by omega), (fun z => by omega)⟩
  have q6 : ¬ (a1 < 2147483648) := q6
  refine x_iload (np := 10) (x := 1) (by decide +kernel) rfl la1 ?_
  refine x_aload (np := 11) (x := 0) (by decide +kernel) rfl (x_nc_le (by decide)) ?_
  have q10 : h1 75 6 = h 75 6 := by rw [← e3]; exact x_up_i (by omega)
  have b11 := jB (e := 6) 0 hJ rg_75_6_0_1 (by omega) (by omega)
  refine x_getC (np := 14) (x := 710) (f := 6) (q := (h 75 6)) (by decide +kernel) (by decide) (by decide +kernel) q10 (fun l12 => ?_)
  refine x_icmp (k := 5) (tg := 19) (np := 17) (by decide +kernel) (by decide) la1 l12 (fun q13 => ?_) (fun q14 => ?_)
  · have q13 : a1 ≤ (h 75 6) := q13
    refine x_aload (np := 20) (x := 0) (by decide +kernel) rfl (x_nc_le (by decide)) ?_
    refine x_iload (np := 21) (x := 1) (by decide +kernel) rfl la1 ?_
    refine x_putI (np := 24) (x := 710) (f := 6) (by decide +kernel) (by decide +kernel) la1 (Or.inl (by decide)) ?_
    have j16 := jU (e := 6) (v := a1) 0 j2 rg_75_6_0_1 (by omega) (by omega) (by omega)
    have f18 := jF (e := 6) (v := a1) 0 f4 rg_75_6_0_1 (by omega) (by omega) (by decide)
    generalize e17 : x_up h1 75 6 a1 = h15 at j16 f18 ⊢
    refine x_const (np := 25) (x := 9223372043297226753) (a := 2147483649) (by decide +kernel) (by decide) (by decide) ?_
    have q19 : h15 75 6 = a1 := by rw [← e17]; exact x_up_at
    have q20 : h15 75 6 = a1 := by rw [← e17]; exact x_up_at
    refine x_retI (np := 26) (x := 0) (by decide +kernel) (by decide) (Or.inr ⟨by decide +kernel, by omega, by omega⟩) ⟨_, rfl, (by decide), ?_⟩
    exact ⟨j16, f18, (by omega), (fun z => by omega), (fun z => by omega)⟩
  have q14 : ¬ (a1 ≤ (h 75 6)) := q14
  refine x_const (np := 18) (x := 9223372039002259456) (a := 2147483648) (by decide +kernel) (by decide) (by decide) ?_
  have q21 : h1 75 6 = h 75 6 := by rw [← e3]; exact x_up_i (by omega)
  have q22 : h1 75 6 = h 75 6 := by rw [← e3]; exact x_up_i (by omega)
  refine x_retI (np := 19) (x := 0) (by decide +kernel) (by decide) (Or.inr ⟨by decide +kernel, by omega, by omega⟩) ⟨_, rfl, (by decide), ?_⟩
  exact ⟨j2, f4, (by omega), (fun z => by omega), (fun z => by omega)⟩
