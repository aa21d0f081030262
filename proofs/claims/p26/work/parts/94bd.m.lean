/-! ===== methods ===== -/
set_option maxHeartbeats 0 in
/-- LentNames$TownReader.readLine()Z -/
theorem c93_61 {sc : Nat × Nat} {d  : Nat} {h : xh} {tB : Nat → Nat} {tN : Nat} (hJ : J h) (hT : Tp tB tN h) : X sc 93 (d + 8) (xI fun r h' => J h' ∧ Fr 63331869759897761 h h' ∧ (2147483648 ≤ r ∧ r ≤ 2147483649) ∧ (rv h' 0 = rv h 0) ∧ (rv h' 1 = rv h 1) ∧ line9 tB tN (rv h 0) (rv h 2) (rv h 3) (rv h 4) (rv h 5) (h 1 2) (rs5 r (h' 1 2) (rv h' 2) (rv h' 3) (rv h' 4) (rv h' 5)) ∧ Ot (h 61 1) h h' ∧ (r = 2147483649 → Wl (wq h (h 61 1)) (wq h' (h 61 1)) (rv h 3) (rv h' 3))) 0 0 0 [x_r 61] [] h := by
  have hF := Fr.refl 63331869759897761 h
  refine x_aload (np := 1) (x := 0) (by decide +kernel) rfl (x_nc_le (by decide)) ?_
  have q1 : h 61 0 = 1 := by have z := jB (e := 0) 0 hJ rg_61_0_0_1 (by decide) (by decide); omega
  refine x_getR (np := 4) (x := 576) (f := 0) (q := 1) (by decide +kernel) (by decide) (by decide +kernel) q1 ?_
  refine x_ldcB (i := 0) (idx := 35) (tx := "lend") (by rw [tb_y93]; exact List.mem_of_getElem? (i := 0) rfl) (by decide) (by rw [tb_b93]; decide +kernel) ?_
  refine x_cP (t := 6) (mj := 77) (n := 2) (rc := 8) (ml := 4) (nr := 0) (np := 9) (as := [x_r 1, x_b (0 + 1)]) (rest := []) (lo1 := [x_r 1, x_b (0 + 1), 147573952589676412928, 147573952589676412928]) (by decide +kernel) (by decide) (by decide +kernel) (x_rb_of (by decide +kernel)) rfl rfl (x_wr (by decide) (x_wB (by decide) x_wn)) x_wn (by decide) rfl (c77_1_S0 hJ  (by decide) hT) (fun v2 l3 q4 => ?_)
  obtain ⟨b7, c5, c6⟩ := q4
  have b8 := jB (e := 2) 0 hJ rg_1_2_0_1 (by first | decide | omega) (by first | decide | omega)
  refine x_ifz (k := 0) (tg := 50) (np := 12) (by decide +kernel) (by decide) l3 (fun q9 => ?_) (fun q10 => ?_)
  · have q9 : v2 = 2147483648 := q9
    refine x_aload (np := 51) (x := 0) (by decide +kernel) rfl (x_nc_le (by decide)) ?_
    have q11 : h 61 0 = 1 := by have z := jB (e := 0) 0 hJ rg_61_0_0_1 (by decide) (by decide); omega
    refine x_getR (np := 54) (x := 576) (f := 0) (q := 1) (by decide +kernel) (by decide) (by decide +kernel) q11 ?_
    refine x_ldcB (i := 6) (idx := 58) (tx := "letter") (by rw [tb_y93]; exact List.mem_of_getElem? (i := 6) rfl) (by decide) (by rw [tb_b93]; decide +kernel) ?_
    refine x_cP (t := 6) (mj := 77) (n := 2) (rc := 8) (ml := 4) (nr := 0) (np := 59) (as := [x_r 1, x_b (6 + 1)]) (rest := []) (lo1 := [x_r 1, x_b (6 + 1), 147573952589676412928, 147573952589676412928]) (by decide +kernel) (by decide) (by decide +kernel) (x_rb_of (by decide +kernel)) rfl rfl (x_wr (by decide) (x_wB (by decide) x_wn)) x_wn (by decide) rfl (c77_1_S0 hJ  (by decide) hT) (fun v12 l13 q14 => ?_)
    obtain ⟨b17, c15, c16⟩ := q14
    refine x_ifz (k := 0) (tg := 100) (np := 62) (by decide +kernel) (by decide) l13 (fun q18 => ?_) (fun q19 => ?_)
    · have q18 : v12 = 2147483648 := q18
      refine x_aload (np := 101) (x := 0) (by decide +kernel) rfl (x_nc_le (by decide)) ?_
      have q20 : h 61 0 = 1 := by have z := jB (e := 0) 0 hJ rg_61_0_0_1 (by decide) (by decide); omega
      refine x_getR (np := 104) (x := 576) (f := 0) (q := 1) (by decide +kernel) (by decide) (by decide +kernel) q20 ?_
      refine x_ldcB (i := 8) (idx := 66) (tx := "debt") (by rw [tb_y93]; exact List.mem_of_getElem? (i := 8) rfl) (by decide) (by rw [tb_b93]; decide +kernel) ?_
      refine x_cP (t := 6) (mj := 77) (n := 2) (rc := 8) (ml := 4) (nr := 0) (np := 109) (as := [x_r 1, x_b (8 + 1)]) (rest := []) (lo1 := [x_r 1, x_b (8 + 1), 147573952589676412928, 147573952589676412928]) (by decide +kernel) (by decide) (by decide +kernel) (x_rb_of (by decide +kernel)) rfl rfl (x_wr (by decide) (x_wB (by decide) x_wn)) x_wn (by decide) rfl (c77_1_S0 hJ  (by decide) hT) (fun v21 l22 q23 => ?_)
      obtain ⟨b26, c24, c25⟩ := q23
      refine x_ifz (k := 0) (tg := 150) (np := 112) (by decide +kernel) (by decide) l22 (fun q27 => ?_) (fun q28 => ?_)
      · have q27 : v21 = 2147483648 := q27
        refine x_aload (np := 151) (x := 0) (by decide +kernel) rfl (x_nc_le (by decide)) ?_
        have q29 : h 61 0 = 1 := by have z := jB (e := 0) 0 hJ rg_61_0_0_1 (by decide) (by decide); omega
        refine x_getR (np := 154) (x := 576) (f := 0) (q := 1) (by decide +kernel) (by decide) (by decide +kernel) q29 ?_
        refine x_ldcB (i := 13) (idx := 74) (tx := "seen") (by rw [tb_y93]; exact List.mem_of_getElem? (i := 13) rfl) (by decide) (by rw [tb_b93]; decide +kernel) ?_
        refine x_cP (t := 6) (mj := 77) (n := 2) (rc := 8) (ml := 4) (nr := 0) (np := 159) (as := [x_r 1, x_b (13 + 1)]) (rest := []) (lo1 := [x_r 1, x_b (13 + 1), 147573952589676412928, 147573952589676412928]) (by decide +kernel) (by decide) (by decide +kernel) (x_rb_of (by decide +kernel)) rfl rfl (x_wr (by decide) (x_wB (by decide) x_wn)) x_wn (by decide) rfl (c77_1_S0 hJ  (by decide) hT) (fun v30 l31 q32 => ?_)
        obtain ⟨b35, c33, c34⟩ := q32
        refine x_ifz (k := 0) (tg := 200) (np := 162) (by decide +kernel) (by decide) l31 (fun q36 => ?_) (fun q37 => ?_)
        · have q36 : v30 = 2147483648 := q36
          refine x_aload (np := 201) (x := 0) (by decide +kernel) rfl (x_nc_le (by decide)) ?_
          have q38 : h 61 0 = 1 := by have z := jB (e := 0) 0 hJ rg_61_0_0_1 (by decide) (by decide); omega
          refine x_getR (np := 204) (x := 576) (f := 0) (q := 1) (by decide +kernel) (by decide) (by decide +kernel) q38 ?_
          refine x_ldcB (i := 17) (idx := 82) (tx := "late") (by rw [tb_y93]; exact List.mem_of_getElem? (i := 17) rfl) (by decide) (by rw [tb_b93]; decide +kernel) ?_
          refine x_cI (t := 6) (mj := 78) (n := 2) (rc := 8) (ml := 2) (nr := 0) (np := 209) (as := [x_r 1, x_b (17 + 1)]) (rest := []) (lo1 := [x_r 1, x_b (17 + 1)]) (by decide +kernel) (by decide) (by decide +kernel) (x_rb_of (by decide +kernel)) rfl rfl (x_wr (by decide) (x_wB (by decide) x_wn)) x_wn (by decide) rfl (c78_1_S0 hJ  (by decide) hT) (fun v39 h42 l40 q41 => ?_)
          obtain ⟨j43, f44, b45, c46, c47, c48⟩ := q41
          have f49 := Fr.trans hF f44 (by decide)
          have b50 := jB (e := 2) 0 j43 rg_1_2_0_1 (by first | decide | omega) (by first | decide | omega)
          have b51 : iv_tl 17 = 4 := by decide
          refine x_ifz (k := 0) (tg := 217) (np := 212) (by decide +kernel) (by decide) l40 (fun q52 => ?_) (fun q53 => ?_)
          · have q52 : v39 = 2147483648 := q52
            have b54 := c47 (by first | decide | omega)
            refine x_aload (np := 218) (x := 0) (by decide +kernel) rfl (x_nc_le (by decide)) ?_
            have q55 : h42 61 0 = 1 := by have z := jB (e := 0) 0 j43 rg_61_0_0_1 (by decide) (by decide); omega
            refine x_getR (np := 221) (x := 576) (f := 0) (q := 1) (by decide +kernel) (by decide) (by decide +kernel) q55 ?_
            refine x_ldcB (i := 19) (idx := 87) (tx := "dies") (by rw [tb_y93]; exact List.mem_of_getElem? (i := 19) rfl) (by decide) (by rw [tb_b93]; decide +kernel) ?_
            have m59 := Tp.fr hT f44 (by decide) (by decide)
            refine x_cI (t := 6) (mj := 78) (n := 2) (rc := 8) (ml := 2) (nr := 0) (np := 226) (as := [x_r 1, x_b (19 + 1)]) (rest := []) (lo1 := [x_r 1, x_b (19 + 1)]) (by decide +kernel) (by decide) (by decide +kernel) (x_rb_of (by decide +kernel)) rfl rfl (x_wr (by decide) (x_wB (by decide) x_wn)) x_wn (by decide) rfl (c78_1_S0 j43  (by decide) m59) (fun v56 h60 l57 q58 => ?_)
            obtain ⟨j61, f62, b63, c64, c65, c66⟩ := q58
            have f67 := Fr.trans f49 f62 (by decide)
            have b68 := jB (e := 2) 0 j61 rg_1_2_0_1 (by first | decide | omega) (by first | decide | omega)
            have b69 : iv_tl 19 = 4 := by decide
            refine x_ifz (k := 0) (tg := 234) (np := 229) (by decide +kernel) (by decide) l57 (fun q70 => ?_) (fun q71 => ?_)
            · have q70 : v56 = 2147483648 := q70
              have b72 := c65 (by first | decide | omega)
              refine x_aload (np := 235) (x := 0) (by decide +kernel) rfl (x_nc_le (by decide)) ?_
              have q73 : h60 61 0 = 1 := by have z := jB (e := 0) 0 j61 rg_61_0_0_1 (by decide) (by decide); omega
              refine x_getR (np := 238) (x := 576) (f := 0) (q := 1) (by decide +kernel) (by decide) (by decide +kernel) q73 ?_
              refine x_ldcB (i := 20) (idx := 92) (tx := "court") (by rw [tb_y93]; exact List.mem_of_getElem? (i := 20) rfl) (by decide) (by rw [tb_b93]; decide +kernel) ?_
              have m77 := Tp.fr m59 f62 (by decide) (by decide)
              refine x_cI (t := 6) (mj := 78) (n := 2) (rc := 8) (ml := 2) (nr := 0) (np := 243) (as := [x_r 1, x_b (20 + 1)]) (rest := []) (lo1 := [x_r 1, x_b (20 + 1)]) (by decide +kernel) (by decide) (by decide +kernel) (x_rb_of (by decide +kernel)) rfl rfl (x_wr (by decide) (x_wB (by decide) x_wn)) x_wn (by decide) rfl (c78_1_S0 j61  (by decide) m77) (fun v74 h78 l75 q76 => ?_)
              obtain ⟨j79, f80, b81, c82, c83, c84⟩ := q76
              have f85 := Fr.trans f67 f80 (by decide)
              have b86 := jB (e := 2) 0 j79 rg_1_2_0_1 (by first | decide | omega) (by first | decide | omega)
              have b87 : iv_tl 20 = 5 := by decide
              refine x_ifz (k := 0) (tg := 257) (np := 246) (by decide +kernel) (by decide) l75 (fun q88 => ?_) (fun q89 => ?_)
              · have q88 : v74 = 2147483648 := q88
                have b90 := c83 (by first | decide | omega)
                refine x_const (np := 258) (x := 9223372039002259456) (a := 2147483648) (by decide +kernel) (by decide) (by decide) ?_
                have t91 : tw (h 61 1) := hJ.2.2.2.2.1
                have b92 := jB (e := 7) 0 hJ (rg_T0_7_0_1 t91) (by first | decide | omega) (by first | decide | omega)
                have e93 : rv h 0 = (h (h 61 1) 7) := (congrArg (fun z => svq h z 0) rfl).trans rfl
                have q94 : h78 61 1 = h60 61 1 := f80 61 1 (by decide +kernel)
                have q95 : h60 61 1 = h42 61 1 := f62 61 1 (by decide +kernel)
                have q96 : h42 61 1 = h 61 1 := f44 61 1 (by decide +kernel)
                have q97 : h78 (h 61 1) 7 = h60 (h 61 1) 7 := jK 0 f80 (rg_T0_7_0_1 t91) (by first | decide | omega) (by first | decide | omega) (by decide)
                have q98 : h60 (h 61 1) 7 = h42 (h 61 1) 7 := jK 0 f62 (rg_T0_7_0_1 t91) (by first | decide | omega) (by first | decide | omega) (by decide)
                have q99 : h42 (h 61 1) 7 = h (h 61 1) 7 := jK 0 f44 (rg_T0_7_0_1 t91) (by first | decide | omega) (by first | decide | omega) (by decide)
                have e100 : rv h78 0 = (h (h 61 1) 7) := (congrArg (fun z => svq h78 z 0) ((q94.trans q95).trans q96)).trans ((q97.trans q98).trans q99)
                have e101 : rv h 1 = (h (h 61 1) 8) := (congrArg (fun z => svq h z 1) rfl).trans rfl
                have q102 : h78 61 1 = h60 61 1 := f80 61 1 (by decide +kernel)
                have q103 : h60 61 1 = h42 61 1 := f62 61 1 (by decide +kernel)
                have q104 : h42 61 1 = h 61 1 := f44 61 1 (by decide +kernel)
                have q105 : h78 (h 61 1) 8 = h60 (h 61 1) 8 := jK 0 f80 (rg_T0_8_0_1 t91) (by first | decide | omega) (by first | decide | omega) (by decide)
                have q106 : h60 (h 61 1) 8 = h42 (h 61 1) 8 := jK 0 f62 (rg_T0_8_0_1 t91) (by first | decide | omega) (by first | decide | omega) (by decide)
                have q107 : h42 (h 61 1) 8 = h (h 61 1) 8 := jK 0 f44 (rg_T0_8_0_1 t91) (by first | decide | omega) (by first | decide | omega) (by decide)
                have e108 : rv h78 1 = (h (h 61 1) 8) := (congrArg (fun z => svq h78 z 1) ((q102.trans q103).trans q104)).trans ((q105.trans q106).trans q107)
                have q109 : h78 61 1 = h60 61 1 := f80 61 1 (by decide +kernel)
                have q110 : h60 61 1 = h42 61 1 := f62 61 1 (by decide +kernel)
                have q111 : h42 61 1 = h 61 1 := f44 61 1 (by decide +kernel)
                have q112 : h78 (h 61 1) 7 = h60 (h 61 1) 7 := jK 0 f80 (rg_T0_7_0_1 t91) (by first | decide | omega) (by first | decide | omega) (by decide)
                have q113 : h60 (h 61 1) 7 = h42 (h 61 1) 7 := jK 0 f62 (rg_T0_7_0_1 t91) (by first | decide | omega) (by first | decide | omega) (by decide)
                have q114 : h42 (h 61 1) 7 = h (h 61 1) 7 := jK 0 f44 (rg_T0_7_0_1 t91) (by first | decide | omega) (by first | decide | omega) (by decide)
                have q115 : h78 61 1 = h60 61 1 := f80 61 1 (by decide +kernel)
                have q116 : h60 61 1 = h42 61 1 := f62 61 1 (by decide +kernel)
                have q117 : h42 61 1 = h 61 1 := f44 61 1 (by decide +kernel)
                have q118 : h78 (h 61 1) 8 = h60 (h 61 1) 8 := jK 0 f80 (rg_T0_8_0_1 t91) (by first | decide | omega) (by first | decide | omega) (by decide)
                have q119 : h60 (h 61 1) 8 = h42 (h 61 1) 8 := jK 0 f62 (rg_T0_8_0_1 t91) (by first | decide | omega) (by first | decide | omega) (by decide)
                have q120 : h42 (h 61 1) 8 = h (h 61 1) 8 := jK 0 f44 (rg_T0_8_0_1 t91) (by first | decide | omega) (by first | decide | omega) (by decide)
                have b121 := jB (e := 2) 0 hJ (rg_T1_2_0_1 t91) (by first | decide | omega) (by first | decide | omega)
                have e122 : rv h 2 = (h ((h 61 1) + 1) 2) := (congrArg (fun z => svq h z 2) rfl).trans rfl
                have q123 : h78 61 1 = h60 61 1 := f80 61 1 (by decide +kernel)
                have q124 : h60 61 1 = h42 61 1 := f62 61 1 (by decide +kernel)
                have q125 : h42 61 1 = h 61 1 := f44 61 1 (by decide +kernel)
                have q126 : h78 ((h 61 1) + 1) 2 = h60 ((h 61 1) + 1) 2 := jK 0 f80 (rg_T1_2_0_1 t91) (by first | decide | omega) (by first | decide | omega) (by decide)
                have q127 : h60 ((h 61 1) + 1) 2 = h42 ((h 61 1) + 1) 2 := jK 0 f62 (rg_T1_2_0_1 t91) (by first | decide | omega) (by first | decide | omega) (by decide)
                have q128 : h42 ((h 61 1) + 1) 2 = h ((h 61 1) + 1) 2 := jK 0 f44 (rg_T1_2_0_1 t91) (by first | decide | omega) (by first | decide | omega) (by decide)
                have e129 : rv h78 2 = (h ((h 61 1) + 1) 2) := (congrArg (fun z => svq h78 z 2) ((q123.trans q124).trans q125)).trans ((q126.trans q127).trans q128)
                have b130 := jB (e := 2) 0 hJ (rg_T3_2_0_1 t91) (by first | decide | omega) (by first | decide | omega)
                have e131 : rv h 3 = (h ((h 61 1) + 3) 2) := (congrArg (fun z => svq h z 3) rfl).trans rfl
                have q132 : h78 61 1 = h60 61 1 := f80 61 1 (by decide +kernel)
                have q133 : h60 61 1 = h42 61 1 := f62 61 1 (by decide +kernel)
                have q134 : h42 61 1 = h 61 1 := f44 61 1 (by decide +kernel)
                have q135 : h78 ((h 61 1) + 3) 2 = h60 ((h 61 1) + 3) 2 := jK 0 f80 (rg_T3_2_0_1 t91) (by first | decide | omega) (by first | decide | omega) (by decide)
                have q136 : h60 ((h 61 1) + 3) 2 = h42 ((h 61 1) + 3) 2 := jK 0 f62 (rg_T3_2_0_1 t91) (by first | decide | omega) (by first | decide | omega) (by decide)
                have q137 : h42 ((h 61 1) + 3) 2 = h ((h 61 1) + 3) 2 := jK 0 f44 (rg_T3_2_0_1 t91) (by first | decide | omega) (by first | decide | omega) (by decide)
                have e138 : rv h78 3 = (h ((h 61 1) + 3) 2) := (congrArg (fun z => svq h78 z 3) ((q132.trans q133).trans q134)).trans ((q135.trans q136).trans q137)
                have b139 := jB (e := 2) 0 hJ (rg_T5_2_0_1 t91) (by first | decide | omega) (by first | decide | omega)
                have e140 : rv h 4 = (h ((h 61 1) + 5) 2) := (congrArg (fun z => svq h z 4) rfl).trans rfl
                have q141 : h78 61 1 = h60 61 1 := f80 61 1 (by decide +kernel)
                have q142 : h60 61 1 = h42 61 1 := f62 61 1 (by decide +kernel)
                have q143 : h42 61 1 = h 61 1 := f44 61 1 (by decide +kernel)
                have q144 : h78 ((h 61 1) + 5) 2 = h60 ((h 61 1) + 5) 2 := jK 0 f80 (rg_T5_2_0_1 t91) (by first | decide | omega) (by first | decide | omega) (by decide)
                have q145 : h60 ((h 61 1) + 5) 2 = h42 ((h 61 1) + 5) 2 := jK 0 f62 (rg_T5_2_0_1 t91) (by first | decide | omega) (by first | decide | omega) (by decide)
                have q146 : h42 ((h 61 1) + 5) 2 = h ((h 61 1) + 5) 2 := jK 0 f44 (rg_T5_2_0_1 t91) (by first | decide | omega) (by first | decide | omega) (by decide)
                have e147 : rv h78 4 = (h ((h 61 1) + 5) 2) := (congrArg (fun z => svq h78 z 4) ((q141.trans q142).trans q143)).trans ((q144.trans q145).trans q146)
                have b148 := jB (e := 2) 0 hJ (rg_T7_2_0_1 t91) (by first | decide | omega) (by first | decide | omega)
                have e149 : rv h 5 = (h ((h 61 1) + 7) 2) := (congrArg (fun z => svq h z 5) rfl).trans rfl
                have q150 : h78 61 1 = h60 61 1 := f80 61 1 (by decide +kernel)
                have q151 : h60 61 1 = h42 61 1 := f62 61 1 (by decide +kernel)
                have q152 : h42 61 1 = h 61 1 := f44 61 1 (by decide +kernel)
                have q153 : h78 ((h 61 1) + 7) 2 = h60 ((h 61 1) + 7) 2 := jK 0 f80 (rg_T7_2_0_1 t91) (by first | decide | omega) (by first | decide | omega) (by decide)
                have q154 : h60 ((h 61 1) + 7) 2 = h42 ((h 61 1) + 7) 2 := jK 0 f62 (rg_T7_2_0_1 t91) (by first | decide | omega) (by first | decide | omega) (by decide)
                have q155 : h42 ((h 61 1) + 7) 2 = h ((h 61 1) + 7) 2 := jK 0 f44 (rg_T7_2_0_1 t91) (by first | decide | omega) (by first | decide | omega) (by decide)
                have e156 : rv h78 5 = (h ((h 61 1) + 7) 2) := (congrArg (fun z => svq h78 z 5) ((q150.trans q151).trans q152)).trans ((q153.trans q154).trans q155)
                have w157 : ¬ Wd tB tN 0 (h 1 2) := by rw [show h 1 2 = h 1 2 from rfl]; exact (Is.no c6 (by first | decide | omega))
                have w158 : ¬ Wd tB tN 6 (h 1 2) := by rw [show h 1 2 = h 1 2 from rfl]; exact (Is.no c16 (by first | decide | omega))
                have w159 : ¬ Wd tB tN 8 (h 1 2) := by rw [show h 1 2 = h 1 2 from rfl]; exact (Is.no c25 (by first | decide | omega))
                have w160 : ¬ Wd tB tN 13 (h 1 2) := by rw [show h 1 2 = h 1 2 from rfl]; exact (Is.no c34 (by first | decide | omega))
                obtain ⟨w161, e162⟩ := Tk.no c48 (by first | decide | omega)
                have w163 : ¬ Wd tB tN 17 (h 1 2) := by rw [show h 1 2 = h 1 2 from rfl]; exact w161
                obtain ⟨w164, e165⟩ := Tk.no c66 (by first | decide | omega)
                have w166 : ¬ Wd tB tN 19 (h 1 2) := by rw [show h 1 2 = h42 1 2 from (show h42 1 2 = h 1 2 by first | decide | omega).symm]; exact w164
                obtain ⟨w167, e168⟩ := Tk.no c84 (by first | decide | omega)
                have w169 : ¬ Wd tB tN 20 (h 1 2) := by rw [show h 1 2 = h60 1 2 from (show h60 1 2 = h 1 2 by first | decide | omega).symm]; exact w167
                have m170 : Ot (h 61 1) h h42 := Ot.fr Ot.refl f44 (by decide)
                have m171 : Ot (h 61 1) h h60 := Ot.fr m170 f62 (by decide)
                have m172 : Ot (h 61 1) h h78 := Ot.fr m171 f80 (by decide)
                refine x_retI (np := 259) (x := 0) (by decide +kernel) (by decide) (Or.inr ⟨by decide +kernel, by first | decide | omega, by first | decide | omega⟩) ⟨_, rfl, (by decide), ?_⟩
                exact ⟨j79, f85, (by first | decide | omega), (by first | decide | omega), (by first | decide | omega), (l9_no w157 w158 w159 w160 w163 w166 w169 (by first | decide | omega)), m172, (fun z => absurd z (by first | decide | omega))⟩
              have q89 : ¬ (v74 = 2147483648) := q89
              have b173 := c82 (by first | decide | omega)
              refine x_aload (np := 247) (x := 0) (by decide +kernel) rfl (x_nc_le (by decide)) ?_
              have m177 := Tp.fr m77 f80 (by decide) (by decide)
              refine x_cI (t := 6) (mj := 97) (n := 1) (rc := 10) (ml := 2) (nr := 0) (np := 250) (as := [x_r 61]) (rest := []) (lo1 := [x_r 61, 147573952589676412928]) (by decide +kernel) (by decide) (by decide +kernel) (x_rb_of (by decide +kernel)) rfl rfl (x_wr (by decide) x_wn) x_wn (by decide) rfl (c97_61 j79  m177) (fun v174 h178 l175 q176 => ?_)
              obtain ⟨j179, f180, b181, c182⟩ := q176
              have f183 := Fr.trans f85 f180 (by decide)
              refine x_ifz (k := 0) (tg := 257) (np := 253) (by decide +kernel) (by decide) l175 (fun q184 => ?_) (fun q185 => ?_)
              · have q184 : v174 = 2147483648 := q184
                refine x_const (np := 258) (x := 9223372039002259456) (a := 2147483648) (by decide +kernel) (by decide) (by decide) ?_
                have t186 : tw (h 61 1) := hJ.2.2.2.2.1
                have b187 := jB (e := 7) 0 hJ (rg_T0_7_0_1 t186) (by first | decide | omega) (by first | decide | omega)
                have e188 : rv h 0 = (h (h 61 1) 7) := (congrArg (fun z => svq h z 0) rfl).trans rfl
                have q189 : h178 61 1 = h78 61 1 := f180 61 1 (by decide +kernel)
                have q190 : h78 61 1 = h60 61 1 := f80 61 1 (by decide +kernel)
                have q191 : h60 61 1 = h42 61 1 := f62 61 1 (by decide +kernel)
                have q192 : h42 61 1 = h 61 1 := f44 61 1 (by decide +kernel)
                have q193 : h178 (h 61 1) 7 = h78 (h 61 1) 7 := jK 0 f180 (rg_T0_7_0_1 t186) (by first | decide | omega) (by first | decide | omega) (by decide)
                have q194 : h78 (h 61 1) 7 = h60 (h 61 1) 7 := jK 0 f80 (rg_T0_7_0_1 t186) (by first | decide | omega) (by first | decide | omega) (by decide)
                have q195 : h60 (h 61 1) 7 = h42 (h 61 1) 7 := jK 0 f62 (rg_T0_7_0_1 t186) (by first | decide | omega) (by first | decide | omega) (by decide)
                have q196 : h42 (h 61 1) 7 = h (h 61 1) 7 := jK 0 f44 (rg_T0_7_0_1 t186) (by first | decide | omega) (by first | decide | omega) (by decide)
                have e197 : rv h178 0 = (h (h 61 1) 7) := (congrArg (fun z => svq h178 z 0) (((q189.trans q190).trans q191).trans q192)).trans (((q193.trans q194).trans q195).trans q196)
                have e198 : rv h 1 = (h (h 61 1) 8) := (congrArg (fun z => svq h z 1) rfl).trans rfl
                have q199 : h178 61 1 = h78 61 1 := f180 61 1 (by decide +kernel)
                have q200 : h78 61 1 = h60 61 1 := f80 61 1 (by decide +kernel)
                have q201 : h60 61 1 = h42 61 1 := f62 61 1 (by decide +kernel)
                have q202 : h42 61 1 = h 61 1 := f44 61 1 (by decide +kernel)
                have q203 : h178 (h 61 1) 8 = h78 (h 61 1) 8 := jK 0 f180 (rg_T0_8_0_1 t186) (by first | decide | omega) (by first | decide | omega) (by decide)
                have q204 : h78 (h 61 1) 8 = h60 (h 61 1) 8 := jK 0 f80 (rg_T0_8_0_1 t186) (by first | decide | omega) (by first | decide | omega) (by decide)
                have q205 : h60 (h 61 1) 8 = h42 (h 61 1) 8 := jK 0 f62 (rg_T0_8_0_1 t186) (by first | decide | omega) (by first | decide | omega) (by decide)
                have q206 : h42 (h 61 1) 8 = h (h 61 1) 8 := jK 0 f44 (rg_T0_8_0_1 t186) (by first | decide | omega) (by first | decide | omega) (by decide)
                have e207 : rv h178 1 = (h (h 61 1) 8) := (congrArg (fun z => svq h178 z 1) (((q199.trans q200).trans q201).trans q202)).trans (((q203.trans q204).trans q205).trans q206)
                have q208 : h178 61 1 = h78 61 1 := f180 61 1 (by decide +kernel)
                have q209 : h78 61 1 = h60 61 1 := f80 61 1 (by decide +kernel)
                have q210 : h60 61 1 = h42 61 1 := f62 61 1 (by decide +kernel)
                have q211 : h42 61 1 = h 61 1 := f44 61 1 (by decide +kernel)
                have q212 : h178 (h 61 1) 7 = h78 (h 61 1) 7 := jK 0 f180 (rg_T0_7_0_1 t186) (by first | decide | omega) (by first | decide | omega) (by decide)
                have q213 : h78 (h 61 1) 7 = h60 (h 61 1) 7 := jK 0 f80 (rg_T0_7_0_1 t186) (by first | decide | omega) (by first | decide | omega) (by decide)
                have q214 : h60 (h 61 1) 7 = h42 (h 61 1) 7 := jK 0 f62 (rg_T0_7_0_1 t186) (by first | decide | omega) (by first | decide | omega) (by decide)
                have q215 : h42 (h 61 1) 7 = h (h 61 1) 7 := jK 0 f44 (rg_T0_7_0_1 t186) (by first | decide | omega) (by first | decide | omega) (by decide)
                have q216 : h178 61 1 = h78 61 1 := f180 61 1 (by decide +kernel)
                have q217 : h78 61 1 = h60 61 1 := f80 61 1 (by decide +kernel)
                have q218 : h60 61 1 = h42 61 1 := f62 61 1 (by decide +kernel)
                have q219 : h42 61 1 = h 61 1 := f44 61 1 (by decide +kernel)
                have q220 : h178 (h 61 1) 8 = h78 (h 61 1) 8 := jK 0 f180 (rg_T0_8_0_1 t186) (by first | decide | omega) (by first | decide | omega) (by decide)
                have q221 : h78 (h 61 1) 8 = h60 (h 61 1) 8 := jK 0 f80 (rg_T0_8_0_1 t186) (by first | decide | omega) (by first | decide | omega) (by decide)
                have q222 : h60 (h 61 1) 8 = h42 (h 61 1) 8 := jK 0 f62 (rg_T0_8_0_1 t186) (by first | decide | omega) (by first | decide | omega) (by decide)
                have q223 : h42 (h 61 1) 8 = h (h 61 1) 8 := jK 0 f44 (rg_T0_8_0_1 t186) (by first | decide | omega) (by first | decide | omega) (by decide)
                have b224 := jB (e := 2) 0 hJ (rg_T1_2_0_1 t186) (by first | decide | omega) (by first | decide | omega)
                have e225 : rv h 2 = (h ((h 61 1) + 1) 2) := (congrArg (fun z => svq h z 2) rfl).trans rfl
                have q226 : h178 61 1 = h78 61 1 := f180 61 1 (by decide +kernel)
                have q227 : h78 61 1 = h60 61 1 := f80 61 1 (by decide +kernel)
                have q228 : h60 61 1 = h42 61 1 := f62 61 1 (by decide +kernel)
                have q229 : h42 61 1 = h 61 1 := f44 61 1 (by decide +kernel)
                have q230 : h178 ((h 61 1) + 1) 2 = h78 ((h 61 1) + 1) 2 := jK 0 f180 (rg_T1_2_0_1 t186) (by first | decide | omega) (by first | decide | omega) (by decide)
                have q231 : h78 ((h 61 1) + 1) 2 = h60 ((h 61 1) + 1) 2 := jK 0 f80 (rg_T1_2_0_1 t186) (by first | decide | omega) (by first | decide | omega) (by decide)
                have q232 : h60 ((h 61 1) + 1) 2 = h42 ((h 61 1) + 1) 2 := jK 0 f62 (rg_T1_2_0_1 t186) (by first | decide | omega) (by first | decide | omega) (by decide)
                have q233 : h42 ((h 61 1) + 1) 2 = h ((h 61 1) + 1) 2 := jK 0 f44 (rg_T1_2_0_1 t186) (by first | decide | omega) (by first | decide | omega) (by decide)
                have e234 : rv h178 2 = (h ((h 61 1) + 1) 2) := (congrArg (fun z => svq h178 z 2) (((q226.trans q227).trans q228).trans q229)).trans (((q230.trans q231).trans q232).trans q233)
                have b235 := jB (e := 2) 0 hJ (rg_T3_2_0_1 t186) (by first | decide | omega) (by first | decide | omega)
                have e236 : rv h 3 = (h ((h 61 1) + 3) 2) := (congrArg (fun z => svq h z 3) rfl).trans rfl
                have q237 : h178 61 1 = h78 61 1 := f180 61 1 (by decide +kernel)
                have q238 : h78 61 1 = h60 61 1 := f80 61 1 (by decide +kernel)
                have q239 : h60 61 1 = h42 61 1 := f62 61 1 (by decide +kernel)
                have q240 : h42 61 1 = h 61 1 := f44 61 1 (by decide +kernel)
                have q241 : h178 ((h 61 1) + 3) 2 = h78 ((h 61 1) + 3) 2 := jK 0 f180 (rg_T3_2_0_1 t186) (by first | decide | omega) (by first | decide | omega) (by decide)
                have q242 : h78 ((h 61 1) + 3) 2 = h60 ((h 61 1) + 3) 2 := jK 0 f80 (rg_T3_2_0_1 t186) (by first | decide | omega) (by first | decide | omega) (by decide)
                have q243 : h60 ((h 61 1) + 3) 2 = h42 ((h 61 1) + 3) 2 := jK 0 f62 (rg_T3_2_0_1 t186) (by first | decide | omega) (by first | decide | omega) (by decide)
                have q244 : h42 ((h 61 1) + 3) 2 = h ((h 61 1) + 3) 2 := jK 0 f44 (rg_T3_2_0_1 t186) (by first | decide | omega) (by first | decide | omega) (by decide)
                have e245 : rv h178 3 = (h ((h 61 1) + 3) 2) := (congrArg (fun z => svq h178 z 3) (((q237.trans q238).trans q239).trans q240)).trans (((q241.trans q242).trans q243).trans q244)
                have b246 := jB (e := 2) 0 hJ (rg_T5_2_0_1 t186) (by first | decide | omega) (by first | decide | omega)
                have e247 : rv h 4 = (h ((h 61 1) + 5) 2) := (congrArg (fun z => svq h z 4) rfl).trans rfl
                have q248 : h178 61 1 = h78 61 1 := f180 61 1 (by decide +kernel)
                have q249 : h78 61 1 = h60 61 1 := f80 61 1 (by decide +kernel)
                have q250 : h60 61 1 = h42 61 1 := f62 61 1 (by decide +kernel)
                have q251 : h42 61 1 = h 61 1 := f44 61 1 (by decide +kernel)
                have q252 : h178 ((h 61 1) + 5) 2 = h78 ((h 61 1) + 5) 2 := jK 0 f180 (rg_T5_2_0_1 t186) (by first | decide | omega) (by first | decide | omega) (by decide)
                have q253 : h78 ((h 61 1) + 5) 2 = h60 ((h 61 1) + 5) 2 := jK 0 f80 (rg_T5_2_0_1 t186) (by first | decide | omega) (by first | decide | omega) (by decide)
                have q254 : h60 ((h 61 1) + 5) 2 = h42 ((h 61 1) + 5) 2 := jK 0 f62 (rg_T5_2_0_1 t186) (by first | decide | omega) (by first | decide | omega) (by decide)
                have q255 : h42 ((h 61 1) + 5) 2 = h ((h 61 1) + 5) 2 := jK 0 f44 (rg_T5_2_0_1 t186) (by first | decide | omega) (by first | decide | omega) (by decide)
                have e256 : rv h178 4 = (h ((h 61 1) + 5) 2) := (congrArg (fun z => svq h178 z 4) (((q248.trans q249).trans q250).trans q251)).trans (((q252.trans q253).trans q254).trans q255)
                have b257 := jB (e := 2) 0 hJ (rg_T7_2_0_1 t186) (by first | decide | omega) (by first | decide | omega)
                have e258 : rv h 5 = (h ((h 61 1) + 7) 2) := (congrArg (fun z => svq h z 5) rfl).trans rfl
                have q259 : h178 61 1 = h78 61 1 := f180 61 1 (by decide +kernel)
                have q260 : h78 61 1 = h60 61 1 := f80 61 1 (by decide +kernel)
                have q261 : h60 61 1 = h42 61 1 := f62 61 1 (by decide +kernel)
                have q262 : h42 61 1 = h 61 1 := f44 61 1 (by decide +kernel)
                have q263 : h178 ((h 61 1) + 7) 2 = h78 ((h 61 1) + 7) 2 := jK 0 f180 (rg_T7_2_0_1 t186) (by first | decide | omega) (by first | decide | omega) (by decide)
                have q264 : h78 ((h 61 1) + 7) 2 = h60 ((h 61 1) + 7) 2 := jK 0 f80 (rg_T7_2_0_1 t186) (by first | decide | omega) (by first | decide | omega) (by decide)
                have q265 : h60 ((h 61 1) + 7) 2 = h42 ((h 61 1) + 7) 2 := jK 0 f62 (rg_T7_2_0_1 t186) (by first | decide | omega) (by first | decide | omega) (by decide)
                have q266 : h42 ((h 61 1) + 7) 2 = h ((h 61 1) + 7) 2 := jK 0 f44 (rg_T7_2_0_1 t186) (by first | decide | omega) (by first | decide | omega) (by decide)
                have e267 : rv h178 5 = (h ((h 61 1) + 7) 2) := (congrArg (fun z => svq h178 z 5) (((q259.trans q260).trans q261).trans q262)).trans (((q263.trans q264).trans q265).trans q266)
                have w268 : ¬ Wd tB tN 0 (h 1 2) := by rw [show h 1 2 = h 1 2 from rfl]; exact (Is.no c6 (by first | decide | omega))
                have w269 : ¬ Wd tB tN 6 (h 1 2) := by rw [show h 1 2 = h 1 2 from rfl]; exact (Is.no c16 (by first | decide | omega))
                have w270 : ¬ Wd tB tN 8 (h 1 2) := by rw [show h 1 2 = h 1 2 from rfl]; exact (Is.no c25 (by first | decide | omega))
                have w271 : ¬ Wd tB tN 13 (h 1 2) := by rw [show h 1 2 = h 1 2 from rfl]; exact (Is.no c34 (by first | decide | omega))
                obtain ⟨w272, e273⟩ := Tk.no c48 (by first | decide | omega)
                have w274 : ¬ Wd tB tN 17 (h 1 2) := by rw [show h 1 2 = h 1 2 from rfl]; exact w272
                obtain ⟨w275, e276⟩ := Tk.no c66 (by first | decide | omega)
                have w277 : ¬ Wd tB tN 19 (h 1 2) := by rw [show h 1 2 = h42 1 2 from (show h42 1 2 = h 1 2 by first | decide | omega).symm]; exact w275
                obtain ⟨w278, e279⟩ := Tk.yes c84 (by first | decide | omega)
                have m280 : Ot (h 61 1) h h42 := Ot.fr Ot.refl f44 (by decide)
                have m281 : Ot (h 61 1) h h60 := Ot.fr m280 f62 (by decide)
                have m282 : Ot (h 61 1) h h78 := Ot.fr m281 f80 (by decide)
                have m283 : Ot (h 61 1) h h178 := Ot.fr m282 f180 (by decide)
                refine x_retI (np := 259) (x := 0) (by decide +kernel) (by decide) (Or.inr ⟨by decide +kernel, by first | decide | omega, by first | decide | omega⟩) ⟨_, rfl, (by decide), ?_⟩
                exact ⟨j179, f183, (by first | decide | omega), (by first | decide | omega), (by first | decide | omega), (l9_court w278 (show h60 1 2 = h 1 2 by first | decide | omega) e279 rfl c182 (by first | decide | omega) (by first | decide | omega) (fun z => absurd z (by first | decide | omega))), m283, (fun z => absurd z (by first | decide | omega))⟩
              have q185 : ¬ (v174 = 2147483648) := q185
              refine x_const (np := 254) (x := 9223372043297226753) (a := 2147483649) (by decide +kernel) (by decide) (by decide) ?_
              refine x_goto (np := 257) (x := 258) (by decide +kernel) ?_
              have t284 : tw (h 61 1) := hJ.2.2.2.2.1
              have b285 := jB (e := 7) 0 hJ (rg_T0_7_0_1 t284) (by first | decide | omega) (by first | decide | omega)
              have e286 : rv h 0 = (h (h 61 1) 7) := (congrArg (fun z => svq h z 0) rfl).trans rfl
              have q287 : h178 61 1 = h78 61 1 := f180 61 1 (by decide +kernel)
              have q288 : h78 61 1 = h60 61 1 := f80 61 1 (by decide +kernel)
              have q289 : h60 61 1 = h42 61 1 := f62 61 1 (by decide +kernel)
              have q290 : h42 61 1 = h 61 1 := f44 61 1 (by decide +kernel)
              have q291 : h178 (h 61 1) 7 = h78 (h 61 1) 7 := jK 0 f180 (rg_T0_7_0_1 t284) (by first | decide | omega) (by first | decide | omega) (by decide)
              have q292 : h78 (h 61 1) 7 = h60 (h 61 1) 7 := jK 0 f80 (rg_T0_7_0_1 t284) (by first | decide | omega) (by first | decide | omega) (by decide)
              have q293 : h60 (h 61 1) 7 = h42 (h 61 1) 7 := jK 0 f62 (rg_T0_7_0_1 t284) (by first | decide | omega) (by first | decide | omega) (by decide)
              have q294 : h42 (h 61 1) 7 = h (h 61 1) 7 := jK 0 f44 (rg_T0_7_0_1 t284) (by first | decide | omega) (by first | decide | omega) (by decide)
              have e295 : rv h178 0 = (h (h 61 1) 7) := (congrArg (fun z => svq h178 z 0) (((q287.trans q288).trans q289).trans q290)).trans (((q291.trans q292).trans q293).trans q294)
              have e296 : rv h 1 = (h (h 61 1) 8) := (congrArg (fun z => svq h z 1) rfl).trans rfl
              have q297 : h178 61 1 = h78 61 1 := f180 61 1 (by decide +kernel)
              have q298 : h78 61 1 = h60 61 1 := f80 61 1 (by decide +kernel)
              have q299 : h60 61 1 = h42 61 1 := f62 61 1 (by decide +kernel)
              have q300 : h42 61 1 = h 61 1 := f44 61 1 (by decide +kernel)
              have q301 : h178 (h 61 1) 8 = h78 (h 61 1) 8 := jK 0 f180 (rg_T0_8_0_1 t284) (by first | decide | omega) (by first | decide | omega) (by decide)
              have q302 : h78 (h 61 1) 8 = h60 (h 61 1) 8 := jK 0 f80 (rg_T0_8_0_1 t284) (by first | decide | omega) (by first | decide | omega) (by decide)
              have q303 : h60 (h 61 1) 8 = h42 (h 61 1) 8 := jK 0 f62 (rg_T0_8_0_1 t284) (by first | decide | omega) (by first | decide | omega) (by decide)
              have q304 : h42 (h 61 1) 8 = h (h 61 1) 8 := jK 0 f44 (rg_T0_8_0_1 t284) (by first | decide | omega) (by first | decide | omega) (by decide)
              have e305 : rv h178 1 = (h (h 61 1) 8) := (congrArg (fun z => svq h178 z 1) (((q297.trans q298).trans q299).trans q300)).trans (((q301.trans q302).trans q303).trans q304)
              have q306 : h178 61 1 = h78 61 1 := f180 61 1 (by decide +kernel)
              have q307 : h78 61 1 = h60 61 1 := f80 61 1 (by decide +kernel)
              have q308 : h60 61 1 = h42 61 1 := f62 61 1 (by decide +kernel)
              have q309 : h42 61 1 = h 61 1 := f44 61 1 (by decide +kernel)
              have q310 : h178 (h 61 1) 7 = h78 (h 61 1) 7 := jK 0 f180 (rg_T0_7_0_1 t284) (by first | decide | omega) (by first | decide | omega) (by decide)
              have q311 : h78 (h 61 1) 7 = h60 (h 61 1) 7 := jK 0 f80 (rg_T0_7_0_1 t284) (by first | decide | omega) (by first | decide | omega) (by decide)
              have q312 : h60 (h 61 1) 7 = h42 (h 61 1) 7 := jK 0 f62 (rg_T0_7_0_1 t284) (by first | decide | omega) (by first | decide | omega) (by decide)
              have q313 : h42 (h 61 1) 7 = h (h 61 1) 7 := jK 0 f44 (rg_T0_7_0_1 t284) (by first | decide | omega) (by first | decide | omega) (by decide)
              have q314 : h178 61 1 = h78 61 1 := f180 61 1 (by decide +kernel)
              have q315 : h78 61 1 = h60 61 1 := f80 61 1 (by decide +kernel)
              have q316 : h60 61 1 = h42 61 1 := f62 61 1 (by decide +kernel)
              have q317 : h42 61 1 = h 61 1 := f44 61 1 (by decide +kernel)
              have q318 : h178 (h 61 1) 8 = h78 (h 61 1) 8 := jK 0 f180 (rg_T0_8_0_1 t284) (by first | decide | omega) (by first | decide | omega) (by decide)
              have q319 : h78 (h 61 1) 8 = h60 (h 61 1) 8 := jK 0 f80 (rg_T0_8_0_1 t284) (by first | decide | omega) (by first | decide | omega) (by decide)
              have q320 : h60 (h 61 1) 8 = h42 (h 61 1) 8 := jK 0 f62 (rg_T0_8_0_1 t284) (by first | decide | omega) (by first | decide | omega) (by decide)
              have q321 : h42 (h 61 1) 8 = h (h 61 1) 8 := jK 0 f44 (rg_T0_8_0_1 t284) (by first | decide | omega) (by first | decide | omega) (by decide)
              have b322 := jB (e := 2) 0 hJ (rg_T1_2_0_1 t284) (by first | decide | omega) (by first | decide | omega)
              have e323 : rv h 2 = (h ((h 61 1) + 1) 2) := (congrArg (fun z => svq h z 2) rfl).trans rfl
              have q324 : h178 61 1 = h78 61 1 := f180 61 1 (by decide +kernel)
              have q325 : h78 61 1 = h60 61 1 := f80 61 1 (by decide +kernel)
              have q326 : h60 61 1 = h42 61 1 := f62 61 1 (by decide +kernel)
              have q327 : h42 61 1 = h 61 1 := f44 61 1 (by decide +kernel)
              have q328 : h178 ((h 61 1) + 1) 2 = h78 ((h 61 1) + 1) 2 := jK 0 f180 (rg_T1_2_0_1 t284) (by first | decide | omega) (by first | decide | omega) (by decide)
              have q329 : h78 ((h 61 1) + 1) 2 = h60 ((h 61 1) + 1) 2 := jK 0 f80 (rg_T1_2_0_1 t284) (by first | decide | omega) (by first | decide | omega) (by decide)
              have q330 : h60 ((h 61 1) + 1) 2 = h42 ((h 61 1) + 1) 2 := jK 0 f62 (rg_T1_2_0_1 t284) (by first | decide | omega) (by first | decide | omega) (by decide)
              have q331 : h42 ((h 61 1) + 1) 2 = h ((h 61 1) + 1) 2 := jK 0 f44 (rg_T1_2_0_1 t284) (by first | decide | omega) (by first | decide | omega) (by decide)
              have e332 : rv h178 2 = (h ((h 61 1) + 1) 2) := (congrArg (fun z => svq h178 z 2) (((q324.trans q325).trans q326).trans q327)).trans (((q328.trans q329).trans q330).trans q331)
              have b333 := jB (e := 2) 0 hJ (rg_T3_2_0_1 t284) (by first | decide | omega) (by first | decide | omega)
              have e334 : rv h 3 = (h ((h 61 1) + 3) 2) := (congrArg (fun z => svq h z 3) rfl).trans rfl
              have q335 : h178 61 1 = h78 61 1 := f180 61 1 (by decide +kernel)
              have q336 : h78 61 1 = h60 61 1 := f80 61 1 (by decide +kernel)
              have q337 : h60 61 1 = h42 61 1 := f62 61 1 (by decide +kernel)
              have q338 : h42 61 1 = h 61 1 := f44 61 1 (by decide +kernel)
              have q339 : h178 ((h 61 1) + 3) 2 = h78 ((h 61 1) + 3) 2 := jK 0 f180 (rg_T3_2_0_1 t284) (by first | decide | omega) (by first | decide | omega) (by decide)
              have q340 : h78 ((h 61 1) + 3) 2 = h60 ((h 61 1) + 3) 2 := jK 0 f80 (rg_T3_2_0_1 t284) (by first | decide | omega) (by first | decide | omega) (by decide)
              have q341 : h60 ((h 61 1) + 3) 2 = h42 ((h 61 1) + 3) 2 := jK 0 f62 (rg_T3_2_0_1 t284) (by first | decide | omega) (by first | decide | omega) (by decide)
              have q342 : h42 ((h 61 1) + 3) 2 = h ((h 61 1) + 3) 2 := jK 0 f44 (rg_T3_2_0_1 t284) (by first | decide | omega) (by first | decide | omega) (by decide)
              have e343 : rv h178 3 = (h ((h 61 1) + 3) 2) := (congrArg (fun z => svq h178 z 3) (((q335.trans q336).trans q337).trans q338)).trans (((q339.trans q340).trans q341).trans q342)
              have b344 := jB (e := 2) 0 hJ (rg_T5_2_0_1 t284) (by first | decide | omega) (by first | decide | omega)
              have e345 : rv h 4 = (h ((h 61 1) + 5) 2) := (congrArg (fun z => svq h z 4) rfl).trans rfl
              have q346 : h178 61 1 = h78 61 1 := f180 61 1 (by decide +kernel)
              have q347 : h78 61 1 = h60 61 1 := f80 61 1 (by decide +kernel)
              have q348 : h60 61 1 = h42 61 1 := f62 61 1 (by decide +kernel)
              have q349 : h42 61 1 = h 61 1 := f44 61 1 (by decide +kernel)
              have q350 : h178 ((h 61 1) + 5) 2 = h78 ((h 61 1) + 5) 2 := jK 0 f180 (rg_T5_2_0_1 t284) (by first | decide | omega) (by first | decide | omega) (by decide)
              have q351 : h78 ((h 61 1) + 5) 2 = h60 ((h 61 1) + 5) 2 := jK 0 f80 (rg_T5_2_0_1 t284) (by first | decide | omega) (by first | decide | omega) (by decide)
              have q352 : h60 ((h 61 1) + 5) 2 = h42 ((h 61 1) + 5) 2 := jK 0 f62 (rg_T5_2_0_1 t284) (by first | decide | omega) (by first | decide | omega) (by decide)
              have q353 : h42 ((h 61 1) + 5) 2 = h ((h 61 1) + 5) 2 := jK 0 f44 (rg_T5_2_0_1 t284) (by first | decide | omega) (by first | decide | omega) (by decide)
              have e354 : rv h178 4 = (h ((h 61 1) + 5) 2) := (congrArg (fun z => svq h178 z 4) (((q346.trans q347).trans q348).trans q349)).trans (((q350.trans q351).trans q352).trans q353)
              have b355 := jB (e := 2) 0 hJ (rg_T7_2_0_1 t284) (by first | decide | omega) (by first | decide | omega)
              have e356 : rv h 5 = (h ((h 61 1) + 7) 2) := (congrArg (fun z => svq h z 5) rfl).trans rfl
              have q357 : h178 61 1 = h78 61 1 := f180 61 1 (by decide +kernel)
              have q358 : h78 61 1 = h60 61 1 := f80 61 1 (by decide +kernel)
              have q359 : h60 61 1 = h42 61 1 := f62 61 1 (by decide +kernel)
              have q360 : h42 61 1 = h 61 1 := f44 61 1 (by decide +kernel)
              have q361 : h178 ((h 61 1) + 7) 2 = h78 ((h 61 1) + 7) 2 := jK 0 f180 (rg_T7_2_0_1 t284) (by first | decide | omega) (by first | decide | omega) (by decide)
              have q362 : h78 ((h 61 1) + 7) 2 = h60 ((h 61 1) + 7) 2 := jK 0 f80 (rg_T7_2_0_1 t284) (by first | decide | omega) (by first | decide | omega) (by decide)
              have q363 : h60 ((h 61 1) + 7) 2 = h42 ((h 61 1) + 7) 2 := jK 0 f62 (rg_T7_2_0_1 t284) (by first | decide | omega) (by first | decide | omega) (by decide)
              have q364 : h42 ((h 61 1) + 7) 2 = h ((h 61 1) + 7) 2 := jK 0 f44 (rg_T7_2_0_1 t284) (by first | decide | omega) (by first | decide | omega) (by decide)
              have e365 : rv h178 5 = (h ((h 61 1) + 7) 2) := (congrArg (fun z => svq h178 z 5) (((q357.trans q358).trans q359).trans q360)).trans (((q361.trans q362).trans q363).trans q364)
              have w366 : ¬ Wd tB tN 0 (h 1 2) := by rw [show h 1 2 = h 1 2 from rfl]; exact (Is.no c6 (by first | decide | omega))
              have w367 : ¬ Wd tB tN 6 (h 1 2) := by rw [show h 1 2 = h 1 2 from rfl]; exact (Is.no c16 (by first | decide | omega))
              have w368 : ¬ Wd tB tN 8 (h 1 2) := by rw [show h 1 2 = h 1 2 from rfl]; exact (Is.no c25 (by first | decide | omega))
              have w369 : ¬ Wd tB tN 13 (h 1 2) := by rw [show h 1 2 = h 1 2 from rfl]; exact (Is.no c34 (by first | decide | omega))
              obtain ⟨w370, e371⟩ := Tk.no c48 (by first | decide | omega)
              have w372 : ¬ Wd tB tN 17 (h 1 2) := by rw [show h 1 2 = h 1 2 from rfl]; exact w370
              obtain ⟨w373, e374⟩ := Tk.no c66 (by first | decide | omega)
              have w375 : ¬ Wd tB tN 19 (h 1 2) := by rw [show h 1 2 = h42 1 2 from (show h42 1 2 = h 1 2 by first | decide | omega).symm]; exact w373
              obtain ⟨w376, e377⟩ := Tk.yes c84 (by first | decide | omega)
              have m378 : Ot (h 61 1) h h42 := Ot.fr Ot.refl f44 (by decide)
              have m379 : Ot (h 61 1) h h60 := Ot.fr m378 f62 (by decide)
              have m380 : Ot (h 61 1) h h78 := Ot.fr m379 f80 (by decide)
              have m381 : Ot (h 61 1) h h178 := Ot.fr m380 f180 (by decide)
              have q382 : h178 61 1 = h78 61 1 := f180 61 1 (by decide +kernel)
              have q383 : h78 61 1 = h60 61 1 := f80 61 1 (by decide +kernel)
              have q384 : h60 61 1 = h42 61 1 := f62 61 1 (by decide +kernel)
              have q385 : h42 61 1 = h 61 1 := f44 61 1 (by decide +kernel)
              have q386 : h178 ((h 61 1) + 3) 2 = h78 ((h 61 1) + 3) 2 := jK 0 f180 (rg_T3_2_0_1 t284) (by first | decide | omega) (by first | decide | omega) (by decide)
              have q387 : h78 ((h 61 1) + 3) 2 = h60 ((h 61 1) + 3) 2 := jK 0 f80 (rg_T3_2_0_1 t284) (by first | decide | omega) (by first | decide | omega) (by decide)
              have q388 : h60 ((h 61 1) + 3) 2 = h42 ((h 61 1) + 3) 2 := jK 0 f62 (rg_T3_2_0_1 t284) (by first | decide | omega) (by first | decide | omega) (by decide)
              have q389 : h42 ((h 61 1) + 3) 2 = h ((h 61 1) + 3) 2 := jK 0 f44 (rg_T3_2_0_1 t284) (by first | decide | omega) (by first | decide | omega) (by decide)
              have m390 : ∀ u, u < 10 → wq h178 (h 61 1) u = wq h (h 61 1) u := fun u hu => (Eq.trans (wq_gr t284 f180 (by decide) u hu) (Eq.trans (wq_gr t284 f80 (by decide) u hu) (Eq.trans (wq_gr t284 f62 (by decide) u hu) (wq_gr t284 f44 (by decide) u hu))))
              refine x_retI (np := 259) (x := 0) (by decide +kernel) (by decide) (Or.inr ⟨by decide +kernel, by first | decide | omega, by first | decide | omega⟩) ⟨_, rfl, (by decide), ?_⟩
              exact ⟨j179, f183, (by first | decide | omega), (by first | decide | omega), (by first | decide | omega), (l9_court w376 (show h60 1 2 = h 1 2 by first | decide | omega) e377 rfl c182 (by first | decide | omega) (by first | decide | omega) (fun z => ⟨rfl, by first | decide | omega, by first | decide | omega, by first | decide | omega, by first | decide | omega⟩)), m381, (fun _ => Wl.refl (by first | decide | omega) m390)⟩
            have q71 : ¬ (v56 = 2147483648) := q71
            have b391 := c64 (by first | decide | omega)
            refine x_aload (np := 230) (x := 0) (by decide +kernel) rfl (x_nc_le (by decide)) ?_
            have m395 := Tp.fr m59 f62 (by decide) (by decide)
            refine x_cI (t := 6) (mj := 96) (n := 1) (rc := 10) (ml := 3) (nr := 0) (np := 233) (as := [x_r 61]) (rest := []) (lo1 := [x_r 61, 147573952589676412928, 147573952589676412928]) (by decide +kernel) (by decide) (by decide +kernel) (x_rb_of (by decide +kernel)) rfl rfl (x_wr (by decide) x_wn) x_wn (by decide) rfl (c96_61 j61  m395) (fun v392 h396 l393 q394 => ?_)
            obtain ⟨j397, f398, b399, c400, c401⟩ := q394
            have f402 := Fr.trans f67 f398 (by decide)
            have q403 : h60 61 1 = h42 61 1 := f62 61 1 (by decide +kernel)
            have q404 : h42 61 1 = h 61 1 := f44 61 1 (by decide +kernel)
            have t405 : tw (h 61 1) := hJ.2.2.2.2.1
            have b406 := jB (e := 7) 0 hJ (rg_T0_7_0_1 t405) (by first | decide | omega) (by first | decide | omega)
            have e407 : rv h 0 = (h (h 61 1) 7) := (congrArg (fun z => svq h z 0) rfl).trans rfl
            have q408 : h396 61 1 = h60 61 1 := f398 61 1 (by decide +kernel)
            have q409 : h60 61 1 = h42 61 1 := f62 61 1 (by decide +kernel)
            have q410 : h42 61 1 = h 61 1 := f44 61 1 (by decide +kernel)
            have q411 : h396 (h 61 1) 7 = h60 (h 61 1) 7 := jK 0 f398 (rg_T0_7_0_1 t405) (by first | decide | omega) (by first | decide | omega) (by decide)
            have q412 : h60 (h 61 1) 7 = h42 (h 61 1) 7 := jK 0 f62 (rg_T0_7_0_1 t405) (by first | decide | omega) (by first | decide | omega) (by decide)
            have q413 : h42 (h 61 1) 7 = h (h 61 1) 7 := jK 0 f44 (rg_T0_7_0_1 t405) (by first | decide | omega) (by first | decide | omega) (by decide)
            have e414 : rv h396 0 = (h (h 61 1) 7) := (congrArg (fun z => svq h396 z 0) ((q408.trans q409).trans q410)).trans ((q411.trans q412).trans q413)
            have e415 : rv h 1 = (h (h 61 1) 8) := (congrArg (fun z => svq h z 1) rfl).trans rfl
            have q416 : h396 61 1 = h60 61 1 := f398 61 1 (by decide +kernel)
            have q417 : h60 61 1 = h42 61 1 := f62 61 1 (by decide +kernel)
            have q418 : h42 61 1 = h 61 1 := f44 61 1 (by decide +kernel)
            have q419 : h396 (h 61 1) 8 = h60 (h 61 1) 8 := jK 0 f398 (rg_T0_8_0_1 t405) (by first | decide | omega) (by first | decide | omega) (by decide)
            have q420 : h60 (h 61 1) 8 = h42 (h 61 1) 8 := jK 0 f62 (rg_T0_8_0_1 t405) (by first | decide | omega) (by first | decide | omega) (by decide)
            have q421 : h42 (h 61 1) 8 = h (h 61 1) 8 := jK 0 f44 (rg_T0_8_0_1 t405) (by first | decide | omega) (by first | decide | omega) (by decide)
            have e422 : rv h396 1 = (h (h 61 1) 8) := (congrArg (fun z => svq h396 z 1) ((q416.trans q417).trans q418)).trans ((q419.trans q420).trans q421)
            have q423 : h396 61 1 = h60 61 1 := f398 61 1 (by decide +kernel)
            have q424 : h60 61 1 = h42 61 1 := f62 61 1 (by decide +kernel)
            have q425 : h42 61 1 = h 61 1 := f44 61 1 (by decide +kernel)
            have q426 : h396 (h 61 1) 7 = h60 (h 61 1) 7 := jK 0 f398 (rg_T0_7_0_1 t405) (by first | decide | omega) (by first | decide | omega) (by decide)
            have q427 : h60 (h 61 1) 7 = h42 (h 61 1) 7 := jK 0 f62 (rg_T0_7_0_1 t405) (by first | decide | omega) (by first | decide | omega) (by decide)
            have q428 : h42 (h 61 1) 7 = h (h 61 1) 7 := jK 0 f44 (rg_T0_7_0_1 t405) (by first | decide | omega) (by first | decide | omega) (by decide)
            have q429 : h396 61 1 = h60 61 1 := f398 61 1 (by decide +kernel)
            have q430 : h60 61 1 = h42 61 1 := f62 61 1 (by decide +kernel)
            have q431 : h42 61 1 = h 61 1 := f44 61 1 (by decide +kernel)
            have q432 : h396 (h 61 1) 8 = h60 (h 61 1) 8 := jK 0 f398 (rg_T0_8_0_1 t405) (by first | decide | omega) (by first | decide | omega) (by decide)
            have q433 : h60 (h 61 1) 8 = h42 (h 61 1) 8 := jK 0 f62 (rg_T0_8_0_1 t405) (by first | decide | omega) (by first | decide | omega) (by decide)
            have q434 : h42 (h 61 1) 8 = h (h 61 1) 8 := jK 0 f44 (rg_T0_8_0_1 t405) (by first | decide | omega) (by first | decide | omega) (by decide)
            have b435 := jB (e := 2) 0 hJ (rg_T1_2_0_1 t405) (by first | decide | omega) (by first | decide | omega)
            have e436 : rv h 2 = (h ((h 61 1) + 1) 2) := (congrArg (fun z => svq h z 2) rfl).trans rfl
            have q437 : h396 61 1 = h60 61 1 := f398 61 1 (by decide +kernel)
            have q438 : h60 61 1 = h42 61 1 := f62 61 1 (by decide +kernel)
            have q439 : h42 61 1 = h 61 1 := f44 61 1 (by decide +kernel)
            have q440 : h396 ((h 61 1) + 1) 2 = h60 ((h 61 1) + 1) 2 := jK 0 f398 (rg_T1_2_0_1 t405) (by first | decide | omega) (by first | decide | omega) (by decide)
            have q441 : h60 ((h 61 1) + 1) 2 = h42 ((h 61 1) + 1) 2 := jK 0 f62 (rg_T1_2_0_1 t405) (by first | decide | omega) (by first | decide | omega) (by decide)
            have q442 : h42 ((h 61 1) + 1) 2 = h ((h 61 1) + 1) 2 := jK 0 f44 (rg_T1_2_0_1 t405) (by first | decide | omega) (by first | decide | omega) (by decide)
            have e443 : rv h396 2 = (h ((h 61 1) + 1) 2) := (congrArg (fun z => svq h396 z 2) ((q437.trans q438).trans q439)).trans ((q440.trans q441).trans q442)
            have b444 := jB (e := 2) 0 hJ (rg_T3_2_0_1 t405) (by first | decide | omega) (by first | decide | omega)
            have e445 : rv h 3 = (h ((h 61 1) + 3) 2) := (congrArg (fun z => svq h z 3) rfl).trans rfl
            have q446 : h396 61 1 = h60 61 1 := f398 61 1 (by decide +kernel)
            have q447 : h60 61 1 = h42 61 1 := f62 61 1 (by decide +kernel)
            have q448 : h42 61 1 = h 61 1 := f44 61 1 (by decide +kernel)
            have q449 : h396 ((h 61 1) + 3) 2 = h60 ((h 61 1) + 3) 2 := jK 0 f398 (rg_T3_2_0_1 t405) (by first | decide | omega) (by first | decide | omega) (by decide)
            have q450 : h60 ((h 61 1) + 3) 2 = h42 ((h 61 1) + 3) 2 := jK 0 f62 (rg_T3_2_0_1 t405) (by first | decide | omega) (by first | decide | omega) (by decide)
            have q451 : h42 ((h 61 1) + 3) 2 = h ((h 61 1) + 3) 2 := jK 0 f44 (rg_T3_2_0_1 t405) (by first | decide | omega) (by first | decide | omega) (by decide)
            have e452 : rv h396 3 = (h ((h 61 1) + 3) 2) := (congrArg (fun z => svq h396 z 3) ((q446.trans q447).trans q448)).trans ((q449.trans q450).trans q451)
            have b453 := jB (e := 2) 0 hJ (rg_T5_2_0_1 t405) (by first | decide | omega) (by first | decide | omega)
            have e454 : rv h 4 = (h ((h 61 1) + 5) 2) := (congrArg (fun z => svq h z 4) rfl).trans rfl
            have q455 : h396 61 1 = h60 61 1 := f398 61 1 (by decide +kernel)
            have q456 : h60 61 1 = h42 61 1 := f62 61 1 (by decide +kernel)
            have q457 : h42 61 1 = h 61 1 := f44 61 1 (by decide +kernel)
            have q458 : h396 ((h 61 1) + 5) 2 = h60 ((h 61 1) + 5) 2 := jK 0 f398 (rg_T5_2_0_1 t405) (by first | decide | omega) (by first | decide | omega) (by decide)
            have q459 : h60 ((h 61 1) + 5) 2 = h42 ((h 61 1) + 5) 2 := jK 0 f62 (rg_T5_2_0_1 t405) (by first | decide | omega) (by first | decide | omega) (by decide)
            have q460 : h42 ((h 61 1) + 5) 2 = h ((h 61 1) + 5) 2 := jK 0 f44 (rg_T5_2_0_1 t405) (by first | decide | omega) (by first | decide | omega) (by decide)
            have e461 : rv h396 4 = (h ((h 61 1) + 5) 2) := (congrArg (fun z => svq h396 z 4) ((q455.trans q456).trans q457)).trans ((q458.trans q459).trans q460)
            have b462 := jB (e := 2) 0 hJ (rg_T7_2_0_1 t405) (by first | decide | omega) (by first | decide | omega)
            have e463 : rv h 5 = (h ((h 61 1) + 7) 2) := (congrArg (fun z => svq h z 5) rfl).trans rfl
            have q464 : h396 61 1 = h60 61 1 := f398 61 1 (by decide +kernel)
            have q465 : h60 61 1 = h42 61 1 := f62 61 1 (by decide +kernel)
            have q466 : h42 61 1 = h 61 1 := f44 61 1 (by decide +kernel)
            have q467 : h396 ((h 61 1) + 7) 2 = h60 ((h 61 1) + 7) 2 := jK 0 f398 (rg_T7_2_0_1 t405) (by first | decide | omega) (by first | decide | omega) (by decide)
            have q468 : h60 ((h 61 1) + 7) 2 = h42 ((h 61 1) + 7) 2 := jK 0 f62 (rg_T7_2_0_1 t405) (by first | decide | omega) (by first | decide | omega) (by decide)
            have q469 : h42 ((h 61 1) + 7) 2 = h ((h 61 1) + 7) 2 := jK 0 f44 (rg_T7_2_0_1 t405) (by first | decide | omega) (by first | decide | omega) (by decide)
            have e470 : rv h396 5 = (h ((h 61 1) + 7) 2) := (congrArg (fun z => svq h396 z 5) ((q464.trans q465).trans q466)).trans ((q467.trans q468).trans q469)
            have w471 : ¬ Wd tB tN 0 (h 1 2) := by rw [show h 1 2 = h 1 2 from rfl]; exact (Is.no c6 (by first | decide | omega))
            have w472 : ¬ Wd tB tN 6 (h 1 2) := by rw [show h 1 2 = h 1 2 from rfl]; exact (Is.no c16 (by first | decide | omega))
            have w473 : ¬ Wd tB tN 8 (h 1 2) := by rw [show h 1 2 = h 1 2 from rfl]; exact (Is.no c25 (by first | decide | omega))
            have w474 : ¬ Wd tB tN 13 (h 1 2) := by rw [show h 1 2 = h 1 2 from rfl]; exact (Is.no c34 (by first | decide | omega))
            obtain ⟨w475, e476⟩ := Tk.no c48 (by first | decide | omega)
            have w477 : ¬ Wd tB tN 17 (h 1 2) := by rw [show h 1 2 = h 1 2 from rfl]; exact w475
            obtain ⟨w478, e479⟩ := Tk.yes c66 (by first | decide | omega)
            have q480 : h60 61 1 = h42 61 1 := f62 61 1 (by decide +kernel)
            have q481 : h42 61 1 = h 61 1 := f44 61 1 (by decide +kernel)
            have q482 : h60 (h 61 1) 7 = h42 (h 61 1) 7 := jK 0 f62 (rg_T0_7_0_1 t405) (by first | decide | omega) (by first | decide | omega) (by decide)
            have q483 : h42 (h 61 1) 7 = h (h 61 1) 7 := jK 0 f44 (rg_T0_7_0_1 t405) (by first | decide | omega) (by first | decide | omega) (by decide)
            have e484 : rv h60 0 = (h (h 61 1) 7) := (congrArg (fun z => svq h60 z 0) (q480.trans q481)).trans (q482.trans q483)
            have k485 : dies9 tB tN (rv h 0) (h60 1 2) (rs v392 (h396 1 2)) := by rw [show rv h 0 = rv h60 0 by first | decide | omega]; exact c400
            have m486 : Ot (h 61 1) h h42 := Ot.fr Ot.refl f44 (by decide)
            have m487 : Ot (h 61 1) h h60 := Ot.fr m486 f62 (by decide)
            have m488 : Ot (h 61 1) h h396 := Ot.trans m487 (Ot.cast c401 (q403.trans q404))
            have q489 : h396 61 1 = h60 61 1 := f398 61 1 (by decide +kernel)
            have q490 : h60 61 1 = h42 61 1 := f62 61 1 (by decide +kernel)
            have q491 : h42 61 1 = h 61 1 := f44 61 1 (by decide +kernel)
            have q492 : h396 ((h 61 1) + 3) 2 = h60 ((h 61 1) + 3) 2 := jK 0 f398 (rg_T3_2_0_1 t405) (by first | decide | omega) (by first | decide | omega) (by decide)
            have q493 : h60 ((h 61 1) + 3) 2 = h42 ((h 61 1) + 3) 2 := jK 0 f62 (rg_T3_2_0_1 t405) (by first | decide | omega) (by first | decide | omega) (by decide)
            have q494 : h42 ((h 61 1) + 3) 2 = h ((h 61 1) + 3) 2 := jK 0 f44 (rg_T3_2_0_1 t405) (by first | decide | omega) (by first | decide | omega) (by decide)
            have m495 : ∀ u, u < 10 → wq h396 (h 61 1) u = wq h (h 61 1) u := fun u hu => (Eq.trans (wq_gr t405 f398 (by decide) u hu) (Eq.trans (wq_gr t405 f62 (by decide) u hu) (wq_gr t405 f44 (by decide) u hu)))
            refine x_retI (np := 234) (x := 0) (by decide +kernel) l393 (Or.inr ⟨by decide +kernel, by first | decide | omega, by first | decide | omega⟩) ⟨_, rfl, l393, ?_⟩
            exact ⟨j397, f402, (by first | decide | omega), (by first | decide | omega), (by first | decide | omega), (l9_dies w478 (show h42 1 2 = h 1 2 by first | decide | omega) e479 rfl k485 (by first | decide | omega) (by first | decide | omega) (fun z => ⟨rfl, by first | decide | omega, by first | decide | omega, by first | decide | omega, by first | decide | omega⟩)), m488, (fun _ => Wl.refl (by first | decide | omega) m495)⟩
          have q53 : ¬ (v39 = 2147483648) := q53
          have b496 := c46 (by first | decide | omega)
          refine x_aload (np := 213) (x := 0) (by decide +kernel) rfl (x_nc_le (by decide)) ?_
          have m500 := Tp.fr hT f44 (by decide) (by decide)
          refine x_cI (t := 6) (mj := 95) (n := 1) (rc := 10) (ml := 2) (nr := 0) (np := 216) (as := [x_r 61]) (rest := []) (lo1 := [x_r 61, 147573952589676412928]) (by decide +kernel) (by decide) (by decide +kernel) (x_rb_of (by decide +kernel)) rfl rfl (x_wr (by decide) x_wn) x_wn (by decide) rfl (c95_61 j43  m500) (fun v497 h501 l498 q499 => ?_)
          obtain ⟨j502, f503, b504, c505⟩ := q499
          have f506 := Fr.trans f49 f503 (by decide)
          have t507 : tw (h 61 1) := hJ.2.2.2.2.1
          have b508 := jB (e := 7) 0 hJ (rg_T0_7_0_1 t507) (by first | decide | omega) (by first | decide | omega)
          have e509 : rv h 0 = (h (h 61 1) 7) := (congrArg (fun z => svq h z 0) rfl).trans rfl
          have q510 : h501 61 1 = h42 61 1 := f503 61 1 (by decide +kernel)
          have q511 : h42 61 1 = h 61 1 := f44 61 1 (by decide +kernel)
          have q512 : h501 (h 61 1) 7 = h42 (h 61 1) 7 := jK 0 f503 (rg_T0_7_0_1 t507) (by first | decide | omega) (by first | decide | omega) (by decide)
          have q513 : h42 (h 61 1) 7 = h (h 61 1) 7 := jK 0 f44 (rg_T0_7_0_1 t507) (by first | decide | omega) (by first | decide | omega) (by decide)
          have e514 : rv h501 0 = (h (h 61 1) 7) := (congrArg (fun z => svq h501 z 0) (q510.trans q511)).trans (q512.trans q513)
          have e515 : rv h 1 = (h (h 61 1) 8) := (congrArg (fun z => svq h z 1) rfl).trans rfl
          have q516 : h501 61 1 = h42 61 1 := f503 61 1 (by decide +kernel)
          have q517 : h42 61 1 = h 61 1 := f44 61 1 (by decide +kernel)
          have q518 : h501 (h 61 1) 8 = h42 (h 61 1) 8 := jK 0 f503 (rg_T0_8_0_1 t507) (by first | decide | omega) (by first | decide | omega) (by decide)
          have q519 : h42 (h 61 1) 8 = h (h 61 1) 8 := jK 0 f44 (rg_T0_8_0_1 t507) (by first | decide | omega) (by first | decide | omega) (by decide)
          have e520 : rv h501 1 = (h (h 61 1) 8) := (congrArg (fun z => svq h501 z 1) (q516.trans q517)).trans (q518.trans q519)
          have q521 : h501 61 1 = h42 61 1 := f503 61 1 (by decide +kernel)
          have q522 : h42 61 1 = h 61 1 := f44 61 1 (by decide +kernel)
          have q523 : h501 (h 61 1) 7 = h42 (h 61 1) 7 := jK 0 f503 (rg_T0_7_0_1 t507) (by first | decide | omega) (by first | decide | omega) (by decide)
          have q524 : h42 (h 61 1) 7 = h (h 61 1) 7 := jK 0 f44 (rg_T0_7_0_1 t507) (by first | decide | omega) (by first | decide | omega) (by decide)
          have q525 : h501 61 1 = h42 61 1 := f503 61 1 (by decide +kernel)
          have q526 : h42 61 1 = h 61 1 := f44 61 1 (by decide +kernel)
          have q527 : h501 (h 61 1) 8 = h42 (h 61 1) 8 := jK 0 f503 (rg_T0_8_0_1 t507) (by first | decide | omega) (by first | decide | omega) (by decide)
          have q528 : h42 (h 61 1) 8 = h (h 61 1) 8 := jK 0 f44 (rg_T0_8_0_1 t507) (by first | decide | omega) (by first | decide | omega) (by decide)
          have b529 := jB (e := 2) 0 hJ (rg_T1_2_0_1 t507) (by first | decide | omega) (by first | decide | omega)
          have e530 : rv h 2 = (h ((h 61 1) + 1) 2) := (congrArg (fun z => svq h z 2) rfl).trans rfl
          have q531 : h501 61 1 = h42 61 1 := f503 61 1 (by decide +kernel)
          have q532 : h42 61 1 = h 61 1 := f44 61 1 (by decide +kernel)
          have q533 : h501 ((h 61 1) + 1) 2 = h42 ((h 61 1) + 1) 2 := jK 0 f503 (rg_T1_2_0_1 t507) (by first | decide | omega) (by first | decide | omega) (by decide)
          have q534 : h42 ((h 61 1) + 1) 2 = h ((h 61 1) + 1) 2 := jK 0 f44 (rg_T1_2_0_1 t507) (by first | decide | omega) (by first | decide | omega) (by decide)
          have e535 : rv h501 2 = (h ((h 61 1) + 1) 2) := (congrArg (fun z => svq h501 z 2) (q531.trans q532)).trans (q533.trans q534)
          have b536 := jB (e := 2) 0 hJ (rg_T3_2_0_1 t507) (by first | decide | omega) (by first | decide | omega)
          have e537 : rv h 3 = (h ((h 61 1) + 3) 2) := (congrArg (fun z => svq h z 3) rfl).trans rfl
          have q538 : h501 61 1 = h42 61 1 := f503 61 1 (by decide +kernel)
          have q539 : h42 61 1 = h 61 1 := f44 61 1 (by decide +kernel)
          have q540 : h501 ((h 61 1) + 3) 2 = h42 ((h 61 1) + 3) 2 := jK 0 f503 (rg_T3_2_0_1 t507) (by first | decide | omega) (by first | decide | omega) (by decide)
          have q541 : h42 ((h 61 1) + 3) 2 = h ((h 61 1) + 3) 2 := jK 0 f44 (rg_T3_2_0_1 t507) (by first | decide | omega) (by first | decide | omega) (by decide)
          have e542 : rv h501 3 = (h ((h 61 1) + 3) 2) := (congrArg (fun z => svq h501 z 3) (q538.trans q539)).trans (q540.trans q541)
          have b543 := jB (e := 2) 0 hJ (rg_T5_2_0_1 t507) (by first | decide | omega) (by first | decide | omega)
          have e544 : rv h 4 = (h ((h 61 1) + 5) 2) := (congrArg (fun z => svq h z 4) rfl).trans rfl
          have q545 : h501 61 1 = h42 61 1 := f503 61 1 (by decide +kernel)
          have q546 : h42 61 1 = h 61 1 := f44 61 1 (by decide +kernel)
          have q547 : h501 ((h 61 1) + 5) 2 = h42 ((h 61 1) + 5) 2 := jK 0 f503 (rg_T5_2_0_1 t507) (by first | decide | omega) (by first | decide | omega) (by decide)
          have q548 : h42 ((h 61 1) + 5) 2 = h ((h 61 1) + 5) 2 := jK 0 f44 (rg_T5_2_0_1 t507) (by first | decide | omega) (by first | decide | omega) (by decide)
          have e549 : rv h501 4 = (h ((h 61 1) + 5) 2) := (congrArg (fun z => svq h501 z 4) (q545.trans q546)).trans (q547.trans q548)
          have b550 := jB (e := 2) 0 hJ (rg_T7_2_0_1 t507) (by first | decide | omega) (by first | decide | omega)
          have e551 : rv h 5 = (h ((h 61 1) + 7) 2) := (congrArg (fun z => svq h z 5) rfl).trans rfl
          have q552 : h501 61 1 = h42 61 1 := f503 61 1 (by decide +kernel)
          have q553 : h42 61 1 = h 61 1 := f44 61 1 (by decide +kernel)
          have q554 : h501 ((h 61 1) + 7) 2 = h42 ((h 61 1) + 7) 2 := jK 0 f503 (rg_T7_2_0_1 t507) (by first | decide | omega) (by first | decide | omega) (by decide)
          have q555 : h42 ((h 61 1) + 7) 2 = h ((h 61 1) + 7) 2 := jK 0 f44 (rg_T7_2_0_1 t507) (by first | decide | omega) (by first | decide | omega) (by decide)
          have e556 : rv h501 5 = (h ((h 61 1) + 7) 2) := (congrArg (fun z => svq h501 z 5) (q552.trans q553)).trans (q554.trans q555)
          have w557 : ¬ Wd tB tN 0 (h 1 2) := by rw [show h 1 2 = h 1 2 from rfl]; exact (Is.no c6 (by first | decide | omega))
          have w558 : ¬ Wd tB tN 6 (h 1 2) := by rw [show h 1 2 = h 1 2 from rfl]; exact (Is.no c16 (by first | decide | omega))
          have w559 : ¬ Wd tB tN 8 (h 1 2) := by rw [show h 1 2 = h 1 2 from rfl]; exact (Is.no c25 (by first | decide | omega))
          have w560 : ¬ Wd tB tN 13 (h 1 2) := by rw [show h 1 2 = h 1 2 from rfl]; exact (Is.no c34 (by first | decide | omega))
          obtain ⟨w561, e562⟩ := Tk.yes c48 (by first | decide | omega)
          have q563 : h42 61 1 = h 61 1 := f44 61 1 (by decide +kernel)
          have q564 : h42 ((h 61 1) + 1) 2 = h ((h 61 1) + 1) 2 := jK 0 f44 (rg_T1_2_0_1 t507) (by first | decide | omega) (by first | decide | omega) (by decide)
          have e565 : rv h42 2 = (h ((h 61 1) + 1) 2) := (congrArg (fun z => svq h42 z 2) q563).trans q564
          have k566 : late9 tB tN (rv h 2) (h42 1 2) (rs v497 (h501 1 2)) := by rw [show rv h 2 = rv h42 2 by first | decide | omega]; exact c505
          have m567 : Ot (h 61 1) h h42 := Ot.fr Ot.refl f44 (by decide)
          have m568 : Ot (h 61 1) h h501 := Ot.fr m567 f503 (by decide)
          have q569 : h501 61 1 = h42 61 1 := f503 61 1 (by decide +kernel)
          have q570 : h42 61 1 = h 61 1 := f44 61 1 (by decide +kernel)
          have q571 : h501 ((h 61 1) + 3) 2 = h42 ((h 61 1) + 3) 2 := jK 0 f503 (rg_T3_2_0_1 t507) (by first | decide | omega) (by first | decide | omega) (by decide)
          have q572 : h42 ((h 61 1) + 3) 2 = h ((h 61 1) + 3) 2 := jK 0 f44 (rg_T3_2_0_1 t507) (by first | decide | omega) (by first | decide | omega) (by decide)
          have m573 : ∀ u, u < 10 → wq h501 (h 61 1) u = wq h (h 61 1) u := fun u hu => (Eq.trans (wq_gr t507 f503 (by decide) u hu) (wq_gr t507 f44 (by decide) u hu))
          refine x_retI (np := 217) (x := 0) (by decide +kernel) l498 (Or.inr ⟨by decide +kernel, by first | decide | omega, by first | decide | omega⟩) ⟨_, rfl, l498, ?_⟩
          exact ⟨j502, f506, (by first | decide | omega), (by first | decide | omega), (by first | decide | omega), (l9_late w561 rfl e562 rfl k566 (by first | decide | omega) (by first | decide | omega) (fun z => ⟨rfl, by first | decide | omega, by first | decide | omega, by first | decide | omega, by first | decide | omega⟩)), m568, (fun _ => Wl.refl (by first | decide | omega) m573)⟩
        have q37 : ¬ (v30 = 2147483648) := q37
        have b574 := c33 (by first | decide | omega)
        refine x_aload (np := 163) (x := 0) (by decide +kernel) rfl (x_nc_le (by decide)) ?_
        have t575 : tw (h 61 1) := hJ.2.2.2.2.1
        refine x_getR (np := 166) (x := 577) (f := 1) (q := (h 61 1)) (by decide +kernel) (by decide) (by decide +kernel) rfl ?_
        have q576 : h (h 61 1) 3 = ((h 61 1) + 7) := tf_0_3 hJ t575
        refine x_getR (np := 169) (x := 515) (f := 3) (q := ((h 61 1) + 7)) (by decide +kernel) (by decide) (tg_0_515_3_1 t575) q576 ?_
        refine x_nI (t := 6) (mj := 66) (n := 1) (rc := 7) (ml := 1) (nr := 0) (np := 172) (as := [x_r ((h 61 1) + 7)]) (rest := []) (lo1 := [x_r ((h 61 1) + 7)]) (by decide +kernel) (by decide) (by decide +kernel) (x_rb_of (tr_7_7 t575)) rfl rfl (x_wr (tn_7 t575) x_wn) x_wn (by decide) rfl ?_
        refine x_aload (np := 1) (x := 0) (by decide +kernel) rfl (x_nc_le (tn_7 t575)) ?_
        have b577 := jB (e := 2) 0 hJ (rg_T7_2_0_1 t575) (by first | decide | omega) (by first | decide | omega)
        refine x_getC (np := 4) (x := 386) (f := 2) (q := (h ((h 61 1) + 7) 2)) (by decide +kernel) (by decide) (tg_7_386_2_0 t575) rfl (fun l578 => ?_)
        refine x_const (np := 5) (x := 9223372043297226753) (a := 2147483649) (by decide +kernel) (by decide) (by decide) ?_
        refine x_iadd (np := 6) (x := 0) (v := (1 + (h ((h 61 1) + 7) 2))) (by decide +kernel) l578 (by decide) (by first | decide | omega) (by first | decide | omega) ?_
        refine x_aload (np := 7) (x := 0) (by decide +kernel) rfl (x_nc_le (tn_7 t575)) ?_
        have b579 := jB (e := 0) 0 hJ (rg_T7_0_0_1 t575) (by first | decide | omega) (by first | decide | omega)
        have q580 : (h ((h 61 1) + 7) 0) = 2147483652 := by first | decide | omega
        refine x_getC (np := 10) (x := 384) (f := 0) (q := 2147483652) (by decide +kernel) (by decide) (tg_7_384_0_0 t575) q580 (fun l581 => ?_)
        obtain ⟨u582, q583⟩ : ∃ z, (h ((h 61 1) + 7) 2) = 2147483648 + z := ⟨(h ((h 61 1) + 7) 2) - 2147483648, by first | decide | omega⟩
        refine x_imul (np := 11) (x := 0) (i := (1 + u582)) (j := 4) (v := (2147483652 + 4 * u582)) (by decide +kernel) (by first | decide | omega) (by first | decide | omega) (by first | decide | omega) (by first | decide | omega) (by first | decide | omega) (by decide) ?_
        refine x_aload (np := 12) (x := 0) (by decide +kernel) rfl (x_nc_le (tn_7 t575)) ?_
        have q585 : h ((h 61 1) + 7) 1 = ((h 61 1) + 8) := tf_7_1 hJ t575
        refine x_getR (np := 15) (x := 385) (f := 1) (q := ((h 61 1) + 8)) (by decide +kernel) (by decide) (tg_7_385_1_1 t575) q585 ?_
        refine x_alen (np := 16) (x := 0) (n := 40) (by decide +kernel) (tn_8 t575) (tl_8 t575).1 (tl_8 t575).2 (by decide) ?_
        show X _ _ _ _ _ _ _ _ [iv_c 2147483688, iv_c (2147483652 + 4 * u582)] _
        refine x_icmp (k := 5) (tg := 23) (np := 19) (by decide +kernel) (by decide) (by first | decide | omega) (by decide) (fun q586 => ?_) (fun q587 => ?_)
        · have q586 : (2147483652 + 4 * u582) ≤ 2147483688 := q586
          refine x_const (np := 24) (x := 9223372039002259456) (a := 2147483648) (by decide +kernel) (by decide) (by decide) ?_
          refine x_retI (np := 25) (x := 0) (by decide +kernel) (by decide) (Or.inr ⟨by decide +kernel, by first | decide | omega, by first | decide | omega⟩) ⟨_, rfl, (by decide), ?_⟩
          refine x_ifz (k := 1) (tg := 198) (np := 175) (by decide +kernel) (by decide) (by decide) (fun q588 => ?_) (fun q589 => ?_)
          · have q588 : 2147483648 ≠ 2147483648 := q588
            exfalso; omega
          have q589 : ¬ (2147483648 ≠ 2147483648) := q589
          refine x_aload (np := 176) (x := 0) (by decide +kernel) rfl (x_nc_le (by decide)) ?_
          have q590 : h 61 0 = 1 := by have z := jB (e := 0) 0 hJ rg_61_0_0_1 (by decide) (by decide); omega
          refine x_getR (np := 179) (x := 576) (f := 0) (q := 1) (by decide +kernel) (by decide) (by decide +kernel) q590 ?_
          refine x_ldcB (i := 13) (idx := 74) (tx := "seen") (by rw [tb_y93]; exact List.mem_of_getElem? (i := 13) rfl) (by decide) (by rw [tb_b93]; decide +kernel) ?_
          refine x_cI (t := 6) (mj := 78) (n := 2) (rc := 8) (ml := 2) (nr := 0) (np := 184) (as := [x_r 1, x_b (13 + 1)]) (rest := []) (lo1 := [x_r 1, x_b (13 + 1)]) (by decide +kernel) (by decide) (by decide +kernel) (x_rb_of (by decide +kernel)) rfl rfl (x_wr (by decide) (x_wB (by decide) x_wn)) x_wn (by decide) rfl (c78_1_S0 hJ  (by decide) hT) (fun v591 h594 l592 q593 => ?_)
          obtain ⟨j595, f596, b597, c598, c599, c600⟩ := q593
          have f601 := Fr.trans hF f596 (by decide)
          have b602 := jB (e := 2) 0 j595 rg_1_2_0_1 (by first | decide | omega) (by first | decide | omega)
          have b603 : iv_tl 13 = 4 := by decide
          refine x_ifz (k := 0) (tg := 198) (np := 187) (by decide +kernel) (by decide) l592 (fun q604 => ?_) (fun q605 => ?_)
          · have q604 : v591 = 2147483648 := q604
            have b606 := c599 (by first | decide | omega)
            refine x_const (np := 199) (x := 9223372039002259456) (a := 2147483648) (by decide +kernel) (by decide) (by decide) ?_
            have b607 := jB (e := 7) 0 hJ (rg_T0_7_0_1 t575) (by first | decide | omega) (by first | decide | omega)
            have e608 : rv h 0 = (h (h 61 1) 7) := (congrArg (fun z => svq h z 0) rfl).trans rfl
            have q609 : h594 61 1 = h 61 1 := f596 61 1 (by decide +kernel)
            have q610 : h594 (h 61 1) 7 = h (h 61 1) 7 := jK 0 f596 (rg_T0_7_0_1 t575) (by first | decide | omega) (by first | decide | omega) (by decide)
            have e611 : rv h594 0 = (h (h 61 1) 7) := (congrArg (fun z => svq h594 z 0) q609).trans q610
            have e612 : rv h 1 = (h (h 61 1) 8) := (congrArg (fun z => svq h z 1) rfl).trans rfl
            have q613 : h594 61 1 = h 61 1 := f596 61 1 (by decide +kernel)
            have q614 : h594 (h 61 1) 8 = h (h 61 1) 8 := jK 0 f596 (rg_T0_8_0_1 t575) (by first | decide | omega) (by first | decide | omega) (by decide)
            have e615 : rv h594 1 = (h (h 61 1) 8) := (congrArg (fun z => svq h594 z 1) q613).trans q614
            have q616 : h594 61 1 = h 61 1 := f596 61 1 (by decide +kernel)
            have q617 : h594 (h 61 1) 7 = h (h 61 1) 7 := jK 0 f596 (rg_T0_7_0_1 t575) (by first | decide | omega) (by first | decide | omega) (by decide)
            have q618 : h594 61 1 = h 61 1 := f596 61 1 (by decide +kernel)
            have q619 : h594 (h 61 1) 8 = h (h 61 1) 8 := jK 0 f596 (rg_T0_8_0_1 t575) (by first | decide | omega) (by first | decide | omega) (by decide)
            have b620 := jB (e := 2) 0 hJ (rg_T1_2_0_1 t575) (by first | decide | omega) (by first | decide | omega)
            have e621 : rv h 2 = (h ((h 61 1) + 1) 2) := (congrArg (fun z => svq h z 2) rfl).trans rfl
            have q622 : h594 61 1 = h 61 1 := f596 61 1 (by decide +kernel)
            have q623 : h594 ((h 61 1) + 1) 2 = h ((h 61 1) + 1) 2 := jK 0 f596 (rg_T1_2_0_1 t575) (by first | decide | omega) (by first | decide | omega) (by decide)
            have e624 : rv h594 2 = (h ((h 61 1) + 1) 2) := (congrArg (fun z => svq h594 z 2) q622).trans q623
            have b625 := jB (e := 2) 0 hJ (rg_T3_2_0_1 t575) (by first | decide | omega) (by first | decide | omega)
            have e626 : rv h 3 = (h ((h 61 1) + 3) 2) := (congrArg (fun z => svq h z 3) rfl).trans rfl
            have q627 : h594 61 1 = h 61 1 := f596 61 1 (by decide +kernel)
            have q628 : h594 ((h 61 1) + 3) 2 = h ((h 61 1) + 3) 2 := jK 0 f596 (rg_T3_2_0_1 t575) (by first | decide | omega) (by first | decide | omega) (by decide)
            have e629 : rv h594 3 = (h ((h 61 1) + 3) 2) := (congrArg (fun z => svq h594 z 3) q627).trans q628
            have b630 := jB (e := 2) 0 hJ (rg_T5_2_0_1 t575) (by first | decide | omega) (by first | decide | omega)
            have e631 : rv h 4 = (h ((h 61 1) + 5) 2) := (congrArg (fun z => svq h z 4) rfl).trans rfl
            have q632 : h594 61 1 = h 61 1 := f596 61 1 (by decide +kernel)
            have q633 : h594 ((h 61 1) + 5) 2 = h ((h 61 1) + 5) 2 := jK 0 f596 (rg_T5_2_0_1 t575) (by first | decide | omega) (by first | decide | omega) (by decide)
            have e634 : rv h594 4 = (h ((h 61 1) + 5) 2) := (congrArg (fun z => svq h594 z 4) q632).trans q633
            have e635 : rv h 5 = (h ((h 61 1) + 7) 2) := (congrArg (fun z => svq h z 5) rfl).trans rfl
            have q636 : h594 61 1 = h 61 1 := f596 61 1 (by decide +kernel)
            have q637 : h594 ((h 61 1) + 7) 2 = h ((h 61 1) + 7) 2 := jK 0 f596 (rg_T7_2_0_1 t575) (by first | decide | omega) (by first | decide | omega) (by decide)
            have e638 : rv h594 5 = (h ((h 61 1) + 7) 2) := (congrArg (fun z => svq h594 z 5) q636).trans q637
            have w639 : ¬ Wd tB tN 0 (h 1 2) := by rw [show h 1 2 = h 1 2 from rfl]; exact (Is.no c6 (by first | decide | omega))
            have w640 : ¬ Wd tB tN 6 (h 1 2) := by rw [show h 1 2 = h 1 2 from rfl]; exact (Is.no c16 (by first | decide | omega))
            have w641 : ¬ Wd tB tN 8 (h 1 2) := by rw [show h 1 2 = h 1 2 from rfl]; exact (Is.no c25 (by first | decide | omega))
            obtain ⟨w642, e643⟩ := Tk.no c600 (by first | decide | omega)
            have m644 : Ot (h 61 1) h h594 := Ot.fr Ot.refl f596 (by decide)
            refine x_retI (np := 200) (x := 0) (by decide +kernel) (by decide) (Or.inr ⟨by decide +kernel, by first | decide | omega, by first | decide | omega⟩) ⟨_, rfl, (by decide), ?_⟩
            exact ⟨j595, f601, (by first | decide | omega), (by first | decide | omega), (by first | decide | omega), (absurd (Is.yes c34 (by first | decide | omega)) w642), m644, (fun z => absurd z (by first | decide | omega))⟩
          have q605 : ¬ (v591 = 2147483648) := q605
          have b645 := c598 (by first | decide | omega)
          refine x_aload (np := 188) (x := 0) (by decide +kernel) rfl (x_nc_le (by decide)) ?_
          have q646 : h594 61 1 = h 61 1 := f596 61 1 (by decide +kernel)
          have q647 : h594 ((h 61 1) + 7) 2 = h ((h 61 1) + 7) 2 := jK 0 f596 (rg_T7_2_0_1 t575) (by first | decide | omega) (by first | decide | omega) (by decide)
          have e648 : rv h594 5 = (h ((h 61 1) + 7) 2) := (congrArg (fun z => svq h594 z 5) q646).trans q647
          have m652 := Tp.fr hT f596 (by decide) (by decide)
          refine x_cI (t := 6) (mj := 100) (n := 1) (rc := 10) (ml := 2) (nr := 0) (np := 191) (as := [x_r 61]) (rest := []) (lo1 := [x_r 61, 147573952589676412928]) (by decide +kernel) (by decide) (by decide +kernel) (x_rb_of (by decide +kernel)) rfl rfl (x_wr (by decide) x_wn) x_wn (by decide) rfl (c100_61 j595  (by first | decide | omega) m652) (fun v649 h653 l650 q651 => ?_)
          obtain ⟨j654, f655, b656, c657, c658, c659, c660, c661, c662, c663, c664⟩ := q651
          have f665 := Fr.trans f601 f655 (by decide)
          have q666 : h594 61 1 = h 61 1 := f596 61 1 (by decide +kernel)
          have q667 : h594 (h 61 1) 7 = h (h 61 1) 7 := jK 0 f596 (rg_T0_7_0_1 t575) (by first | decide | omega) (by first | decide | omega) (by decide)
          have b668 := jB (e := 7) 0 hJ (rg_T0_7_0_1 t575) (by first | decide | omega) (by first | decide | omega)
          have e669 : rv h594 0 = (h (h 61 1) 7) := (congrArg (fun z => svq h594 z 0) q666).trans q667
          have q670 : h653 61 1 = h594 61 1 := f655 61 1 (by decide +kernel)
          have q671 : h594 61 1 = h 61 1 := f596 61 1 (by decide +kernel)
          have b672 := jB (e := 7) 0 j654 (rg_T0_7_0_1 t575) (by first | decide | omega) (by first | decide | omega)
          have e673 : rv h653 0 = (h653 (h 61 1) 7) := (congrArg (fun z => svq h653 z 0) (q670.trans q671)).trans rfl
          have q674 : h594 61 1 = h 61 1 := f596 61 1 (by decide +kernel)
          have q675 : h594 (h 61 1) 8 = h (h 61 1) 8 := jK 0 f596 (rg_T0_8_0_1 t575) (by first | decide | omega) (by first | decide | omega) (by decide)
          have e676 : rv h594 1 = (h (h 61 1) 8) := (congrArg (fun z => svq h594 z 1) q674).trans q675
          have q677 : h653 61 1 = h594 61 1 := f655 61 1 (by decide +kernel)
          have q678 : h594 61 1 = h 61 1 := f596 61 1 (by decide +kernel)
          have e679 : rv h653 1 = (h653 (h 61 1) 8) := (congrArg (fun z => svq h653 z 1) (q677.trans q678)).trans rfl
          have q680 : h594 61 1 = h 61 1 := f596 61 1 (by decide +kernel)
          have q681 : h594 ((h 61 1) + 1) 2 = h ((h 61 1) + 1) 2 := jK 0 f596 (rg_T1_2_0_1 t575) (by first | decide | omega) (by first | decide | omega) (by decide)
          have b682 := jB (e := 2) 0 hJ (rg_T1_2_0_1 t575) (by first | decide | omega) (by first | decide | omega)
          have e683 : rv h594 2 = (h ((h 61 1) + 1) 2) := (congrArg (fun z => svq h594 z 2) q680).trans q681
          have q684 : h653 61 1 = h594 61 1 := f655 61 1 (by decide +kernel)
          have q685 : h594 61 1 = h 61 1 := f596 61 1 (by decide +kernel)
          have b686 := jB (e := 2) 0 j654 (rg_T1_2_0_1 t575) (by first | decide | omega) (by first | decide | omega)
          have e687 : rv h653 2 = (h653 ((h 61 1) + 1) 2) := (congrArg (fun z => svq h653 z 2) (q684.trans q685)).trans rfl
          have q688 : h594 61 1 = h 61 1 := f596 61 1 (by decide +kernel)
          have q689 : h594 ((h 61 1) + 3) 2 = h ((h 61 1) + 3) 2 := jK 0 f596 (rg_T3_2_0_1 t575) (by first | decide | omega) (by first | decide | omega) (by decide)
          have b690 := jB (e := 2) 0 hJ (rg_T3_2_0_1 t575) (by first | decide | omega) (by first | decide | omega)
          have e691 : rv h594 3 = (h ((h 61 1) + 3) 2) := (congrArg (fun z => svq h594 z 3) q688).trans q689
          have q692 : h653 61 1 = h594 61 1 := f655 61 1 (by decide +kernel)
          have q693 : h594 61 1 = h 61 1 := f596 61 1 (by decide +kernel)
          have b694 := jB (e := 2) 0 j654 (rg_T3_2_0_1 t575) (by first | decide | omega) (by first | decide | omega)
          have e695 : rv h653 3 = (h653 ((h 61 1) + 3) 2) := (congrArg (fun z => svq h653 z 3) (q692.trans q693)).trans rfl
          have q696 : h594 61 1 = h 61 1 := f596 61 1 (by decide +kernel)
          have q697 : h594 ((h 61 1) + 5) 2 = h ((h 61 1) + 5) 2 := jK 0 f596 (rg_T5_2_0_1 t575) (by first | decide | omega) (by first | decide | omega) (by decide)
          have b698 := jB (e := 2) 0 hJ (rg_T5_2_0_1 t575) (by first | decide | omega) (by first | decide | omega)
          have e699 : rv h594 4 = (h ((h 61 1) + 5) 2) := (congrArg (fun z => svq h594 z 4) q696).trans q697
          have q700 : h653 61 1 = h594 61 1 := f655 61 1 (by decide +kernel)
          have q701 : h594 61 1 = h 61 1 := f596 61 1 (by decide +kernel)
          have b702 := jB (e := 2) 0 j654 (rg_T5_2_0_1 t575) (by first | decide | omega) (by first | decide | omega)
          have e703 : rv h653 4 = (h653 ((h 61 1) + 5) 2) := (congrArg (fun z => svq h653 z 4) (q700.trans q701)).trans rfl
          have q704 : h594 61 1 = h 61 1 := f596 61 1 (by decide +kernel)
          have q705 : h594 ((h 61 1) + 7) 2 = h ((h 61 1) + 7) 2 := jK 0 f596 (rg_T7_2_0_1 t575) (by first | decide | omega) (by first | decide | omega) (by decide)
          have q706 : h653 61 1 = h594 61 1 := f655 61 1 (by decide +kernel)
          have q707 : h594 61 1 = h 61 1 := f596 61 1 (by decide +kernel)
          have b708 := jB (e := 2) 0 j654 (rg_T7_2_0_1 t575) (by first | decide | omega) (by first | decide | omega)
          have e709 : rv h653 5 = (h653 ((h 61 1) + 7) 2) := (congrArg (fun z => svq h653 z 5) (q706.trans q707)).trans rfl
          have q710 : h594 61 1 = h 61 1 := f596 61 1 (by decide +kernel)
          refine x_ifz (k := 0) (tg := 198) (np := 194) (by decide +kernel) (by decide) l650 (fun q711 => ?_) (fun q712 => ?_)
          · have q711 : v649 = 2147483648 := q711
            refine x_const (np := 199) (x := 9223372039002259456) (a := 2147483648) (by decide +kernel) (by decide) (by decide) ?_
            have e713 : rv h 0 = (h (h 61 1) 7) := (congrArg (fun z => svq h z 0) rfl).trans rfl
            have q714 : h653 61 1 = h594 61 1 := f655 61 1 (by decide +kernel)
            have q715 : h594 61 1 = h 61 1 := f596 61 1 (by decide +kernel)
            have e716 : rv h 1 = (h (h 61 1) 8) := (congrArg (fun z => svq h z 1) rfl).trans rfl
            have q717 : h653 61 1 = h594 61 1 := f655 61 1 (by decide +kernel)
            have q718 : h594 61 1 = h 61 1 := f596 61 1 (by decide +kernel)
            have q719 : h653 61 1 = h594 61 1 := f655 61 1 (by decide +kernel)
            have q720 : h594 61 1 = h 61 1 := f596 61 1 (by decide +kernel)
            have q721 : h653 61 1 = h594 61 1 := f655 61 1 (by decide +kernel)
            have q722 : h594 61 1 = h 61 1 := f596 61 1 (by decide +kernel)
            have e723 : rv h 2 = (h ((h 61 1) + 1) 2) := (congrArg (fun z => svq h z 2) rfl).trans rfl
            have q724 : h653 61 1 = h594 61 1 := f655 61 1 (by decide +kernel)
            have q725 : h594 61 1 = h 61 1 := f596 61 1 (by decide +kernel)
            have e726 : rv h 3 = (h ((h 61 1) + 3) 2) := (congrArg (fun z => svq h z 3) rfl).trans rfl
            have q727 : h653 61 1 = h594 61 1 := f655 61 1 (by decide +kernel)
            have q728 : h594 61 1 = h 61 1 := f596 61 1 (by decide +kernel)
            have e729 : rv h 4 = (h ((h 61 1) + 5) 2) := (congrArg (fun z => svq h z 4) rfl).trans rfl
            have q730 : h653 61 1 = h594 61 1 := f655 61 1 (by decide +kernel)
            have q731 : h594 61 1 = h 61 1 := f596 61 1 (by decide +kernel)
            have e732 : rv h 5 = (h ((h 61 1) + 7) 2) := (congrArg (fun z => svq h z 5) rfl).trans rfl
            have q733 : h653 61 1 = h594 61 1 := f655 61 1 (by decide +kernel)
            have q734 : h594 61 1 = h 61 1 := f596 61 1 (by decide +kernel)
            have w735 : ¬ Wd tB tN 0 (h 1 2) := by rw [show h 1 2 = h 1 2 from rfl]; exact (Is.no c6 (by first | decide | omega))
            have w736 : ¬ Wd tB tN 6 (h 1 2) := by rw [show h 1 2 = h 1 2 from rfl]; exact (Is.no c16 (by first | decide | omega))
            have w737 : ¬ Wd tB tN 8 (h 1 2) := by rw [show h 1 2 = h 1 2 from rfl]; exact (Is.no c25 (by first | decide | omega))
            obtain ⟨w738, e739⟩ := Tk.yes c600 (by first | decide | omega)
            have q740 : h594 61 1 = h 61 1 := f596 61 1 (by decide +kernel)
            have q741 : h594 (h 61 1) 7 = h (h 61 1) 7 := jK 0 f596 (rg_T0_7_0_1 t575) (by first | decide | omega) (by first | decide | omega) (by decide)
            have k742 : seen9 tB tN (rv h 0) (h594 1 2) (rs v649 (h653 1 2)) := by rw [show rv h 0 = rv h594 0 by first | decide | omega]; exact c663
            have m743 : Ot (h 61 1) h h594 := Ot.fr Ot.refl f596 (by decide)
            have m744 : Ot (h 61 1) h h653 := Ot.trans m743 (Ot.cast c664 q710)
            refine x_retI (np := 200) (x := 0) (by decide +kernel) (by decide) (Or.inr ⟨by decide +kernel, by first | decide | omega, by first | decide | omega⟩) ⟨_, rfl, (by decide), ?_⟩
            exact ⟨j654, f665, (by first | decide | omega), (by first | decide | omega), (by first | decide | omega), (l9_seen w738 rfl (by first | decide | omega) e739 rfl k742 (by first | decide | omega) (by first | decide | omega) (fun z => absurd z (by first | decide | omega))), m744, (fun z => absurd z (by first | decide | omega))⟩
          have q712 : ¬ (v649 = 2147483648) := q712
          have b745 := c662 (by first | decide | omega)
          refine x_const (np := 195) (x := 9223372043297226753) (a := 2147483649) (by decide +kernel) (by decide) (by decide) ?_
          refine x_goto (np := 198) (x := 199) (by decide +kernel) ?_
          have e746 : rv h 0 = (h (h 61 1) 7) := (congrArg (fun z => svq h z 0) rfl).trans rfl
          have q747 : h653 61 1 = h594 61 1 := f655 61 1 (by decide +kernel)
          have q748 : h594 61 1 = h 61 1 := f596 61 1 (by decide +kernel)
          have e749 : rv h 1 = (h (h 61 1) 8) := (congrArg (fun z => svq h z 1) rfl).trans rfl
          have q750 : h653 61 1 = h594 61 1 := f655 61 1 (by decide +kernel)
          have q751 : h594 61 1 = h 61 1 := f596 61 1 (by decide +kernel)
          have q752 : h653 61 1 = h594 61 1 := f655 61 1 (by decide +kernel)
          have q753 : h594 61 1 = h 61 1 := f596 61 1 (by decide +kernel)
          have q754 : h653 61 1 = h594 61 1 := f655 61 1 (by decide +kernel)
          have q755 : h594 61 1 = h 61 1 := f596 61 1 (by decide +kernel)
          have e756 : rv h 2 = (h ((h 61 1) + 1) 2) := (congrArg (fun z => svq h z 2) rfl).trans rfl
          have q757 : h653 61 1 = h594 61 1 := f655 61 1 (by decide +kernel)
          have q758 : h594 61 1 = h 61 1 := f596 61 1 (by decide +kernel)
          have e759 : rv h 3 = (h ((h 61 1) + 3) 2) := (congrArg (fun z => svq h z 3) rfl).trans rfl
          have q760 : h653 61 1 = h594 61 1 := f655 61 1 (by decide +kernel)
          have q761 : h594 61 1 = h 61 1 := f596 61 1 (by decide +kernel)
          have e762 : rv h 4 = (h ((h 61 1) + 5) 2) := (congrArg (fun z => svq h z 4) rfl).trans rfl
          have q763 : h653 61 1 = h594 61 1 := f655 61 1 (by decide +kernel)
          have q764 : h594 61 1 = h 61 1 := f596 61 1 (by decide +kernel)
          have e765 : rv h 5 = (h ((h 61 1) + 7) 2) := (congrArg (fun z => svq h z 5) rfl).trans rfl
          have q766 : h653 61 1 = h594 61 1 := f655 61 1 (by decide +kernel)
          have q767 : h594 61 1 = h 61 1 := f596 61 1 (by decide +kernel)
          have w768 : ¬ Wd tB tN 0 (h 1 2) := by rw [show h 1 2 = h 1 2 from rfl]; exact (Is.no c6 (by first | decide | omega))
          have w769 : ¬ Wd tB tN 6 (h 1 2) := by rw [show h 1 2 = h 1 2 from rfl]; exact (Is.no c16 (by first | decide | omega))
          have w770 : ¬ Wd tB tN 8 (h 1 2) := by rw [show h 1 2 = h 1 2 from rfl]; exact (Is.no c25 (by first | decide | omega))
          obtain ⟨w771, e772⟩ := Tk.yes c600 (by first | decide | omega)
          have q773 : h594 61 1 = h 61 1 := f596 61 1 (by decide +kernel)
          have q774 : h594 (h 61 1) 7 = h (h 61 1) 7 := jK 0 f596 (rg_T0_7_0_1 t575) (by first | decide | omega) (by first | decide | omega) (by decide)
          have k775 : seen9 tB tN (rv h 0) (h594 1 2) (rs v649 (h653 1 2)) := by rw [show rv h 0 = rv h594 0 by first | decide | omega]; exact c663
          have m776 : Ot (h 61 1) h h594 := Ot.fr Ot.refl f596 (by decide)
          have m777 : Ot (h 61 1) h h653 := Ot.trans m776 (Ot.cast c664 q710)
          have q778 : h653 61 1 = h594 61 1 := f655 61 1 (by decide +kernel)
          have q779 : h594 61 1 = h 61 1 := f596 61 1 (by decide +kernel)
          have m780 : ∀ u, u < 10 → wq h653 (h 61 1) u = wq h (h 61 1) u := fun u hu => (Eq.trans (wq_gr t575 f655 (by decide) u hu) (wq_gr t575 f596 (by decide) u hu))
          refine x_retI (np := 200) (x := 0) (by decide +kernel) (by decide) (Or.inr ⟨by decide +kernel, by first | decide | omega, by first | decide | omega⟩) ⟨_, rfl, (by decide), ?_⟩
          exact ⟨j654, f665, (by first | decide | omega), (by first | decide | omega), (by first | decide | omega), (l9_seen w771 rfl (by first | decide | omega) e772 rfl k775 (by first | decide | omega) (by first | decide | omega) (fun z => ⟨rfl, by first | decide | omega, by first | decide | omega, by first | decide | omega, by first | decide | omega⟩)), m777, (fun _ => Wl.refl (by first | decide | omega) m780)⟩
        have q587 : ¬ ((2147483652 + 4 * u582) ≤ 2147483688) := q587
        refine x_const (np := 20) (x := 9223372043297226753) (a := 2147483649) (by decide +kernel) (by decide) (by decide) ?_
        refine x_goto (np := 23) (x := 24) (by decide +kernel) ?_
        refine x_retI (np := 25) (x := 0) (by decide +kernel) (by decide) (Or.inr ⟨by decide +kernel, by first | decide | omega, by first | decide | omega⟩) ⟨_, rfl, (by decide), ?_⟩
        refine x_ifz (k := 1) (tg := 198) (np := 175) (by decide +kernel) (by decide) (by decide) (fun q781 => ?_) (fun q782 => ?_)
        · have q781 : 2147483649 ≠ 2147483648 := q781
          refine x_const (np := 199) (x := 9223372039002259456) (a := 2147483648) (by decide +kernel) (by decide) (by decide) ?_
          have b783 := jB (e := 7) 0 hJ (rg_T0_7_0_1 t575) (by first | decide | omega) (by first | decide | omega)
          have e784 : rv h 0 = (h (h 61 1) 7) := (congrArg (fun z => svq h z 0) rfl).trans rfl
          have e785 : rv h 1 = (h (h 61 1) 8) := (congrArg (fun z => svq h z 1) rfl).trans rfl
          have b786 := jB (e := 2) 0 hJ (rg_T1_2_0_1 t575) (by first | decide | omega) (by first | decide | omega)
          have e787 : rv h 2 = (h ((h 61 1) + 1) 2) := (congrArg (fun z => svq h z 2) rfl).trans rfl
          have b788 := jB (e := 2) 0 hJ (rg_T3_2_0_1 t575) (by first | decide | omega) (by first | decide | omega)
          have e789 : rv h 3 = (h ((h 61 1) + 3) 2) := (congrArg (fun z => svq h z 3) rfl).trans rfl
          have b790 := jB (e := 2) 0 hJ (rg_T5_2_0_1 t575) (by first | decide | omega) (by first | decide | omega)
          have e791 : rv h 4 = (h ((h 61 1) + 5) 2) := (congrArg (fun z => svq h z 4) rfl).trans rfl
          have e792 : rv h 5 = (h ((h 61 1) + 7) 2) := (congrArg (fun z => svq h z 5) rfl).trans rfl
          have w793 : ¬ Wd tB tN 0 (h 1 2) := by rw [show h 1 2 = h 1 2 from rfl]; exact (Is.no c6 (by first | decide | omega))
          have w794 : ¬ Wd tB tN 6 (h 1 2) := by rw [show h 1 2 = h 1 2 from rfl]; exact (Is.no c16 (by first | decide | omega))
          have w795 : ¬ Wd tB tN 8 (h 1 2) := by rw [show h 1 2 = h 1 2 from rfl]; exact (Is.no c25 (by first | decide | omega))
          refine x_retI (np := 200) (x := 0) (by decide +kernel) (by decide) (Or.inr ⟨by decide +kernel, by first | decide | omega, by first | decide | omega⟩) ⟨_, rfl, (by decide), ?_⟩
          exact ⟨hJ, hF, (by first | decide | omega), (by first | decide | omega), (by first | decide | omega), (l9_seen0 (Is.yes c34 (by first | decide | omega)) rfl (by first | decide | omega) (by first | decide | omega)), Ot.refl, (fun z => absurd z (by first | decide | omega))⟩
        have q782 : ¬ (2147483649 ≠ 2147483648) := q782
        exfalso; omega
      have q28 : ¬ (v21 = 2147483648) := q28
      have b796 := c24 (by first | decide | omega)
      refine x_aload (np := 113) (x := 0) (by decide +kernel) rfl (x_nc_le (by decide)) ?_
      have t797 : tw (h 61 1) := hJ.2.2.2.2.1
      refine x_getR (np := 116) (x := 577) (f := 1) (q := (h 61 1)) (by decide +kernel) (by decide) (by decide +kernel) rfl ?_
      have q798 : h (h 61 1) 2 = ((h 61 1) + 5) := tf_0_2 hJ t797
      refine x_getR (np := 119) (x := 514) (f := 2) (q := ((h 61 1) + 5)) (by decide +kernel) (by decide) (tg_0_514_2_1 t797) q798 ?_
      refine x_nI (t := 6) (mj := 66) (n := 1) (rc := 7) (ml := 1) (nr := 0) (np := 122) (as := [x_r ((h 61 1) + 5)]) (rest := []) (lo1 := [x_r ((h 61 1) + 5)]) (by decide +kernel) (by decide) (by decide +kernel) (x_rb_of (tr_5_7 t797)) rfl rfl (x_wr (tn_5 t797) x_wn) x_wn (by decide) rfl ?_
      refine x_aload (np := 1) (x := 0) (by decide +kernel) rfl (x_nc_le (tn_5 t797)) ?_
      have b799 := jB (e := 2) 0 hJ (rg_T5_2_0_1 t797) (by first | decide | omega) (by first | decide | omega)
      refine x_getC (np := 4) (x := 386) (f := 2) (q := (h ((h 61 1) + 5) 2)) (by decide +kernel) (by decide) (tg_5_386_2_0 t797) rfl (fun l800 => ?_)
      refine x_const (np := 5) (x := 9223372043297226753) (a := 2147483649) (by decide +kernel) (by decide) (by decide) ?_
      refine x_iadd (np := 6) (x := 0) (v := (1 + (h ((h 61 1) + 5) 2))) (by decide +kernel) l800 (by decide) (by first | decide | omega) (by first | decide | omega) ?_
      refine x_aload (np := 7) (x := 0) (by decide +kernel) rfl (x_nc_le (tn_5 t797)) ?_
      have b801 := jB (e := 0) 0 hJ (rg_T5_0_0_1 t797) (by first | decide | omega) (by first | decide | omega)
      have q802 : (h ((h 61 1) + 5) 0) = 2147483652 := by first | decide | omega
      refine x_getC (np := 10) (x := 384) (f := 0) (q := 2147483652) (by decide +kernel) (by decide) (tg_5_384_0_0 t797) q802 (fun l803 => ?_)
      obtain ⟨u804, q805⟩ : ∃ z, (h ((h 61 1) + 5) 2) = 2147483648 + z := ⟨(h ((h 61 1) + 5) 2) - 2147483648, by first | decide | omega⟩
      refine x_imul (np := 11) (x := 0) (i := (1 + u804)) (j := 4) (v := (2147483652 + 4 * u804)) (by decide +kernel) (by first | decide | omega) (by first | decide | omega) (by first | decide | omega) (by first | decide | omega) (by first | decide | omega) (by decide) ?_
      refine x_aload (np := 12) (x := 0) (by decide +kernel) rfl (x_nc_le (tn_5 t797)) ?_
      have q807 : h ((h 61 1) + 5) 1 = ((h 61 1) + 6) := tf_5_1 hJ t797
      refine x_getR (np := 15) (x := 385) (f := 1) (q := ((h 61 1) + 6)) (by decide +kernel) (by decide) (tg_5_385_1_1 t797) q807 ?_
      refine x_alen (np := 16) (x := 0) (n := 40) (by decide +kernel) (tn_6 t797) (tl_6 t797).1 (tl_6 t797).2 (by decide) ?_
      show X _ _ _ _ _ _ _ _ [iv_c 2147483688, iv_c (2147483652 + 4 * u804)] _
      refine x_icmp (k := 5) (tg := 23) (np := 19) (by decide +kernel) (by decide) (by first | decide | omega) (by decide) (fun q808 => ?_) (fun q809 => ?_)
      · have q808 : (2147483652 + 4 * u804) ≤ 2147483688 := q808
        refine x_const (np := 24) (x := 9223372039002259456) (a := 2147483648) (by decide +kernel) (by decide) (by decide) ?_
        refine x_retI (np := 25) (x := 0) (by decide +kernel) (by decide) (Or.inr ⟨by decide +kernel, by first | decide | omega, by first | decide | omega⟩) ⟨_, rfl, (by decide), ?_⟩
        refine x_ifz (k := 1) (tg := 148) (np := 125) (by decide +kernel) (by decide) (by decide) (fun q810 => ?_) (fun q811 => ?_)
        · have q810 : 2147483648 ≠ 2147483648 := q810
          exfalso; omega
        have q811 : ¬ (2147483648 ≠ 2147483648) := q811
        refine x_aload (np := 126) (x := 0) (by decide +kernel) rfl (x_nc_le (by decide)) ?_
        have q812 : h 61 0 = 1 := by have z := jB (e := 0) 0 hJ rg_61_0_0_1 (by decide) (by decide); omega
        refine x_getR (np := 129) (x := 576) (f := 0) (q := 1) (by decide +kernel) (by decide) (by decide +kernel) q812 ?_
        refine x_ldcB (i := 8) (idx := 66) (tx := "debt") (by rw [tb_y93]; exact List.mem_of_getElem? (i := 8) rfl) (by decide) (by rw [tb_b93]; decide +kernel) ?_
        refine x_cI (t := 6) (mj := 78) (n := 2) (rc := 8) (ml := 2) (nr := 0) (np := 134) (as := [x_r 1, x_b (8 + 1)]) (rest := []) (lo1 := [x_r 1, x_b (8 + 1)]) (by decide +kernel) (by decide) (by decide +kernel) (x_rb_of (by decide +kernel)) rfl rfl (x_wr (by decide) (x_wB (by decide) x_wn)) x_wn (by decide) rfl (c78_1_S0 hJ  (by decide) hT) (fun v813 h816 l814 q815 => ?_)
        obtain ⟨j817, f818, b819, c820, c821, c822⟩ := q815
        have f823 := Fr.trans hF f818 (by decide)
        have b824 := jB (e := 2) 0 j817 rg_1_2_0_1 (by first | decide | omega) (by first | decide | omega)
        have b825 : iv_tl 8 = 4 := by decide
        refine x_ifz (k := 0) (tg := 148) (np := 137) (by decide +kernel) (by decide) l814 (fun q826 => ?_) (fun q827 => ?_)
        · have q826 : v813 = 2147483648 := q826
          have b828 := c821 (by first | decide | omega)
          refine x_const (np := 149) (x := 9223372039002259456) (a := 2147483648) (by decide +kernel) (by decide) (by decide) ?_
          have b829 := jB (e := 7) 0 hJ (rg_T0_7_0_1 t797) (by first | decide | omega) (by first | decide | omega)
          have e830 : rv h 0 = (h (h 61 1) 7) := (congrArg (fun z => svq h z 0) rfl).trans rfl
          have q831 : h816 61 1 = h 61 1 := f818 61 1 (by decide +kernel)
          have q832 : h816 (h 61 1) 7 = h (h 61 1) 7 := jK 0 f818 (rg_T0_7_0_1 t797) (by first | decide | omega) (by first | decide | omega) (by decide)
          have e833 : rv h816 0 = (h (h 61 1) 7) := (congrArg (fun z => svq h816 z 0) q831).trans q832
          have e834 : rv h 1 = (h (h 61 1) 8) := (congrArg (fun z => svq h z 1) rfl).trans rfl
          have q835 : h816 61 1 = h 61 1 := f818 61 1 (by decide +kernel)
          have q836 : h816 (h 61 1) 8 = h (h 61 1) 8 := jK 0 f818 (rg_T0_8_0_1 t797) (by first | decide | omega) (by first | decide | omega) (by decide)
          have e837 : rv h816 1 = (h (h 61 1) 8) := (congrArg (fun z => svq h816 z 1) q835).trans q836
          have q838 : h816 61 1 = h 61 1 := f818 61 1 (by decide +kernel)
          have q839 : h816 (h 61 1) 7 = h (h 61 1) 7 := jK 0 f818 (rg_T0_7_0_1 t797) (by first | decide | omega) (by first | decide | omega) (by decide)
          have q840 : h816 61 1 = h 61 1 := f818 61 1 (by decide +kernel)
          have q841 : h816 (h 61 1) 8 = h (h 61 1) 8 := jK 0 f818 (rg_T0_8_0_1 t797) (by first | decide | omega) (by first | decide | omega) (by decide)
          have b842 := jB (e := 2) 0 hJ (rg_T1_2_0_1 t797) (by first | decide | omega) (by first | decide | omega)
          have e843 : rv h 2 = (h ((h 61 1) + 1) 2) := (congrArg (fun z => svq h z 2) rfl).trans rfl
          have q844 : h816 61 1 = h 61 1 := f818 61 1 (by decide +kernel)
          have q845 : h816 ((h 61 1) + 1) 2 = h ((h 61 1) + 1) 2 := jK 0 f818 (rg_T1_2_0_1 t797) (by first | decide | omega) (by first | decide | omega) (by decide)
          have e846 : rv h816 2 = (h ((h 61 1) + 1) 2) := (congrArg (fun z => svq h816 z 2) q844).trans q845
          have b847 := jB (e := 2) 0 hJ (rg_T3_2_0_1 t797) (by first | decide | omega) (by first | decide | omega)
          have e848 : rv h 3 = (h ((h 61 1) + 3) 2) := (congrArg (fun z => svq h z 3) rfl).trans rfl
          have q849 : h816 61 1 = h 61 1 := f818 61 1 (by decide +kernel)
          have q850 : h816 ((h 61 1) + 3) 2 = h ((h 61 1) + 3) 2 := jK 0 f818 (rg_T3_2_0_1 t797) (by first | decide | omega) (by first | decide | omega) (by decide)
          have e851 : rv h816 3 = (h ((h 61 1) + 3) 2) := (congrArg (fun z => svq h816 z 3) q849).trans q850
          have e852 : rv h 4 = (h ((h 61 1) + 5) 2) := (congrArg (fun z => svq h z 4) rfl).trans rfl
          have q853 : h816 61 1 = h 61 1 := f818 61 1 (by decide +kernel)
          have q854 : h816 ((h 61 1) + 5) 2 = h ((h 61 1) + 5) 2 := jK 0 f818 (rg_T5_2_0_1 t797) (by first | decide | omega) (by first | decide | omega) (by decide)
          have e855 : rv h816 4 = (h ((h 61 1) + 5) 2) := (congrArg (fun z => svq h816 z 4) q853).trans q854
          have b856 := jB (e := 2) 0 hJ (rg_T7_2_0_1 t797) (by first | decide | omega) (by first | decide | omega)
          have e857 : rv h 5 = (h ((h 61 1) + 7) 2) := (congrArg (fun z => svq h z 5) rfl).trans rfl
          have q858 : h816 61 1 = h 61 1 := f818 61 1 (by decide +kernel)
          have q859 : h816 ((h 61 1) + 7) 2 = h ((h 61 1) + 7) 2 := jK 0 f818 (rg_T7_2_0_1 t797) (by first | decide | omega) (by first | decide | omega) (by decide)
          have e860 : rv h816 5 = (h ((h 61 1) + 7) 2) := (congrArg (fun z => svq h816 z 5) q858).trans q859
          have w861 : ¬ Wd tB tN 0 (h 1 2) := by rw [show h 1 2 = h 1 2 from rfl]; exact (Is.no c6 (by first | decide | omega))
          have w862 : ¬ Wd tB tN 6 (h 1 2) := by rw [show h 1 2 = h 1 2 from rfl]; exact (Is.no c16 (by first | decide | omega))
          obtain ⟨w863, e864⟩ := Tk.no c822 (by first | decide | omega)
          have m865 : Ot (h 61 1) h h816 := Ot.fr Ot.refl f818 (by decide)
          refine x_retI (np := 150) (x := 0) (by decide +kernel) (by decide) (Or.inr ⟨by decide +kernel, by first | decide | omega, by first | decide | omega⟩) ⟨_, rfl, (by decide), ?_⟩
          exact ⟨j817, f823, (by first | decide | omega), (by first | decide | omega), (by first | decide | omega), (absurd (Is.yes c25 (by first | decide | omega)) w863), m865, (fun z => absurd z (by first | decide | omega))⟩
        have q827 : ¬ (v813 = 2147483648) := q827
        have b866 := c820 (by first | decide | omega)
        refine x_aload (np := 138) (x := 0) (by decide +kernel) rfl (x_nc_le (by decide)) ?_
        have q867 : h816 61 1 = h 61 1 := f818 61 1 (by decide +kernel)
        have q868 : h816 ((h 61 1) + 5) 2 = h ((h 61 1) + 5) 2 := jK 0 f818 (rg_T5_2_0_1 t797) (by first | decide | omega) (by first | decide | omega) (by decide)
        have e869 : rv h816 4 = (h ((h 61 1) + 5) 2) := (congrArg (fun z => svq h816 z 4) q867).trans q868
        have m873 := Tp.fr hT f818 (by decide) (by decide)
        refine x_cI (t := 6) (mj := 99) (n := 1) (rc := 10) (ml := 3) (nr := 0) (np := 141) (as := [x_r 61]) (rest := []) (lo1 := [x_r 61, 147573952589676412928, 147573952589676412928]) (by decide +kernel) (by decide) (by decide +kernel) (x_rb_of (by decide +kernel)) rfl rfl (x_wr (by decide) x_wn) x_wn (by decide) rfl (c99_61 j817  (by first | decide | omega) m873) (fun v870 h874 l871 q872 => ?_)
        obtain ⟨j875, f876, b877, c878, c879, c880, c881, c882, c883, c884, c885⟩ := q872
        have f886 := Fr.trans f823 f876 (by decide)
        have q887 : h816 61 1 = h 61 1 := f818 61 1 (by decide +kernel)
        have q888 : h816 (h 61 1) 7 = h (h 61 1) 7 := jK 0 f818 (rg_T0_7_0_1 t797) (by first | decide | omega) (by first | decide | omega) (by decide)
        have b889 := jB (e := 7) 0 hJ (rg_T0_7_0_1 t797) (by first | decide | omega) (by first | decide | omega)
        have e890 : rv h816 0 = (h (h 61 1) 7) := (congrArg (fun z => svq h816 z 0) q887).trans q888
        have q891 : h874 61 1 = h816 61 1 := f876 61 1 (by decide +kernel)
        have q892 : h816 61 1 = h 61 1 := f818 61 1 (by decide +kernel)
        have b893 := jB (e := 7) 0 j875 (rg_T0_7_0_1 t797) (by first | decide | omega) (by first | decide | omega)
        have e894 : rv h874 0 = (h874 (h 61 1) 7) := (congrArg (fun z => svq h874 z 0) (q891.trans q892)).trans rfl
        have q895 : h816 61 1 = h 61 1 := f818 61 1 (by decide +kernel)
        have q896 : h816 (h 61 1) 8 = h (h 61 1) 8 := jK 0 f818 (rg_T0_8_0_1 t797) (by first | decide | omega) (by first | decide | omega) (by decide)
        have e897 : rv h816 1 = (h (h 61 1) 8) := (congrArg (fun z => svq h816 z 1) q895).trans q896
        have q898 : h874 61 1 = h816 61 1 := f876 61 1 (by decide +kernel)
        have q899 : h816 61 1 = h 61 1 := f818 61 1 (by decide +kernel)
        have e900 : rv h874 1 = (h874 (h 61 1) 8) := (congrArg (fun z => svq h874 z 1) (q898.trans q899)).trans rfl
        have q901 : h816 61 1 = h 61 1 := f818 61 1 (by decide +kernel)
        have q902 : h816 ((h 61 1) + 1) 2 = h ((h 61 1) + 1) 2 := jK 0 f818 (rg_T1_2_0_1 t797) (by first | decide | omega) (by first | decide | omega) (by decide)
        have b903 := jB (e := 2) 0 hJ (rg_T1_2_0_1 t797) (by first | decide | omega) (by first | decide | omega)
        have e904 : rv h816 2 = (h ((h 61 1) + 1) 2) := (congrArg (fun z => svq h816 z 2) q901).trans q902
        have q905 : h874 61 1 = h816 61 1 := f876 61 1 (by decide +kernel)
        have q906 : h816 61 1 = h 61 1 := f818 61 1 (by decide +kernel)
        have b907 := jB (e := 2) 0 j875 (rg_T1_2_0_1 t797) (by first | decide | omega) (by first | decide | omega)
        have e908 : rv h874 2 = (h874 ((h 61 1) + 1) 2) := (congrArg (fun z => svq h874 z 2) (q905.trans q906)).trans rfl
        have q909 : h816 61 1 = h 61 1 := f818 61 1 (by decide +kernel)
        have q910 : h816 ((h 61 1) + 3) 2 = h ((h 61 1) + 3) 2 := jK 0 f818 (rg_T3_2_0_1 t797) (by first | decide | omega) (by first | decide | omega) (by decide)
        have b911 := jB (e := 2) 0 hJ (rg_T3_2_0_1 t797) (by first | decide | omega) (by first | decide | omega)
        have e912 : rv h816 3 = (h ((h 61 1) + 3) 2) := (congrArg (fun z => svq h816 z 3) q909).trans q910
        have q913 : h874 61 1 = h816 61 1 := f876 61 1 (by decide +kernel)
        have q914 : h816 61 1 = h 61 1 := f818 61 1 (by decide +kernel)
        have b915 := jB (e := 2) 0 j875 (rg_T3_2_0_1 t797) (by first | decide | omega) (by first | decide | omega)
        have e916 : rv h874 3 = (h874 ((h 61 1) + 3) 2) := (congrArg (fun z => svq h874 z 3) (q913.trans q914)).trans rfl
        have q917 : h816 61 1 = h 61 1 := f818 61 1 (by decide +kernel)
        have q918 : h816 ((h 61 1) + 5) 2 = h ((h 61 1) + 5) 2 := jK 0 f818 (rg_T5_2_0_1 t797) (by first | decide | omega) (by first | decide | omega) (by decide)
        have q919 : h874 61 1 = h816 61 1 := f876 61 1 (by decide +kernel)
        have q920 : h816 61 1 = h 61 1 := f818 61 1 (by decide +kernel)
        have b921 := jB (e := 2) 0 j875 (rg_T5_2_0_1 t797) (by first | decide | omega) (by first | decide | omega)
        have e922 : rv h874 4 = (h874 ((h 61 1) + 5) 2) := (congrArg (fun z => svq h874 z 4) (q919.trans q920)).trans rfl
        have q923 : h816 61 1 = h 61 1 := f818 61 1 (by decide +kernel)
        have q924 : h816 ((h 61 1) + 7) 2 = h ((h 61 1) + 7) 2 := jK 0 f818 (rg_T7_2_0_1 t797) (by first | decide | omega) (by first | decide | omega) (by decide)
        have b925 := jB (e := 2) 0 hJ (rg_T7_2_0_1 t797) (by first | decide | omega) (by first | decide | omega)
        have e926 : rv h816 5 = (h ((h 61 1) + 7) 2) := (congrArg (fun z => svq h816 z 5) q923).trans q924
        have q927 : h874 61 1 = h816 61 1 := f876 61 1 (by decide +kernel)
        have q928 : h816 61 1 = h 61 1 := f818 61 1 (by decide +kernel)
        have b929 := jB (e := 2) 0 j875 (rg_T7_2_0_1 t797) (by first | decide | omega) (by first | decide | omega)
        have e930 : rv h874 5 = (h874 ((h 61 1) + 7) 2) := (congrArg (fun z => svq h874 z 5) (q927.trans q928)).trans rfl
        have q931 : h816 61 1 = h 61 1 := f818 61 1 (by decide +kernel)
        refine x_ifz (k := 0) (tg := 148) (np := 144) (by decide +kernel) (by decide) l871 (fun q932 => ?_) (fun q933 => ?_)
        · have q932 : v870 = 2147483648 := q932
          refine x_const (np := 149) (x := 9223372039002259456) (a := 2147483648) (by decide +kernel) (by decide) (by decide) ?_
          have e934 : rv h 0 = (h (h 61 1) 7) := (congrArg (fun z => svq h z 0) rfl).trans rfl
          have q935 : h874 61 1 = h816 61 1 := f876 61 1 (by decide +kernel)
          have q936 : h816 61 1 = h 61 1 := f818 61 1 (by decide +kernel)
          have e937 : rv h 1 = (h (h 61 1) 8) := (congrArg (fun z => svq h z 1) rfl).trans rfl
          have q938 : h874 61 1 = h816 61 1 := f876 61 1 (by decide +kernel)
          have q939 : h816 61 1 = h 61 1 := f818 61 1 (by decide +kernel)
          have q940 : h874 61 1 = h816 61 1 := f876 61 1 (by decide +kernel)
          have q941 : h816 61 1 = h 61 1 := f818 61 1 (by decide +kernel)
          have q942 : h874 61 1 = h816 61 1 := f876 61 1 (by decide +kernel)
          have q943 : h816 61 1 = h 61 1 := f818 61 1 (by decide +kernel)
          have e944 : rv h 2 = (h ((h 61 1) + 1) 2) := (congrArg (fun z => svq h z 2) rfl).trans rfl
          have q945 : h874 61 1 = h816 61 1 := f876 61 1 (by decide +kernel)
          have q946 : h816 61 1 = h 61 1 := f818 61 1 (by decide +kernel)
          have e947 : rv h 3 = (h ((h 61 1) + 3) 2) := (congrArg (fun z => svq h z 3) rfl).trans rfl
          have q948 : h874 61 1 = h816 61 1 := f876 61 1 (by decide +kernel)
          have q949 : h816 61 1 = h 61 1 := f818 61 1 (by decide +kernel)
          have e950 : rv h 4 = (h ((h 61 1) + 5) 2) := (congrArg (fun z => svq h z 4) rfl).trans rfl
          have q951 : h874 61 1 = h816 61 1 := f876 61 1 (by decide +kernel)
          have q952 : h816 61 1 = h 61 1 := f818 61 1 (by decide +kernel)
          have e953 : rv h 5 = (h ((h 61 1) + 7) 2) := (congrArg (fun z => svq h z 5) rfl).trans rfl
          have q954 : h874 61 1 = h816 61 1 := f876 61 1 (by decide +kernel)
          have q955 : h816 61 1 = h 61 1 := f818 61 1 (by decide +kernel)
          have w956 : ¬ Wd tB tN 0 (h 1 2) := by rw [show h 1 2 = h 1 2 from rfl]; exact (Is.no c6 (by first | decide | omega))
          have w957 : ¬ Wd tB tN 6 (h 1 2) := by rw [show h 1 2 = h 1 2 from rfl]; exact (Is.no c16 (by first | decide | omega))
          obtain ⟨w958, e959⟩ := Tk.yes c822 (by first | decide | omega)
          have q960 : h816 61 1 = h 61 1 := f818 61 1 (by decide +kernel)
          have q961 : h816 (h 61 1) 7 = h (h 61 1) 7 := jK 0 f818 (rg_T0_7_0_1 t797) (by first | decide | omega) (by first | decide | omega) (by decide)
          have k962 : debt9 tB tN (rv h 0) (h816 1 2) (rs v870 (h874 1 2)) := by rw [show rv h 0 = rv h816 0 by first | decide | omega]; exact c884
          have m963 : Ot (h 61 1) h h816 := Ot.fr Ot.refl f818 (by decide)
          have m964 : Ot (h 61 1) h h874 := Ot.trans m963 (Ot.cast c885 q931)
          refine x_retI (np := 150) (x := 0) (by decide +kernel) (by decide) (Or.inr ⟨by decide +kernel, by first | decide | omega, by first | decide | omega⟩) ⟨_, rfl, (by decide), ?_⟩
          exact ⟨j875, f886, (by first | decide | omega), (by first | decide | omega), (by first | decide | omega), (l9_debt w958 rfl (by first | decide | omega) e959 rfl k962 (by first | decide | omega) (by first | decide | omega) (fun z => absurd z (by first | decide | omega))), m964, (fun z => absurd z (by first | decide | omega))⟩
        have q933 : ¬ (v870 = 2147483648) := q933
        have b965 := c882 (by first | decide | omega)
        refine x_const (np := 145) (x := 9223372043297226753) (a := 2147483649) (by decide +kernel) (by decide) (by decide) ?_
        refine x_goto (np := 148) (x := 149) (by decide +kernel) ?_
        have e966 : rv h 0 = (h (h 61 1) 7) := (congrArg (fun z => svq h z 0) rfl).trans rfl
        have q967 : h874 61 1 = h816 61 1 := f876 61 1 (by decide +kernel)
        have q968 : h816 61 1 = h 61 1 := f818 61 1 (by decide +kernel)
        have e969 : rv h 1 = (h (h 61 1) 8) := (congrArg (fun z => svq h z 1) rfl).trans rfl
        have q970 : h874 61 1 = h816 61 1 := f876 61 1 (by decide +kernel)
        have q971 : h816 61 1 = h 61 1 := f818 61 1 (by decide +kernel)
        have q972 : h874 61 1 = h816 61 1 := f876 61 1 (by decide +kernel)
        have q973 : h816 61 1 = h 61 1 := f818 61 1 (by decide +kernel)
        have q974 : h874 61 1 = h816 61 1 := f876 61 1 (by decide +kernel)
        have q975 : h816 61 1 = h 61 1 := f818 61 1 (by decide +kernel)
        have e976 : rv h 2 = (h ((h 61 1) + 1) 2) := (congrArg (fun z => svq h z 2) rfl).trans rfl
        have q977 : h874 61 1 = h816 61 1 := f876 61 1 (by decide +kernel)
        have q978 : h816 61 1 = h 61 1 := f818 61 1 (by decide +kernel)
        have e979 : rv h 3 = (h ((h 61 1) + 3) 2) := (congrArg (fun z => svq h z 3) rfl).trans rfl
        have q980 : h874 61 1 = h816 61 1 := f876 61 1 (by decide +kernel)
        have q981 : h816 61 1 = h 61 1 := f818 61 1 (by decide +kernel)
        have e982 : rv h 4 = (h ((h 61 1) + 5) 2) := (congrArg (fun z => svq h z 4) rfl).trans rfl
        have q983 : h874 61 1 = h816 61 1 := f876 61 1 (by decide +kernel)
        have q984 : h816 61 1 = h 61 1 := f818 61 1 (by decide +kernel)
        have e985 : rv h 5 = (h ((h 61 1) + 7) 2) := (congrArg (fun z => svq h z 5) rfl).trans rfl
        have q986 : h874 61 1 = h816 61 1 := f876 61 1 (by decide +kernel)
        have q987 : h816 61 1 = h 61 1 := f818 61 1 (by decide +kernel)
        have w988 : ¬ Wd tB tN 0 (h 1 2) := by rw [show h 1 2 = h 1 2 from rfl]; exact (Is.no c6 (by first | decide | omega))
        have w989 : ¬ Wd tB tN 6 (h 1 2) := by rw [show h 1 2 = h 1 2 from rfl]; exact (Is.no c16 (by first | decide | omega))
        obtain ⟨w990, e991⟩ := Tk.yes c822 (by first | decide | omega)
        have q992 : h816 61 1 = h 61 1 := f818 61 1 (by decide +kernel)
        have q993 : h816 (h 61 1) 7 = h (h 61 1) 7 := jK 0 f818 (rg_T0_7_0_1 t797) (by first | decide | omega) (by first | decide | omega) (by decide)
        have k994 : debt9 tB tN (rv h 0) (h816 1 2) (rs v870 (h874 1 2)) := by rw [show rv h 0 = rv h816 0 by first | decide | omega]; exact c884
        have m995 : Ot (h 61 1) h h816 := Ot.fr Ot.refl f818 (by decide)
        have m996 : Ot (h 61 1) h h874 := Ot.trans m995 (Ot.cast c885 q931)
        have q997 : h874 61 1 = h816 61 1 := f876 61 1 (by decide +kernel)
        have q998 : h816 61 1 = h 61 1 := f818 61 1 (by decide +kernel)
        have m999 : ∀ u, u < 10 → wq h874 (h 61 1) u = wq h (h 61 1) u := fun u hu => (Eq.trans (wq_gr t797 f876 (by decide) u hu) (wq_gr t797 f818 (by decide) u hu))
        refine x_retI (np := 150) (x := 0) (by decide +kernel) (by decide) (Or.inr ⟨by decide +kernel, by first | decide | omega, by first | decide | omega⟩) ⟨_, rfl, (by decide), ?_⟩
        exact ⟨j875, f886, (by first | decide | omega), (by first | decide | omega), (by first | decide | omega), (l9_debt w990 rfl (by first | decide | omega) e991 rfl k994 (by first | decide | omega) (by first | decide | omega) (fun z => ⟨rfl, by first | decide | omega, by first | decide | omega, by first | decide | omega, by first | decide | omega⟩)), m996, (fun _ => Wl.refl (by first | decide | omega) m999)⟩
      have q809 : ¬ ((2147483652 + 4 * u804) ≤ 2147483688) := q809
      refine x_const (np := 20) (x := 9223372043297226753) (a := 2147483649) (by decide +kernel) (by decide) (by decide) ?_
      refine x_goto (np := 23) (x := 24) (by decide +kernel) ?_
      refine x_retI (np := 25) (x := 0) (by decide +kernel) (by decide) (Or.inr ⟨by decide +kernel, by first | decide | omega, by first | decide | omega⟩) ⟨_, rfl, (by decide), ?_⟩
      refine x_ifz (k := 1) (tg := 148) (np := 125) (by decide +kernel) (by decide) (by decide) (fun q1000 => ?_) (fun q1001 => ?_)
      · have q1000 : 2147483649 ≠ 2147483648 := q1000
        refine x_const (np := 149) (x := 9223372039002259456) (a := 2147483648) (by decide +kernel) (by decide) (by decide) ?_
        have b1002 := jB (e := 7) 0 hJ (rg_T0_7_0_1 t797) (by first | decide | omega) (by first | decide | omega)
        have e1003 : rv h 0 = (h (h 61 1) 7) := (congrArg (fun z => svq h z 0) rfl).trans rfl
        have e1004 : rv h 1 = (h (h 61 1) 8) := (congrArg (fun z => svq h z 1) rfl).trans rfl
        have b1005 := jB (e := 2) 0 hJ (rg_T1_2_0_1 t797) (by first | decide | omega) (by first | decide | omega)
        have e1006 : rv h 2 = (h ((h 61 1) + 1) 2) := (congrArg (fun z => svq h z 2) rfl).trans rfl
        have b1007 := jB (e := 2) 0 hJ (rg_T3_2_0_1 t797) (by first | decide | omega) (by first | decide | omega)
        have e1008 : rv h 3 = (h ((h 61 1) + 3) 2) := (congrArg (fun z => svq h z 3) rfl).trans rfl
        have e1009 : rv h 4 = (h ((h 61 1) + 5) 2) := (congrArg (fun z => svq h z 4) rfl).trans rfl
        have b1010 := jB (e := 2) 0 hJ (rg_T7_2_0_1 t797) (by first | decide | omega) (by first | decide | omega)
        have e1011 : rv h 5 = (h ((h 61 1) + 7) 2) := (congrArg (fun z => svq h z 5) rfl).trans rfl
        have w1012 : ¬ Wd tB tN 0 (h 1 2) := by rw [show h 1 2 = h 1 2 from rfl]; exact (Is.no c6 (by first | decide | omega))
        have w1013 : ¬ Wd tB tN 6 (h 1 2) := by rw [show h 1 2 = h 1 2 from rfl]; exact (Is.no c16 (by first | decide | omega))
        refine x_retI (np := 150) (x := 0) (by decide +kernel) (by decide) (Or.inr ⟨by decide +kernel, by first | decide | omega, by first | decide | omega⟩) ⟨_, rfl, (by decide), ?_⟩
        exact ⟨hJ, hF, (by first | decide | omega), (by first | decide | omega), (by first | decide | omega), (l9_debt0 (Is.yes c25 (by first | decide | omega)) rfl (by first | decide | omega) (by first | decide | omega)), Ot.refl, (fun z => absurd z (by first | decide | omega))⟩
      have q1001 : ¬ (2147483649 ≠ 2147483648) := q1001
      exfalso; omega
    have q19 : ¬ (v12 = 2147483648) := q19
    have b1014 := c15 (by first | decide | omega)
    refine x_aload (np := 63) (x := 0) (by decide +kernel) rfl (x_nc_le (by decide)) ?_
    have t1015 : tw (h 61 1) := hJ.2.2.2.2.1
    refine x_getR (np := 66) (x := 577) (f := 1) (q := (h 61 1)) (by decide +kernel) (by decide) (by decide +kernel) rfl ?_
    have q1016 : h (h 61 1) 1 = ((h 61 1) + 3) := tf_0_1 hJ t1015
    refine x_getR (np := 69) (x := 513) (f := 1) (q := ((h 61 1) + 3)) (by decide +kernel) (by decide) (tg_0_513_1_1 t1015) q1016 ?_
    refine x_nI (t := 6) (mj := 66) (n := 1) (rc := 7) (ml := 1) (nr := 0) (np := 72) (as := [x_r ((h 61 1) + 3)]) (rest := []) (lo1 := [x_r ((h 61 1) + 3)]) (by decide +kernel) (by decide) (by decide +kernel) (x_rb_of (tr_3_7 t1015)) rfl rfl (x_wr (tn_3 t1015) x_wn) x_wn (by decide) rfl ?_
    refine x_aload (np := 1) (x := 0) (by decide +kernel) rfl (x_nc_le (tn_3 t1015)) ?_
    have b1017 := jB (e := 2) 0 hJ (rg_T3_2_0_1 t1015) (by first | decide | omega) (by first | decide | omega)
    refine x_getC (np := 4) (x := 386) (f := 2) (q := (h ((h 61 1) + 3) 2)) (by decide +kernel) (by decide) (tg_3_386_2_0 t1015) rfl (fun l1018 => ?_)
    refine x_const (np := 5) (x := 9223372043297226753) (a := 2147483649) (by decide +kernel) (by decide) (by decide) ?_
    refine x_iadd (np := 6) (x := 0) (v := (1 + (h ((h 61 1) + 3) 2))) (by decide +kernel) l1018 (by decide) (by first | decide | omega) (by first | decide | omega) ?_
    refine x_aload (np := 7) (x := 0) (by decide +kernel) rfl (x_nc_le (tn_3 t1015)) ?_
    have b1019 := jB (e := 0) 0 hJ (rg_T3_0_0_1 t1015) (by first | decide | omega) (by first | decide | omega)
    have q1020 : (h ((h 61 1) + 3) 0) = 2147483652 := by first | decide | omega
    refine x_getC (np := 10) (x := 384) (f := 0) (q := 2147483652) (by decide +kernel) (by decide) (tg_3_384_0_0 t1015) q1020 (fun l1021 => ?_)
    obtain ⟨u1022, q1023⟩ : ∃ z, (h ((h 61 1) + 3) 2) = 2147483648 + z := ⟨(h ((h 61 1) + 3) 2) - 2147483648, by first | decide | omega⟩
    refine x_imul (np := 11) (x := 0) (i := (1 + u1022)) (j := 4) (v := (2147483652 + 4 * u1022)) (by decide +kernel) (by first | decide | omega) (by first | decide | omega) (by first | decide | omega) (by first | decide | omega) (by first | decide | omega) (by decide) ?_
    refine x_aload (np := 12) (x := 0) (by decide +kernel) rfl (x_nc_le (tn_3 t1015)) ?_
    have q1025 : h ((h 61 1) + 3) 1 = ((h 61 1) + 4) := tf_3_1 hJ t1015
    refine x_getR (np := 15) (x := 385) (f := 1) (q := ((h 61 1) + 4)) (by decide +kernel) (by decide) (tg_3_385_1_1 t1015) q1025 ?_
    refine x_alen (np := 16) (x := 0) (n := 40) (by decide +kernel) (tn_4 t1015) (tl_4 t1015).1 (tl_4 t1015).2 (by decide) ?_
    show X _ _ _ _ _ _ _ _ [iv_c 2147483688, iv_c (2147483652 + 4 * u1022)] _
    refine x_icmp (k := 5) (tg := 23) (np := 19) (by decide +kernel) (by decide) (by first | decide | omega) (by decide) (fun q1026 => ?_) (fun q1027 => ?_)
    · have q1026 : (2147483652 + 4 * u1022) ≤ 2147483688 := q1026
      refine x_const (np := 24) (x := 9223372039002259456) (a := 2147483648) (by decide +kernel) (by decide) (by decide) ?_
      refine x_retI (np := 25) (x := 0) (by decide +kernel) (by decide) (Or.inr ⟨by decide +kernel, by first | decide | omega, by first | decide | omega⟩) ⟨_, rfl, (by decide), ?_⟩
      refine x_ifz (k := 1) (tg := 98) (np := 75) (by decide +kernel) (by decide) (by decide) (fun q1028 => ?_) (fun q1029 => ?_)
      · have q1028 : 2147483648 ≠ 2147483648 := q1028
        exfalso; omega
      have q1029 : ¬ (2147483648 ≠ 2147483648) := q1029
      refine x_aload (np := 76) (x := 0) (by decide +kernel) rfl (x_nc_le (by decide)) ?_
      have q1030 : h 61 0 = 1 := by have z := jB (e := 0) 0 hJ rg_61_0_0_1 (by decide) (by decide); omega
      refine x_getR (np := 79) (x := 576) (f := 0) (q := 1) (by decide +kernel) (by decide) (by decide +kernel) q1030 ?_
      refine x_ldcB (i := 6) (idx := 58) (tx := "letter") (by rw [tb_y93]; exact List.mem_of_getElem? (i := 6) rfl) (by decide) (by rw [tb_b93]; decide +kernel) ?_
      refine x_cI (t := 6) (mj := 78) (n := 2) (rc := 8) (ml := 2) (nr := 0) (np := 84) (as := [x_r 1, x_b (6 + 1)]) (rest := []) (lo1 := [x_r 1, x_b (6 + 1)]) (by decide +kernel) (by decide) (by decide +kernel) (x_rb_of (by decide +kernel)) rfl rfl (x_wr (by decide) (x_wB (by decide) x_wn)) x_wn (by decide) rfl (c78_1_S0 hJ  (by decide) hT) (fun v1031 h1034 l1032 q1033 => ?_)
      obtain ⟨j1035, f1036, b1037, c1038, c1039, c1040⟩ := q1033
      have f1041 := Fr.trans hF f1036 (by decide)
      have b1042 := jB (e := 2) 0 j1035 rg_1_2_0_1 (by first | decide | omega) (by first | decide | omega)
      have b1043 : iv_tl 6 = 6 := by decide
      refine x_ifz (k := 0) (tg := 98) (np := 87) (by decide +kernel) (by decide) l1032 (fun q1044 => ?_) (fun q1045 => ?_)
      · have q1044 : v1031 = 2147483648 := q1044
        have b1046 := c1039 (by first | decide | omega)
        refine x_const (np := 99) (x := 9223372039002259456) (a := 2147483648) (by decide +kernel) (by decide) (by decide) ?_
        have b1047 := jB (e := 7) 0 hJ (rg_T0_7_0_1 t1015) (by first | decide | omega) (by first | decide | omega)
        have e1048 : rv h 0 = (h (h 61 1) 7) := (congrArg (fun z => svq h z 0) rfl).trans rfl
        have q1049 : h1034 61 1 = h 61 1 := f1036 61 1 (by decide +kernel)
        have q1050 : h1034 (h 61 1) 7 = h (h 61 1) 7 := jK 0 f1036 (rg_T0_7_0_1 t1015) (by first | decide | omega) (by first | decide | omega) (by decide)
        have e1051 : rv h1034 0 = (h (h 61 1) 7) := (congrArg (fun z => svq h1034 z 0) q1049).trans q1050
        have e1052 : rv h 1 = (h (h 61 1) 8) := (congrArg (fun z => svq h z 1) rfl).trans rfl
        have q1053 : h1034 61 1 = h 61 1 := f1036 61 1 (by decide +kernel)
        have q1054 : h1034 (h 61 1) 8 = h (h 61 1) 8 := jK 0 f1036 (rg_T0_8_0_1 t1015) (by first | decide | omega) (by first | decide | omega) (by decide)
        have e1055 : rv h1034 1 = (h (h 61 1) 8) := (congrArg (fun z => svq h1034 z 1) q1053).trans q1054
        have q1056 : h1034 61 1 = h 61 1 := f1036 61 1 (by decide +kernel)
        have q1057 : h1034 (h 61 1) 7 = h (h 61 1) 7 := jK 0 f1036 (rg_T0_7_0_1 t1015) (by first | decide | omega) (by first | decide | omega) (by decide)
        have q1058 : h1034 61 1 = h 61 1 := f1036 61 1 (by decide +kernel)
        have q1059 : h1034 (h 61 1) 8 = h (h 61 1) 8 := jK 0 f1036 (rg_T0_8_0_1 t1015) (by first | decide | omega) (by first | decide | omega) (by decide)
        have b1060 := jB (e := 2) 0 hJ (rg_T1_2_0_1 t1015) (by first | decide | omega) (by first | decide | omega)
        have e1061 : rv h 2 = (h ((h 61 1) + 1) 2) := (congrArg (fun z => svq h z 2) rfl).trans rfl
        have q1062 : h1034 61 1 = h 61 1 := f1036 61 1 (by decide +kernel)
        have q1063 : h1034 ((h 61 1) + 1) 2 = h ((h 61 1) + 1) 2 := jK 0 f1036 (rg_T1_2_0_1 t1015) (by first | decide | omega) (by first | decide | omega) (by decide)
        have e1064 : rv h1034 2 = (h ((h 61 1) + 1) 2) := (congrArg (fun z => svq h1034 z 2) q1062).trans q1063
        have e1065 : rv h 3 = (h ((h 61 1) + 3) 2) := (congrArg (fun z => svq h z 3) rfl).trans rfl
        have q1066 : h1034 61 1 = h 61 1 := f1036 61 1 (by decide +kernel)
        have q1067 : h1034 ((h 61 1) + 3) 2 = h ((h 61 1) + 3) 2 := jK 0 f1036 (rg_T3_2_0_1 t1015) (by first | decide | omega) (by first | decide | omega) (by decide)
        have e1068 : rv h1034 3 = (h ((h 61 1) + 3) 2) := (congrArg (fun z => svq h1034 z 3) q1066).trans q1067
        have b1069 := jB (e := 2) 0 hJ (rg_T5_2_0_1 t1015) (by first | decide | omega) (by first | decide | omega)
        have e1070 : rv h 4 = (h ((h 61 1) + 5) 2) := (congrArg (fun z => svq h z 4) rfl).trans rfl
        have q1071 : h1034 61 1 = h 61 1 := f1036 61 1 (by decide +kernel)
        have q1072 : h1034 ((h 61 1) + 5) 2 = h ((h 61 1) + 5) 2 := jK 0 f1036 (rg_T5_2_0_1 t1015) (by first | decide | omega) (by first | decide | omega) (by decide)
        have e1073 : rv h1034 4 = (h ((h 61 1) + 5) 2) := (congrArg (fun z => svq h1034 z 4) q1071).trans q1072
        have b1074 := jB (e := 2) 0 hJ (rg_T7_2_0_1 t1015) (by first | decide | omega) (by first | decide | omega)
        have e1075 : rv h 5 = (h ((h 61 1) + 7) 2) := (congrArg (fun z => svq h z 5) rfl).trans rfl
        have q1076 : h1034 61 1 = h 61 1 := f1036 61 1 (by decide +kernel)
        have q1077 : h1034 ((h 61 1) + 7) 2 = h ((h 61 1) + 7) 2 := jK 0 f1036 (rg_T7_2_0_1 t1015) (by first | decide | omega) (by first | decide | omega) (by decide)
        have e1078 : rv h1034 5 = (h ((h 61 1) + 7) 2) := (congrArg (fun z => svq h1034 z 5) q1076).trans q1077
        have w1079 : ¬ Wd tB tN 0 (h 1 2) := by rw [show h 1 2 = h 1 2 from rfl]; exact (Is.no c6 (by first | decide | omega))
        obtain ⟨w1080, e1081⟩ := Tk.no c1040 (by first | decide | omega)
        have m1082 : Ot (h 61 1) h h1034 := Ot.fr Ot.refl f1036 (by decide)
        refine x_retI (np := 100) (x := 0) (by decide +kernel) (by decide) (Or.inr ⟨by decide +kernel, by first | decide | omega, by first | decide | omega⟩) ⟨_, rfl, (by decide), ?_⟩
        exact ⟨j1035, f1041, (by first | decide | omega), (by first | decide | omega), (by first | decide | omega), (absurd (Is.yes c16 (by first | decide | omega)) w1080), m1082, (fun z => absurd z (by first | decide | omega))⟩
      have q1045 : ¬ (v1031 = 2147483648) := q1045
      have b1083 := c1038 (by first | decide | omega)
      refine x_aload (np := 88) (x := 0) (by decide +kernel) rfl (x_nc_le (by decide)) ?_
      have q1084 : h1034 61 1 = h 61 1 := f1036 61 1 (by decide +kernel)
      have q1085 : h1034 ((h 61 1) + 3) 2 = h ((h 61 1) + 3) 2 := jK 0 f1036 (rg_T3_2_0_1 t1015) (by first | decide | omega) (by first | decide | omega) (by decide)
      have e1086 : rv h1034 3 = (h ((h 61 1) + 3) 2) := (congrArg (fun z => svq h1034 z 3) q1084).trans q1085
      have m1090 := Tp.fr hT f1036 (by decide) (by decide)
      refine x_cI (t := 6) (mj := 98) (n := 1) (rc := 10) (ml := 2) (nr := 0) (np := 91) (as := [x_r 61]) (rest := []) (lo1 := [x_r 61, 147573952589676412928]) (by decide +kernel) (by decide) (by decide +kernel) (x_rb_of (by decide +kernel)) rfl rfl (x_wr (by decide) x_wn) x_wn (by decide) rfl (c98_61 j1035  (by first | decide | omega) m1090) (fun v1087 h1091 l1088 q1089 => ?_)
      obtain ⟨j1092, f1093, b1094, c1095, c1096, c1097, c1098, c1099, c1100, c1101, c1102, c1103⟩ := q1089
      have f1104 := Fr.trans f1041 f1093 (by decide)
      have q1105 : h1034 61 1 = h 61 1 := f1036 61 1 (by decide +kernel)
      have q1106 : h1034 (h 61 1) 7 = h (h 61 1) 7 := jK 0 f1036 (rg_T0_7_0_1 t1015) (by first | decide | omega) (by first | decide | omega) (by decide)
      have b1107 := jB (e := 7) 0 hJ (rg_T0_7_0_1 t1015) (by first | decide | omega) (by first | decide | omega)
      have e1108 : rv h1034 0 = (h (h 61 1) 7) := (congrArg (fun z => svq h1034 z 0) q1105).trans q1106
      have q1109 : h1091 61 1 = h1034 61 1 := f1093 61 1 (by decide +kernel)
      have q1110 : h1034 61 1 = h 61 1 := f1036 61 1 (by decide +kernel)
      have b1111 := jB (e := 7) 0 j1092 (rg_T0_7_0_1 t1015) (by first | decide | omega) (by first | decide | omega)
      have e1112 : rv h1091 0 = (h1091 (h 61 1) 7) := (congrArg (fun z => svq h1091 z 0) (q1109.trans q1110)).trans rfl
      have q1113 : h1034 61 1 = h 61 1 := f1036 61 1 (by decide +kernel)
      have q1114 : h1034 (h 61 1) 8 = h (h 61 1) 8 := jK 0 f1036 (rg_T0_8_0_1 t1015) (by first | decide | omega) (by first | decide | omega) (by decide)
      have e1115 : rv h1034 1 = (h (h 61 1) 8) := (congrArg (fun z => svq h1034 z 1) q1113).trans q1114
      have q1116 : h1091 61 1 = h1034 61 1 := f1093 61 1 (by decide +kernel)
      have q1117 : h1034 61 1 = h 61 1 := f1036 61 1 (by decide +kernel)
      have e1118 : rv h1091 1 = (h1091 (h 61 1) 8) := (congrArg (fun z => svq h1091 z 1) (q1116.trans q1117)).trans rfl
      have q1119 : h1034 61 1 = h 61 1 := f1036 61 1 (by decide +kernel)
      have q1120 : h1034 ((h 61 1) + 1) 2 = h ((h 61 1) + 1) 2 := jK 0 f1036 (rg_T1_2_0_1 t1015) (by first | decide | omega) (by first | decide | omega) (by decide)
      have b1121 := jB (e := 2) 0 hJ (rg_T1_2_0_1 t1015) (by first | decide | omega) (by first | decide | omega)
      have e1122 : rv h1034 2 = (h ((h 61 1) + 1) 2) := (congrArg (fun z => svq h1034 z 2) q1119).trans q1120
      have q1123 : h1091 61 1 = h1034 61 1 := f1093 61 1 (by decide +kernel)
      have q1124 : h1034 61 1 = h 61 1 := f1036 61 1 (by decide +kernel)
      have b1125 := jB (e := 2) 0 j1092 (rg_T1_2_0_1 t1015) (by first | decide | omega) (by first | decide | omega)
      have e1126 : rv h1091 2 = (h1091 ((h 61 1) + 1) 2) := (congrArg (fun z => svq h1091 z 2) (q1123.trans q1124)).trans rfl
      have q1127 : h1034 61 1 = h 61 1 := f1036 61 1 (by decide +kernel)
      have q1128 : h1034 ((h 61 1) + 3) 2 = h ((h 61 1) + 3) 2 := jK 0 f1036 (rg_T3_2_0_1 t1015) (by first | decide | omega) (by first | decide | omega) (by decide)
      have q1129 : h1091 61 1 = h1034 61 1 := f1093 61 1 (by decide +kernel)
      have q1130 : h1034 61 1 = h 61 1 := f1036 61 1 (by decide +kernel)
      have b1131 := jB (e := 2) 0 j1092 (rg_T3_2_0_1 t1015) (by first | decide | omega) (by first | decide | omega)
      have e1132 : rv h1091 3 = (h1091 ((h 61 1) + 3) 2) := (congrArg (fun z => svq h1091 z 3) (q1129.trans q1130)).trans rfl
      have q1133 : h1034 61 1 = h 61 1 := f1036 61 1 (by decide +kernel)
      have q1134 : h1034 ((h 61 1) + 5) 2 = h ((h 61 1) + 5) 2 := jK 0 f1036 (rg_T5_2_0_1 t1015) (by first | decide | omega) (by first | decide | omega) (by decide)
      have b1135 := jB (e := 2) 0 hJ (rg_T5_2_0_1 t1015) (by first | decide | omega) (by first | decide | omega)
      have e1136 : rv h1034 4 = (h ((h 61 1) + 5) 2) := (congrArg (fun z => svq h1034 z 4) q1133).trans q1134
      have q1137 : h1091 61 1 = h1034 61 1 := f1093 61 1 (by decide +kernel)
      have q1138 : h1034 61 1 = h 61 1 := f1036 61 1 (by decide +kernel)
      have b1139 := jB (e := 2) 0 j1092 (rg_T5_2_0_1 t1015) (by first | decide | omega) (by first | decide | omega)
      have e1140 : rv h1091 4 = (h1091 ((h 61 1) + 5) 2) := (congrArg (fun z => svq h1091 z 4) (q1137.trans q1138)).trans rfl
      have q1141 : h1034 61 1 = h 61 1 := f1036 61 1 (by decide +kernel)
      have q1142 : h1034 ((h 61 1) + 7) 2 = h ((h 61 1) + 7) 2 := jK 0 f1036 (rg_T7_2_0_1 t1015) (by first | decide | omega) (by first | decide | omega) (by decide)
      have b1143 := jB (e := 2) 0 hJ (rg_T7_2_0_1 t1015) (by first | decide | omega) (by first | decide | omega)
      have e1144 : rv h1034 5 = (h ((h 61 1) + 7) 2) := (congrArg (fun z => svq h1034 z 5) q1141).trans q1142
      have q1145 : h1091 61 1 = h1034 61 1 := f1093 61 1 (by decide +kernel)
      have q1146 : h1034 61 1 = h 61 1 := f1036 61 1 (by decide +kernel)
      have b1147 := jB (e := 2) 0 j1092 (rg_T7_2_0_1 t1015) (by first | decide | omega) (by first | decide | omega)
      have e1148 : rv h1091 5 = (h1091 ((h 61 1) + 7) 2) := (congrArg (fun z => svq h1091 z 5) (q1145.trans q1146)).trans rfl
      have q1149 : h1034 61 1 = h 61 1 := f1036 61 1 (by decide +kernel)
      refine x_ifz (k := 0) (tg := 98) (np := 94) (by decide +kernel) (by decide) l1088 (fun q1150 => ?_) (fun q1151 => ?_)
      · have q1150 : v1087 = 2147483648 := q1150
        refine x_const (np := 99) (x := 9223372039002259456) (a := 2147483648) (by decide +kernel) (by decide) (by decide) ?_
        have e1152 : rv h 0 = (h (h 61 1) 7) := (congrArg (fun z => svq h z 0) rfl).trans rfl
        have q1153 : h1091 61 1 = h1034 61 1 := f1093 61 1 (by decide +kernel)
        have q1154 : h1034 61 1 = h 61 1 := f1036 61 1 (by decide +kernel)
        have e1155 : rv h 1 = (h (h 61 1) 8) := (congrArg (fun z => svq h z 1) rfl).trans rfl
        have q1156 : h1091 61 1 = h1034 61 1 := f1093 61 1 (by decide +kernel)
        have q1157 : h1034 61 1 = h 61 1 := f1036 61 1 (by decide +kernel)
        have q1158 : h1091 61 1 = h1034 61 1 := f1093 61 1 (by decide +kernel)
        have q1159 : h1034 61 1 = h 61 1 := f1036 61 1 (by decide +kernel)
        have q1160 : h1091 61 1 = h1034 61 1 := f1093 61 1 (by decide +kernel)
        have q1161 : h1034 61 1 = h 61 1 := f1036 61 1 (by decide +kernel)
        have e1162 : rv h 2 = (h ((h 61 1) + 1) 2) := (congrArg (fun z => svq h z 2) rfl).trans rfl
        have q1163 : h1091 61 1 = h1034 61 1 := f1093 61 1 (by decide +kernel)
        have q1164 : h1034 61 1 = h 61 1 := f1036 61 1 (by decide +kernel)
        have e1165 : rv h 3 = (h ((h 61 1) + 3) 2) := (congrArg (fun z => svq h z 3) rfl).trans rfl
        have q1166 : h1091 61 1 = h1034 61 1 := f1093 61 1 (by decide +kernel)
        have q1167 : h1034 61 1 = h 61 1 := f1036 61 1 (by decide +kernel)
        have e1168 : rv h 4 = (h ((h 61 1) + 5) 2) := (congrArg (fun z => svq h z 4) rfl).trans rfl
        have q1169 : h1091 61 1 = h1034 61 1 := f1093 61 1 (by decide +kernel)
        have q1170 : h1034 61 1 = h 61 1 := f1036 61 1 (by decide +kernel)
        have e1171 : rv h 5 = (h ((h 61 1) + 7) 2) := (congrArg (fun z => svq h z 5) rfl).trans rfl
        have q1172 : h1091 61 1 = h1034 61 1 := f1093 61 1 (by decide +kernel)
        have q1173 : h1034 61 1 = h 61 1 := f1036 61 1 (by decide +kernel)
        have w1174 : ¬ Wd tB tN 0 (h 1 2) := by rw [show h 1 2 = h 1 2 from rfl]; exact (Is.no c6 (by first | decide | omega))
        obtain ⟨w1175, e1176⟩ := Tk.yes c1040 (by first | decide | omega)
        have q1177 : h1034 61 1 = h 61 1 := f1036 61 1 (by decide +kernel)
        have q1178 : h1034 (h 61 1) 7 = h (h 61 1) 7 := jK 0 f1036 (rg_T0_7_0_1 t1015) (by first | decide | omega) (by first | decide | omega) (by decide)
        have k1179 : letter9 tB tN (rv h 0) (h1034 1 2) (rs v1087 (h1091 1 2)) := by rw [show rv h 0 = rv h1034 0 by first | decide | omega]; exact c1101
        have m1180 : Ot (h 61 1) h h1034 := Ot.fr Ot.refl f1036 (by decide)
        have m1181 : Ot (h 61 1) h h1091 := Ot.trans m1180 (Ot.cast c1102 q1149)
        refine x_retI (np := 100) (x := 0) (by decide +kernel) (by decide) (Or.inr ⟨by decide +kernel, by first | decide | omega, by first | decide | omega⟩) ⟨_, rfl, (by decide), ?_⟩
        exact ⟨j1092, f1104, (by first | decide | omega), (by first | decide | omega), (by first | decide | omega), (l9_letter w1175 rfl (by first | decide | omega) e1176 rfl k1179 (by first | decide | omega) (by first | decide | omega) (fun z => absurd z (by first | decide | omega))), m1181, (fun z => absurd z (by first | decide | omega))⟩
      have q1151 : ¬ (v1087 = 2147483648) := q1151
      have b1182 := c1098 (by first | decide | omega)
      refine x_const (np := 95) (x := 9223372043297226753) (a := 2147483649) (by decide +kernel) (by decide) (by decide) ?_
      refine x_goto (np := 98) (x := 99) (by decide +kernel) ?_
      have e1183 : rv h 0 = (h (h 61 1) 7) := (congrArg (fun z => svq h z 0) rfl).trans rfl
      have q1184 : h1091 61 1 = h1034 61 1 := f1093 61 1 (by decide +kernel)
      have q1185 : h1034 61 1 = h 61 1 := f1036 61 1 (by decide +kernel)
      have e1186 : rv h 1 = (h (h 61 1) 8) := (congrArg (fun z => svq h z 1) rfl).trans rfl
      have q1187 : h1091 61 1 = h1034 61 1 := f1093 61 1 (by decide +kernel)
      have q1188 : h1034 61 1 = h 61 1 := f1036 61 1 (by decide +kernel)
      have q1189 : h1091 61 1 = h1034 61 1 := f1093 61 1 (by decide +kernel)
      have q1190 : h1034 61 1 = h 61 1 := f1036 61 1 (by decide +kernel)
      have q1191 : h1091 61 1 = h1034 61 1 := f1093 61 1 (by decide +kernel)
      have q1192 : h1034 61 1 = h 61 1 := f1036 61 1 (by decide +kernel)
      have e1193 : rv h 2 = (h ((h 61 1) + 1) 2) := (congrArg (fun z => svq h z 2) rfl).trans rfl
      have q1194 : h1091 61 1 = h1034 61 1 := f1093 61 1 (by decide +kernel)
      have q1195 : h1034 61 1 = h 61 1 := f1036 61 1 (by decide +kernel)
      have e1196 : rv h 3 = (h ((h 61 1) + 3) 2) := (congrArg (fun z => svq h z 3) rfl).trans rfl
      have q1197 : h1091 61 1 = h1034 61 1 := f1093 61 1 (by decide +kernel)
      have q1198 : h1034 61 1 = h 61 1 := f1036 61 1 (by decide +kernel)
      have e1199 : rv h 4 = (h ((h 61 1) + 5) 2) := (congrArg (fun z => svq h z 4) rfl).trans rfl
      have q1200 : h1091 61 1 = h1034 61 1 := f1093 61 1 (by decide +kernel)
      have q1201 : h1034 61 1 = h 61 1 := f1036 61 1 (by decide +kernel)
      have e1202 : rv h 5 = (h ((h 61 1) + 7) 2) := (congrArg (fun z => svq h z 5) rfl).trans rfl
      have q1203 : h1091 61 1 = h1034 61 1 := f1093 61 1 (by decide +kernel)
      have q1204 : h1034 61 1 = h 61 1 := f1036 61 1 (by decide +kernel)
      have w1205 : ¬ Wd tB tN 0 (h 1 2) := by rw [show h 1 2 = h 1 2 from rfl]; exact (Is.no c6 (by first | decide | omega))
      obtain ⟨w1206, e1207⟩ := Tk.yes c1040 (by first | decide | omega)
      have q1208 : h1034 61 1 = h 61 1 := f1036 61 1 (by decide +kernel)
      have q1209 : h1034 (h 61 1) 7 = h (h 61 1) 7 := jK 0 f1036 (rg_T0_7_0_1 t1015) (by first | decide | omega) (by first | decide | omega) (by decide)
      have k1210 : letter9 tB tN (rv h 0) (h1034 1 2) (rs v1087 (h1091 1 2)) := by rw [show rv h 0 = rv h1034 0 by first | decide | omega]; exact c1101
      have m1211 : Ot (h 61 1) h h1034 := Ot.fr Ot.refl f1036 (by decide)
      have m1212 : Ot (h 61 1) h h1091 := Ot.trans m1211 (Ot.cast c1102 q1149)
      have q1213 : h1091 61 1 = h1034 61 1 := f1093 61 1 (by decide +kernel)
      have q1214 : h1034 61 1 = h 61 1 := f1036 61 1 (by decide +kernel)
      have q1215 : h1034 61 1 = h 61 1 := f1036 61 1 (by decide +kernel)
      have q1216 : h1034 ((h 61 1) + 3) 2 = h ((h 61 1) + 3) 2 := jK 0 f1036 (rg_T3_2_0_1 t1015) (by first | decide | omega) (by first | decide | omega) (by decide)
      have q1217 : h1091 61 1 = h1034 61 1 := f1093 61 1 (by decide +kernel)
      have q1218 : h1034 61 1 = h 61 1 := f1036 61 1 (by decide +kernel)
      have m1219 : ∀ u, u < 10 → wq h1034 (h 61 1) u = wq h (h 61 1) u := fun u hu => (wq_gr t1015 f1036 (by decide) u hu)
      have q1220 : h1034 61 1 = h 61 1 := f1036 61 1 (by decide +kernel)
      refine x_retI (np := 100) (x := 0) (by decide +kernel) (by decide) (Or.inr ⟨by decide +kernel, by first | decide | omega, by first | decide | omega⟩) ⟨_, rfl, (by decide), ?_⟩
      exact ⟨j1092, f1104, (by first | decide | omega), (by first | decide | omega), (by first | decide | omega), (l9_letter w1206 rfl (by first | decide | omega) e1207 rfl k1210 (by first | decide | omega) (by first | decide | omega) (fun z => ⟨rfl, by first | decide | omega, by first | decide | omega, by first | decide | omega, by first | decide | omega⟩)), m1212, (fun _ => Wl.mp (Wl.bs (c1103 (by first | decide | omega)) q1220) m1219 (fun _ _ => rfl) (by first | decide | omega) (by first | decide | omega))⟩
    have q1027 : ¬ ((2147483652 + 4 * u1022) ≤ 2147483688) := q1027
    refine x_const (np := 20) (x := 9223372043297226753) (a := 2147483649) (by decide +kernel) (by decide) (by decide) ?_
    refine x_goto (np := 23) (x := 24) (by decide +kernel) ?_
    refine x_retI (np := 25) (x := 0) (by decide +kernel) (by decide) (Or.inr ⟨by decide +kernel, by first | decide | omega, by first | decide | omega⟩) ⟨_, rfl, (by decide), ?_⟩
    refine x_ifz (k := 1) (tg := 98) (np := 75) (by decide +kernel) (by decide) (by decide) (fun q1221 => ?_) (fun q1222 => ?_)
    · have q1221 : 2147483649 ≠ 2147483648 := q1221
      refine x_const (np := 99) (x := 9223372039002259456) (a := 2147483648) (by decide +kernel) (by decide) (by decide) ?_
      have b1223 := jB (e := 7) 0 hJ (rg_T0_7_0_1 t1015) (by first | decide | omega) (by first | decide | omega)
      have e1224 : rv h 0 = (h (h 61 1) 7) := (congrArg (fun z => svq h z 0) rfl).trans rfl
      have e1225 : rv h 1 = (h (h 61 1) 8) := (congrArg (fun z => svq h z 1) rfl).trans rfl
      have b1226 := jB (e := 2) 0 hJ (rg_T1_2_0_1 t1015) (by first | decide | omega) (by first | decide | omega)
      have e1227 : rv h 2 = (h ((h 61 1) + 1) 2) := (congrArg (fun z => svq h z 2) rfl).trans rfl
      have e1228 : rv h 3 = (h ((h 61 1) + 3) 2) := (congrArg (fun z => svq h z 3) rfl).trans rfl
      have b1229 := jB (e := 2) 0 hJ (rg_T5_2_0_1 t1015) (by first | decide | omega) (by first | decide | omega)
      have e1230 : rv h 4 = (h ((h 61 1) + 5) 2) := (congrArg (fun z => svq h z 4) rfl).trans rfl
      have b1231 := jB (e := 2) 0 hJ (rg_T7_2_0_1 t1015) (by first | decide | omega) (by first | decide | omega)
      have e1232 : rv h 5 = (h ((h 61 1) + 7) 2) := (congrArg (fun z => svq h z 5) rfl).trans rfl
      have w1233 : ¬ Wd tB tN 0 (h 1 2) := by rw [show h 1 2 = h 1 2 from rfl]; exact (Is.no c6 (by first | decide | omega))
      refine x_retI (np := 100) (x := 0) (by decide +kernel) (by decide) (Or.inr ⟨by decide +kernel, by first | decide | omega, by first | decide | omega⟩) ⟨_, rfl, (by decide), ?_⟩
      exact ⟨hJ, hF, (by first | decide | omega), (by first | decide | omega), (by first | decide | omega), (l9_letter0 (Is.yes c16 (by first | decide | omega)) rfl (by first | decide | omega) (by first | decide | omega)), Ot.refl, (fun z => absurd z (by first | decide | omega))⟩
    have q1222 : ¬ (2147483649 ≠ 2147483648) := q1222
    exfalso; omega
  have q10 : ¬ (v2 = 2147483648) := q10
  have b1234 := c5 (by first | decide | omega)
  refine x_aload (np := 13) (x := 0) (by decide +kernel) rfl (x_nc_le (by decide)) ?_
  have t1235 : tw (h 61 1) := hJ.2.2.2.2.1
  refine x_getR (np := 16) (x := 577) (f := 1) (q := (h 61 1)) (by decide +kernel) (by decide) (by decide +kernel) rfl ?_
  have q1236 : h (h 61 1) 0 = ((h 61 1) + 1) := tf_0_0 hJ t1235
  refine x_getR (np := 19) (x := 512) (f := 0) (q := ((h 61 1) + 1)) (by decide +kernel) (by decide) (tg_0_512_0_1 t1235) q1236 ?_
  refine x_nI (t := 6) (mj := 66) (n := 1) (rc := 7) (ml := 1) (nr := 0) (np := 22) (as := [x_r ((h 61 1) + 1)]) (rest := []) (lo1 := [x_r ((h 61 1) + 1)]) (by decide +kernel) (by decide) (by decide +kernel) (x_rb_of (tr_1_7 t1235)) rfl rfl (x_wr (tn_1 t1235) x_wn) x_wn (by decide) rfl ?_
  refine x_aload (np := 1) (x := 0) (by decide +kernel) rfl (x_nc_le (tn_1 t1235)) ?_
  have b1237 := jB (e := 2) 0 hJ (rg_T1_2_0_1 t1235) (by first | decide | omega) (by first | decide | omega)
  refine x_getC (np := 4) (x := 386) (f := 2) (q := (h ((h 61 1) + 1) 2)) (by decide +kernel) (by decide) (tg_1_386_2_0 t1235) rfl (fun l1238 => ?_)
  refine x_const (np := 5) (x := 9223372043297226753) (a := 2147483649) (by decide +kernel) (by decide) (by decide) ?_
  refine x_iadd (np := 6) (x := 0) (v := (1 + (h ((h 61 1) + 1) 2))) (by decide +kernel) l1238 (by decide) (by first | decide | omega) (by first | decide | omega) ?_
  refine x_aload (np := 7) (x := 0) (by decide +kernel) rfl (x_nc_le (tn_1 t1235)) ?_
  have b1239 := jB (e := 0) 0 hJ (rg_T1_0_0_1 t1235) (by first | decide | omega) (by first | decide | omega)
  have q1240 : (h ((h 61 1) + 1) 0) = 2147483655 := by first | decide | omega
  refine x_getC (np := 10) (x := 384) (f := 0) (q := 2147483655) (by decide +kernel) (by decide) (tg_1_384_0_0 t1235) q1240 (fun l1241 => ?_)
  obtain ⟨u1242, q1243⟩ : ∃ z, (h ((h 61 1) + 1) 2) = 2147483648 + z := ⟨(h ((h 61 1) + 1) 2) - 2147483648, by first | decide | omega⟩
  refine x_imul (np := 11) (x := 0) (i := (1 + u1242)) (j := 7) (v := (2147483655 + 7 * u1242)) (by decide +kernel) (by first | decide | omega) (by first | decide | omega) (by first | decide | omega) (by first | decide | omega) (by first | decide | omega) (by decide) ?_
  refine x_aload (np := 12) (x := 0) (by decide +kernel) rfl (x_nc_le (tn_1 t1235)) ?_
  have q1245 : h ((h 61 1) + 1) 1 = ((h 61 1) + 2) := tf_1_1 hJ t1235
  refine x_getR (np := 15) (x := 385) (f := 1) (q := ((h 61 1) + 2)) (by decide +kernel) (by decide) (tg_1_385_1_1 t1235) q1245 ?_
  refine x_alen (np := 16) (x := 0) (n := 140) (by decide +kernel) (tn_2 t1235) (tl_2 t1235).1 (tl_2 t1235).2 (by decide) ?_
  show X _ _ _ _ _ _ _ _ [iv_c 2147483788, iv_c (2147483655 + 7 * u1242)] _
  refine x_icmp (k := 5) (tg := 23) (np := 19) (by decide +kernel) (by decide) (by first | decide | omega) (by decide) (fun q1246 => ?_) (fun q1247 => ?_)
  · have q1246 : (2147483655 + 7 * u1242) ≤ 2147483788 := q1246
    refine x_const (np := 24) (x := 9223372039002259456) (a := 2147483648) (by decide +kernel) (by decide) (by decide) ?_
    refine x_retI (np := 25) (x := 0) (by decide +kernel) (by decide) (Or.inr ⟨by decide +kernel, by first | decide | omega, by first | decide | omega⟩) ⟨_, rfl, (by decide), ?_⟩
    refine x_ifz (k := 1) (tg := 48) (np := 25) (by decide +kernel) (by decide) (by decide) (fun q1248 => ?_) (fun q1249 => ?_)
    · have q1248 : 2147483648 ≠ 2147483648 := q1248
      exfalso; omega
    have q1249 : ¬ (2147483648 ≠ 2147483648) := q1249
    refine x_aload (np := 26) (x := 0) (by decide +kernel) rfl (x_nc_le (by decide)) ?_
    have q1250 : h 61 0 = 1 := by have z := jB (e := 0) 0 hJ rg_61_0_0_1 (by decide) (by decide); omega
    refine x_getR (np := 29) (x := 576) (f := 0) (q := 1) (by decide +kernel) (by decide) (by decide +kernel) q1250 ?_
    refine x_ldcB (i := 0) (idx := 35) (tx := "lend") (by rw [tb_y93]; exact List.mem_of_getElem? (i := 0) rfl) (by decide) (by rw [tb_b93]; decide +kernel) ?_
    refine x_cI (t := 6) (mj := 78) (n := 2) (rc := 8) (ml := 2) (nr := 0) (np := 34) (as := [x_r 1, x_b (0 + 1)]) (rest := []) (lo1 := [x_r 1, x_b (0 + 1)]) (by decide +kernel) (by decide) (by decide +kernel) (x_rb_of (by decide +kernel)) rfl rfl (x_wr (by decide) (x_wB (by decide) x_wn)) x_wn (by decide) rfl (c78_1_S0 hJ  (by decide) hT) (fun v1251 h1254 l1252 q1253 => ?_)
    obtain ⟨j1255, f1256, b1257, c1258, c1259, c1260⟩ := q1253
    have f1261 := Fr.trans hF f1256 (by decide)
    have b1262 := jB (e := 2) 0 j1255 rg_1_2_0_1 (by first | decide | omega) (by first | decide | omega)
    have b1263 : iv_tl 0 = 4 := by decide
    refine x_ifz (k := 0) (tg := 48) (np := 37) (by decide +kernel) (by decide) l1252 (fun q1264 => ?_) (fun q1265 => ?_)
    · have q1264 : v1251 = 2147483648 := q1264
      have b1266 := c1259 (by first | decide | omega)
      refine x_const (np := 49) (x := 9223372039002259456) (a := 2147483648) (by decide +kernel) (by decide) (by decide) ?_
      have b1267 := jB (e := 7) 0 hJ (rg_T0_7_0_1 t1235) (by first | decide | omega) (by first | decide | omega)
      have e1268 : rv h 0 = (h (h 61 1) 7) := (congrArg (fun z => svq h z 0) rfl).trans rfl
      have q1269 : h1254 61 1 = h 61 1 := f1256 61 1 (by decide +kernel)
      have q1270 : h1254 (h 61 1) 7 = h (h 61 1) 7 := jK 0 f1256 (rg_T0_7_0_1 t1235) (by first | decide | omega) (by first | decide | omega) (by decide)
      have e1271 : rv h1254 0 = (h (h 61 1) 7) := (congrArg (fun z => svq h1254 z 0) q1269).trans q1270
      have e1272 : rv h 1 = (h (h 61 1) 8) := (congrArg (fun z => svq h z 1) rfl).trans rfl
      have q1273 : h1254 61 1 = h 61 1 := f1256 61 1 (by decide +kernel)
      have q1274 : h1254 (h 61 1) 8 = h (h 61 1) 8 := jK 0 f1256 (rg_T0_8_0_1 t1235) (by first | decide | omega) (by first | decide | omega) (by decide)
      have e1275 : rv h1254 1 = (h (h 61 1) 8) := (congrArg (fun z => svq h1254 z 1) q1273).trans q1274
      have q1276 : h1254 61 1 = h 61 1 := f1256 61 1 (by decide +kernel)
      have q1277 : h1254 (h 61 1) 7 = h (h 61 1) 7 := jK 0 f1256 (rg_T0_7_0_1 t1235) (by first | decide | omega) (by first | decide | omega) (by decide)
      have q1278 : h1254 61 1 = h 61 1 := f1256 61 1 (by decide +kernel)
      have q1279 : h1254 (h 61 1) 8 = h (h 61 1) 8 := jK 0 f1256 (rg_T0_8_0_1 t1235) (by first | decide | omega) (by first | decide | omega) (by decide)
      have e1280 : rv h 2 = (h ((h 61 1) + 1) 2) := (congrArg (fun z => svq h z 2) rfl).trans rfl
      have q1281 : h1254 61 1 = h 61 1 := f1256 61 1 (by decide +kernel)
      have q1282 : h1254 ((h 61 1) + 1) 2 = h ((h 61 1) + 1) 2 := jK 0 f1256 (rg_T1_2_0_1 t1235) (by first | decide | omega) (by first | decide | omega) (by decide)
      have e1283 : rv h1254 2 = (h ((h 61 1) + 1) 2) := (congrArg (fun z => svq h1254 z 2) q1281).trans q1282
      have b1284 := jB (e := 2) 0 hJ (rg_T3_2_0_1 t1235) (by first | decide | omega) (by first | decide | omega)
      have e1285 : rv h 3 = (h ((h 61 1) + 3) 2) := (congrArg (fun z => svq h z 3) rfl).trans rfl
      have q1286 : h1254 61 1 = h 61 1 := f1256 61 1 (by decide +kernel)
      have q1287 : h1254 ((h 61 1) + 3) 2 = h ((h 61 1) + 3) 2 := jK 0 f1256 (rg_T3_2_0_1 t1235) (by first | decide | omega) (by first | decide | omega) (by decide)
      have e1288 : rv h1254 3 = (h ((h 61 1) + 3) 2) := (congrArg (fun z => svq h1254 z 3) q1286).trans q1287
      have b1289 := jB (e := 2) 0 hJ (rg_T5_2_0_1 t1235) (by first | decide | omega) (by first | decide | omega)
      have e1290 : rv h 4 = (h ((h 61 1) + 5) 2) := (congrArg (fun z => svq h z 4) rfl).trans rfl
      have q1291 : h1254 61 1 = h 61 1 := f1256 61 1 (by decide +kernel)
      have q1292 : h1254 ((h 61 1) + 5) 2 = h ((h 61 1) + 5) 2 := jK 0 f1256 (rg_T5_2_0_1 t1235) (by first | decide | omega) (by first | decide | omega) (by decide)
      have e1293 : rv h1254 4 = (h ((h 61 1) + 5) 2) := (congrArg (fun z => svq h1254 z 4) q1291).trans q1292
      have b1294 := jB (e := 2) 0 hJ (rg_T7_2_0_1 t1235) (by first | decide | omega) (by first | decide | omega)
      have e1295 : rv h 5 = (h ((h 61 1) + 7) 2) := (congrArg (fun z => svq h z 5) rfl).trans rfl
      have q1296 : h1254 61 1 = h 61 1 := f1256 61 1 (by decide +kernel)
      have q1297 : h1254 ((h 61 1) + 7) 2 = h ((h 61 1) + 7) 2 := jK 0 f1256 (rg_T7_2_0_1 t1235) (by first | decide | omega) (by first | decide | omega) (by decide)
      have e1298 : rv h1254 5 = (h ((h 61 1) + 7) 2) := (congrArg (fun z => svq h1254 z 5) q1296).trans q1297
      obtain ⟨w1299, e1300⟩ := Tk.no c1260 (by first | decide | omega)
      have m1301 : Ot (h 61 1) h h1254 := Ot.fr Ot.refl f1256 (by decide)
      refine x_retI (np := 50) (x := 0) (by decide +kernel) (by decide) (Or.inr ⟨by decide +kernel, by first | decide | omega, by first | decide | omega⟩) ⟨_, rfl, (by decide), ?_⟩
      exact ⟨j1255, f1261, (by first | decide | omega), (by first | decide | omega), (by first | decide | omega), (absurd (Is.yes c6 (by first | decide | omega)) w1299), m1301, (fun z => absurd z (by first | decide | omega))⟩
    have q1265 : ¬ (v1251 = 2147483648) := q1265
    have b1302 := c1258 (by first | decide | omega)
    refine x_aload (np := 38) (x := 0) (by decide +kernel) rfl (x_nc_le (by decide)) ?_
    have q1303 : h1254 61 1 = h 61 1 := f1256 61 1 (by decide +kernel)
    have q1304 : h1254 ((h 61 1) + 1) 2 = h ((h 61 1) + 1) 2 := jK 0 f1256 (rg_T1_2_0_1 t1235) (by first | decide | omega) (by first | decide | omega) (by decide)
    have e1305 : rv h1254 2 = (h ((h 61 1) + 1) 2) := (congrArg (fun z => svq h1254 z 2) q1303).trans q1304
    have m1309 := Tp.fr hT f1256 (by decide) (by decide)
    refine x_cI (t := 6) (mj := 94) (n := 1) (rc := 10) (ml := 2) (nr := 0) (np := 41) (as := [x_r 61]) (rest := []) (lo1 := [x_r 61, 147573952589676412928]) (by decide +kernel) (by decide) (by decide +kernel) (x_rb_of (by decide +kernel)) rfl rfl (x_wr (by decide) x_wn) x_wn (by decide) rfl (c94_61 j1255  (by first | decide | omega) m1309) (fun v1306 h1310 l1307 q1308 => ?_)
    obtain ⟨j1311, f1312, b1313, c1314, c1315, c1316, c1317, c1318, c1319, c1320, c1321⟩ := q1308
    have f1322 := Fr.trans f1261 f1312 (by decide)
    have q1323 : h1254 61 1 = h 61 1 := f1256 61 1 (by decide +kernel)
    have q1324 : h1254 (h 61 1) 7 = h (h 61 1) 7 := jK 0 f1256 (rg_T0_7_0_1 t1235) (by first | decide | omega) (by first | decide | omega) (by decide)
    have b1325 := jB (e := 7) 0 hJ (rg_T0_7_0_1 t1235) (by first | decide | omega) (by first | decide | omega)
    have e1326 : rv h1254 0 = (h (h 61 1) 7) := (congrArg (fun z => svq h1254 z 0) q1323).trans q1324
    have q1327 : h1310 61 1 = h1254 61 1 := f1312 61 1 (by decide +kernel)
    have q1328 : h1254 61 1 = h 61 1 := f1256 61 1 (by decide +kernel)
    have b1329 := jB (e := 7) 0 j1311 (rg_T0_7_0_1 t1235) (by first | decide | omega) (by first | decide | omega)
    have e1330 : rv h1310 0 = (h1310 (h 61 1) 7) := (congrArg (fun z => svq h1310 z 0) (q1327.trans q1328)).trans rfl
    have q1331 : h1254 61 1 = h 61 1 := f1256 61 1 (by decide +kernel)
    have q1332 : h1254 (h 61 1) 8 = h (h 61 1) 8 := jK 0 f1256 (rg_T0_8_0_1 t1235) (by first | decide | omega) (by first | decide | omega) (by decide)
    have e1333 : rv h1254 1 = (h (h 61 1) 8) := (congrArg (fun z => svq h1254 z 1) q1331).trans q1332
    have q1334 : h1310 61 1 = h1254 61 1 := f1312 61 1 (by decide +kernel)
    have q1335 : h1254 61 1 = h 61 1 := f1256 61 1 (by decide +kernel)
    have e1336 : rv h1310 1 = (h1310 (h 61 1) 8) := (congrArg (fun z => svq h1310 z 1) (q1334.trans q1335)).trans rfl
    have q1337 : h1254 61 1 = h 61 1 := f1256 61 1 (by decide +kernel)
    have q1338 : h1254 ((h 61 1) + 1) 2 = h ((h 61 1) + 1) 2 := jK 0 f1256 (rg_T1_2_0_1 t1235) (by first | decide | omega) (by first | decide | omega) (by decide)
    have q1339 : h1310 61 1 = h1254 61 1 := f1312 61 1 (by decide +kernel)
    have q1340 : h1254 61 1 = h 61 1 := f1256 61 1 (by decide +kernel)
    have b1341 := jB (e := 2) 0 j1311 (rg_T1_2_0_1 t1235) (by first | decide | omega) (by first | decide | omega)
    have e1342 : rv h1310 2 = (h1310 ((h 61 1) + 1) 2) := (congrArg (fun z => svq h1310 z 2) (q1339.trans q1340)).trans rfl
    have q1343 : h1254 61 1 = h 61 1 := f1256 61 1 (by decide +kernel)
    have q1344 : h1254 ((h 61 1) + 3) 2 = h ((h 61 1) + 3) 2 := jK 0 f1256 (rg_T3_2_0_1 t1235) (by first | decide | omega) (by first | decide | omega) (by decide)
    have b1345 := jB (e := 2) 0 hJ (rg_T3_2_0_1 t1235) (by first | decide | omega) (by first | decide | omega)
    have e1346 : rv h1254 3 = (h ((h 61 1) + 3) 2) := (congrArg (fun z => svq h1254 z 3) q1343).trans q1344
    have q1347 : h1310 61 1 = h1254 61 1 := f1312 61 1 (by decide +kernel)
    have q1348 : h1254 61 1 = h 61 1 := f1256 61 1 (by decide +kernel)
    have b1349 := jB (e := 2) 0 j1311 (rg_T3_2_0_1 t1235) (by first | decide | omega) (by first | decide | omega)
    have e1350 : rv h1310 3 = (h1310 ((h 61 1) + 3) 2) := (congrArg (fun z => svq h1310 z 3) (q1347.trans q1348)).trans rfl
    have q1351 : h1254 61 1 = h 61 1 := f1256 61 1 (by decide +kernel)
    have q1352 : h1254 ((h 61 1) + 5) 2 = h ((h 61 1) + 5) 2 := jK 0 f1256 (rg_T5_2_0_1 t1235) (by first | decide | omega) (by first | decide | omega) (by decide)
    have b1353 := jB (e := 2) 0 hJ (rg_T5_2_0_1 t1235) (by first | decide | omega) (by first | decide | omega)
    have e1354 : rv h1254 4 = (h ((h 61 1) + 5) 2) := (congrArg (fun z => svq h1254 z 4) q1351).trans q1352
    have q1355 : h1310 61 1 = h1254 61 1 := f1312 61 1 (by decide +kernel)
    have q1356 : h1254 61 1 = h 61 1 := f1256 61 1 (by decide +kernel)
    have b1357 := jB (e := 2) 0 j1311 (rg_T5_2_0_1 t1235) (by first | decide | omega) (by first | decide | omega)
    have e1358 : rv h1310 4 = (h1310 ((h 61 1) + 5) 2) := (congrArg (fun z => svq h1310 z 4) (q1355.trans q1356)).trans rfl
    have q1359 : h1254 61 1 = h 61 1 := f1256 61 1 (by decide +kernel)
    have q1360 : h1254 ((h 61 1) + 7) 2 = h ((h 61 1) + 7) 2 := jK 0 f1256 (rg_T7_2_0_1 t1235) (by first | decide | omega) (by first | decide | omega) (by decide)
    have b1361 := jB (e := 2) 0 hJ (rg_T7_2_0_1 t1235) (by first | decide | omega) (by first | decide | omega)
    have e1362 : rv h1254 5 = (h ((h 61 1) + 7) 2) := (congrArg (fun z => svq h1254 z 5) q1359).trans q1360
    have q1363 : h1310 61 1 = h1254 61 1 := f1312 61 1 (by decide +kernel)
    have q1364 : h1254 61 1 = h 61 1 := f1256 61 1 (by decide +kernel)
    have b1365 := jB (e := 2) 0 j1311 (rg_T7_2_0_1 t1235) (by first | decide | omega) (by first | decide | omega)
    have e1366 : rv h1310 5 = (h1310 ((h 61 1) + 7) 2) := (congrArg (fun z => svq h1310 z 5) (q1363.trans q1364)).trans rfl
    have q1367 : h1254 61 1 = h 61 1 := f1256 61 1 (by decide +kernel)
    refine x_ifz (k := 0) (tg := 48) (np := 44) (by decide +kernel) (by decide) l1307 (fun q1368 => ?_) (fun q1369 => ?_)
    · have q1368 : v1306 = 2147483648 := q1368
      refine x_const (np := 49) (x := 9223372039002259456) (a := 2147483648) (by decide +kernel) (by decide) (by decide) ?_
      have e1370 : rv h 0 = (h (h 61 1) 7) := (congrArg (fun z => svq h z 0) rfl).trans rfl
      have q1371 : h1310 61 1 = h1254 61 1 := f1312 61 1 (by decide +kernel)
      have q1372 : h1254 61 1 = h 61 1 := f1256 61 1 (by decide +kernel)
      have e1373 : rv h 1 = (h (h 61 1) 8) := (congrArg (fun z => svq h z 1) rfl).trans rfl
      have q1374 : h1310 61 1 = h1254 61 1 := f1312 61 1 (by decide +kernel)
      have q1375 : h1254 61 1 = h 61 1 := f1256 61 1 (by decide +kernel)
      have q1376 : h1310 61 1 = h1254 61 1 := f1312 61 1 (by decide +kernel)
      have q1377 : h1254 61 1 = h 61 1 := f1256 61 1 (by decide +kernel)
      have q1378 : h1310 61 1 = h1254 61 1 := f1312 61 1 (by decide +kernel)
      have q1379 : h1254 61 1 = h 61 1 := f1256 61 1 (by decide +kernel)
      have e1380 : rv h 2 = (h ((h 61 1) + 1) 2) := (congrArg (fun z => svq h z 2) rfl).trans rfl
      have q1381 : h1310 61 1 = h1254 61 1 := f1312 61 1 (by decide +kernel)
      have q1382 : h1254 61 1 = h 61 1 := f1256 61 1 (by decide +kernel)
      have e1383 : rv h 3 = (h ((h 61 1) + 3) 2) := (congrArg (fun z => svq h z 3) rfl).trans rfl
      have q1384 : h1310 61 1 = h1254 61 1 := f1312 61 1 (by decide +kernel)
      have q1385 : h1254 61 1 = h 61 1 := f1256 61 1 (by decide +kernel)
      have e1386 : rv h 4 = (h ((h 61 1) + 5) 2) := (congrArg (fun z => svq h z 4) rfl).trans rfl
      have q1387 : h1310 61 1 = h1254 61 1 := f1312 61 1 (by decide +kernel)
      have q1388 : h1254 61 1 = h 61 1 := f1256 61 1 (by decide +kernel)
      have e1389 : rv h 5 = (h ((h 61 1) + 7) 2) := (congrArg (fun z => svq h z 5) rfl).trans rfl
      have q1390 : h1310 61 1 = h1254 61 1 := f1312 61 1 (by decide +kernel)
      have q1391 : h1254 61 1 = h 61 1 := f1256 61 1 (by decide +kernel)
      obtain ⟨w1392, e1393⟩ := Tk.yes c1260 (by first | decide | omega)
      have q1394 : h1254 61 1 = h 61 1 := f1256 61 1 (by decide +kernel)
      have q1395 : h1254 (h 61 1) 7 = h (h 61 1) 7 := jK 0 f1256 (rg_T0_7_0_1 t1235) (by first | decide | omega) (by first | decide | omega) (by decide)
      have k1396 : loan9 tB tN (rv h 0) (h1254 1 2) (rs v1306 (h1310 1 2)) := by rw [show rv h 0 = rv h1254 0 by first | decide | omega]; exact c1320
      have m1397 : Ot (h 61 1) h h1254 := Ot.fr Ot.refl f1256 (by decide)
      have m1398 : Ot (h 61 1) h h1310 := Ot.trans m1397 (Ot.cast c1321 q1367)
      refine x_retI (np := 50) (x := 0) (by decide +kernel) (by decide) (Or.inr ⟨by decide +kernel, by first | decide | omega, by first | decide | omega⟩) ⟨_, rfl, (by decide), ?_⟩
      exact ⟨j1311, f1322, (by first | decide | omega), (by first | decide | omega), (by first | decide | omega), (l9_lend w1392 rfl (by first | decide | omega) e1393 rfl k1396 (by first | decide | omega) (by first | decide | omega) (fun z => absurd z (by first | decide | omega))), m1398, (fun z => absurd z (by first | decide | omega))⟩
    have q1369 : ¬ (v1306 = 2147483648) := q1369
    have b1399 := c1316 (by first | decide | omega)
    refine x_const (np := 45) (x := 9223372043297226753) (a := 2147483649) (by decide +kernel) (by decide) (by decide) ?_
    refine x_goto (np := 48) (x := 49) (by decide +kernel) ?_
    have e1400 : rv h 0 = (h (h 61 1) 7) := (congrArg (fun z => svq h z 0) rfl).trans rfl
    have q1401 : h1310 61 1 = h1254 61 1 := f1312 61 1 (by decide +kernel)
    have q1402 : h1254 61 1 = h 61 1 := f1256 61 1 (by decide +kernel)
    have e1403 : rv h 1 = (h (h 61 1) 8) := (congrArg (fun z => svq h z 1) rfl).trans rfl
    have q1404 : h1310 61 1 = h1254 61 1 := f1312 61 1 (by decide +kernel)
    have q1405 : h1254 61 1 = h 61 1 := f1256 61 1 (by decide +kernel)
    have q1406 : h1310 61 1 = h1254 61 1 := f1312 61 1 (by decide +kernel)
    have q1407 : h1254 61 1 = h 61 1 := f1256 61 1 (by decide +kernel)
    have q1408 : h1310 61 1 = h1254 61 1 := f1312 61 1 (by decide +kernel)
    have q1409 : h1254 61 1 = h 61 1 := f1256 61 1 (by decide +kernel)
    have e1410 : rv h 2 = (h ((h 61 1) + 1) 2) := (congrArg (fun z => svq h z 2) rfl).trans rfl
    have q1411 : h1310 61 1 = h1254 61 1 := f1312 61 1 (by decide +kernel)
    have q1412 : h1254 61 1 = h 61 1 := f1256 61 1 (by decide +kernel)
    have e1413 : rv h 3 = (h ((h 61 1) + 3) 2) := (congrArg (fun z => svq h z 3) rfl).trans rfl
    have q1414 : h1310 61 1 = h1254 61 1 := f1312 61 1 (by decide +kernel)
    have q1415 : h1254 61 1 = h 61 1 := f1256 61 1 (by decide +kernel)
    have e1416 : rv h 4 = (h ((h 61 1) + 5) 2) := (congrArg (fun z => svq h z 4) rfl).trans rfl
    have q1417 : h1310 61 1 = h1254 61 1 := f1312 61 1 (by decide +kernel)
    have q1418 : h1254 61 1 = h 61 1 := f1256 61 1 (by decide +kernel)
    have e1419 : rv h 5 = (h ((h 61 1) + 7) 2) := (congrArg (fun z => svq h z 5) rfl).trans rfl
    have q1420 : h1310 61 1 = h1254 61 1 := f1312 61 1 (by decide +kernel)
    have q1421 : h1254 61 1 = h 61 1 := f1256 61 1 (by decide +kernel)
    obtain ⟨w1422, e1423⟩ := Tk.yes c1260 (by first | decide | omega)
    have q1424 : h1254 61 1 = h 61 1 := f1256 61 1 (by decide +kernel)
    have q1425 : h1254 (h 61 1) 7 = h (h 61 1) 7 := jK 0 f1256 (rg_T0_7_0_1 t1235) (by first | decide | omega) (by first | decide | omega) (by decide)
    have k1426 : loan9 tB tN (rv h 0) (h1254 1 2) (rs v1306 (h1310 1 2)) := by rw [show rv h 0 = rv h1254 0 by first | decide | omega]; exact c1320
    have m1427 : Ot (h 61 1) h h1254 := Ot.fr Ot.refl f1256 (by decide)
    have m1428 : Ot (h 61 1) h h1310 := Ot.trans m1427 (Ot.cast c1321 q1367)
    have q1429 : h1310 61 1 = h1254 61 1 := f1312 61 1 (by decide +kernel)
    have q1430 : h1254 61 1 = h 61 1 := f1256 61 1 (by decide +kernel)
    have m1431 : ∀ u, u < 10 → wq h1310 (h 61 1) u = wq h (h 61 1) u := fun u hu => (Eq.trans (wq_gr t1235 f1312 (by decide) u hu) (wq_gr t1235 f1256 (by decide) u hu))
    refine x_retI (np := 50) (x := 0) (by decide +kernel) (by decide) (Or.inr ⟨by decide +kernel, by first | decide | omega, by first | decide | omega⟩) ⟨_, rfl, (by decide), ?_⟩
    exact ⟨j1311, f1322, (by first | decide | omega), (by first | decide | omega), (by first | decide | omega), (l9_lend w1422 rfl (by first | decide | omega) e1423 rfl k1426 (by first | decide | omega) (by first | decide | omega) (fun z => ⟨rfl, by first | decide | omega, by first | decide | omega, by first | decide | omega, by first | decide | omega⟩)), m1428, (fun _ => Wl.refl (by first | decide | omega) m1431)⟩
  have q1247 : ¬ ((2147483655 + 7 * u1242) ≤ 2147483788) := q1247
  refine x_const (np := 20) (x := 9223372043297226753) (a := 2147483649) (by decide +kernel) (by decide) (by decide) ?_
  refine x_goto (np := 23) (x := 24) (by decide +kernel) ?_
  refine x_retI (np := 25) (x := 0) (by decide +kernel) (by decide) (Or.inr ⟨by decide +kernel, by first | decide | omega, by first | decide | omega⟩) ⟨_, rfl, (by decide), ?_⟩
  refine x_ifz (k := 1) (tg := 48) (np := 25) (by decide +kernel) (by decide) (by decide) (fun q1432 => ?_) (fun q1433 => ?_)
  · have q1432 : 2147483649 ≠ 2147483648 := q1432
    refine x_const (np := 49) (x := 9223372039002259456) (a := 2147483648) (by decide +kernel) (by decide) (by decide) ?_
    have b1434 := jB (e := 7) 0 hJ (rg_T0_7_0_1 t1235) (by first | decide | omega) (by first | decide | omega)
    have e1435 : rv h 0 = (h (h 61 1) 7) := (congrArg (fun z => svq h z 0) rfl).trans rfl
    have e1436 : rv h 1 = (h (h 61 1) 8) := (congrArg (fun z => svq h z 1) rfl).trans rfl
    have e1437 : rv h 2 = (h ((h 61 1) + 1) 2) := (congrArg (fun z => svq h z 2) rfl).trans rfl
    have b1438 := jB (e := 2) 0 hJ (rg_T3_2_0_1 t1235) (by first | decide | omega) (by first | decide | omega)
    have e1439 : rv h 3 = (h ((h 61 1) + 3) 2) := (congrArg (fun z => svq h z 3) rfl).trans rfl
    have b1440 := jB (e := 2) 0 hJ (rg_T5_2_0_1 t1235) (by first | decide | omega) (by first | decide | omega)
    have e1441 : rv h 4 = (h ((h 61 1) + 5) 2) := (congrArg (fun z => svq h z 4) rfl).trans rfl
    have b1442 := jB (e := 2) 0 hJ (rg_T7_2_0_1 t1235) (by first | decide | omega) (by first | decide | omega)
    have e1443 : rv h 5 = (h ((h 61 1) + 7) 2) := (congrArg (fun z => svq h z 5) rfl).trans rfl
    refine x_retI (np := 50) (x := 0) (by decide +kernel) (by decide) (Or.inr ⟨by decide +kernel, by first | decide | omega, by first | decide | omega⟩) ⟨_, rfl, (by decide), ?_⟩
    exact ⟨hJ, hF, (by first | decide | omega), (by first | decide | omega), (by first | decide | omega), (l9_lend0 (Is.yes c6 (by first | decide | omega)) rfl (by first | decide | omega) (by first | decide | omega)), Ot.refl, (fun z => absurd z (by first | decide | omega))⟩
  have q1433 : ¬ (2147483649 ≠ 2147483648) := q1433
  exfalso; omega
set_option maxHeartbeats 0 in
/-- LentNames$Tape.isSign(C)Z -/
theorem c75_1 {sc : Nat × Nat} {d a1 : Nat} {h : xh} {tB : Nat → Nat} {tN : Nat} (hJ : J h) (ba1 : 2147483648 ≤ a1 ∧ a1 ≤ 2147483775) (hT : Tp tB tN h) : X sc 75 (d + 1) (xI fun r h' => h' = h ∧ (2147483648 ≤ r ∧ r ≤ 2147483649) ∧ (r = 2147483649 → h 1 2 + 1 ≤ 2147484048) ∧ Is (Sg tB tN a1 (h 1 2)) r) 0 0 0 [x_r 1, iv_c a1] [] h := by
  have la1 : a1 < 4294967296 := by first | decide | omega
  refine x_aload (np := 1) (x := 0) (by decide +kernel) rfl (x_nc_le (by decide)) ?_
  refine x_aload (np := 2) (x := 0) (by decide +kernel) rfl (x_nc_le (by decide)) ?_
  have b1 := jB (e := 2) 0 hJ rg_1_2_0_1 (by first | decide | omega) (by first | decide | omega)
  refine x_getC (np := 5) (x := 450) (f := 2) (q := (h 1 2)) (by decide +kernel) (by decide) (by decide +kernel) rfl (fun l2 => ?_)
  refine x_nI (t := 6) (mj := 81) (n := 2) (rc := 8) (ml := 2) (nr := 0) (np := 8) (as := [x_r 1, iv_c (h 1 2)]) (rest := []) (lo1 := [x_r 1, iv_c (h 1 2)]) (by decide +kernel) (by decide) (by decide +kernel) (x_rb_of (by decide +kernel)) rfl rfl (x_wr (by decide) (x_wi l2 x_wn)) x_wn (by decide) rfl ?_
  refine x_iload (np := 1) (x := 1) (by decide +kernel) rfl l2 ?_
  refine x_aload (np := 2) (x := 0) (by decide +kernel) rfl (x_nc_le (by decide)) ?_
  have b3 := jB (e := 1) 0 hJ rg_1_1_0_1 (by first | decide | omega) (by first | decide | omega)
  refine x_getC (np := 5) (x := 449) (f := 1) (q := (h 1 1)) (by decide +kernel) (by decide) (by decide +kernel) rfl (fun l4 => ?_)
  refine x_icmp (k := 3) (tg := 17) (np := 8) (by decide +kernel) (by decide) l2 l4 (fun q5 => ?_) (fun q6 => ?_)
  · have q5 : (h 1 1) ≤ (h 1 2) := q5
    refine x_const (np := 18) (x := 9223372034707292159) (a := 2147483647) (by decide +kernel) (by decide) (by decide) ?_
    refine x_retI (np := 19) (x := 0) (by decide +kernel) (by decide) (Or.inl (by decide +kernel)) ⟨_, rfl, (by decide), ?_⟩
    refine x_iload (np := 9) (x := 1) (by decide +kernel) rfl la1 ?_
    refine x_icmp (k := 1) (tg := 16) (np := 12) (by decide +kernel) (by decide) (by decide) la1 (fun q7 => ?_) (fun q8 => ?_)
    · have q7 : 2147483647 ≠ a1 := q7
      refine x_const (np := 17) (x := 9223372039002259456) (a := 2147483648) (by decide +kernel) (by decide) (by decide) ?_
      have z9 := hT.1
      refine x_retI (np := 18) (x := 0) (by decide +kernel) (by decide) (Or.inr ⟨by decide +kernel, by first | decide | omega, by first | decide | omega⟩) ⟨_, rfl, (by decide), ?_⟩
      exact ⟨rfl, (by first | decide | omega), (fun z => by first | decide | omega), (Is.mk0 (by first | decide | omega) (fun z => by have z1 := z.1; have z2 := z.2; omega))⟩
    have q8 : ¬ (2147483647 ≠ a1) := q8
    exfalso; omega
  have q6 : ¬ ((h 1 1) ≤ (h 1 2)) := q6
  refine x_aload (np := 9) (x := 0) (by decide +kernel) rfl (x_nc_le (by decide)) ?_
  have q10 : h 1 0 = 2 := by have z := jB (e := 0) 0 hJ rg_1_0_0_1 (by decide) (by decide); omega
  refine x_getR (np := 12) (x := 448) (f := 0) (q := 2) (by decide +kernel) (by decide) (by decide +kernel) q10 ?_
  refine x_iload (np := 13) (x := 1) (by decide +kernel) rfl l2 ?_
  obtain ⟨u11, q12⟩ : ∃ z, (h 1 2) = 2147483648 + z := ⟨(h 1 2) - 2147483648, by first | decide | omega⟩
  refine x_aldC (np := 14) (x := 0) (n := 400) (i := u11) (q := (h 2 u11)) (by decide +kernel) (by decide +kernel) (by first | decide | omega) (by first | decide | omega) (by decide) rfl (fun l13 => ?_)
  refine x_goto (np := 17) (x := 18) (by decide +kernel) ?_
  refine x_retI (np := 19) (x := 0) (by decide +kernel) l13 (Or.inl (by decide +kernel)) ⟨_, rfl, l13, ?_⟩
  refine x_iload (np := 9) (x := 1) (by decide +kernel) rfl la1 ?_
  refine x_icmp (k := 1) (tg := 16) (np := 12) (by decide +kernel) (by decide) l13 la1 (fun q14 => ?_) (fun q15 => ?_)
  · have q14 : (h 2 u11) ≠ a1 := q14
    refine x_const (np := 17) (x := 9223372039002259456) (a := 2147483648) (by decide +kernel) (by decide) (by decide) ?_
    have z16 := hT.1
    have z17 := Tp.at (p := (h 1 2)) (u := u11) hT (by first | decide | omega) (by first | decide | omega)
    refine x_retI (np := 18) (x := 0) (by decide +kernel) (by decide) (Or.inr ⟨by decide +kernel, by first | decide | omega, by first | decide | omega⟩) ⟨_, rfl, (by decide), ?_⟩
    exact ⟨rfl, (by first | decide | omega), (fun z => by first | decide | omega), (Is.mk0 (by first | decide | omega) (fun z => by have z1 := z.1; have z2 := z.2; omega))⟩
  have q15 : ¬ ((h 2 u11) ≠ a1) := q15
  refine x_const (np := 13) (x := 9223372043297226753) (a := 2147483649) (by decide +kernel) (by decide) (by decide) ?_
  refine x_goto (np := 16) (x := 17) (by decide +kernel) ?_
  have z18 := hT.1
  have z19 := Tp.at (p := (h 1 2)) (u := u11) hT (by first | decide | omega) (by first | decide | omega)
  refine x_retI (np := 18) (x := 0) (by decide +kernel) (by decide) (Or.inr ⟨by decide +kernel, by first | decide | omega, by first | decide | omega⟩) ⟨_, rfl, (by decide), ?_⟩
  exact ⟨rfl, (by first | decide | omega), (fun z => by first | decide | omega), (Is.mk1 (by first | decide | omega) ⟨by first | decide | omega, by first | decide | omega⟩)⟩
set_option maxHeartbeats 0 in
/-- LentNames$Tape.takesSign(C)Z -/
theorem c76_1 {sc : Nat × Nat} {d a1 : Nat} {h : xh} {tB : Nat → Nat} {tN : Nat} (hJ : J h) (ba1 : 2147483648 ≤ a1 ∧ a1 ≤ 2147483775) (hT : Tp tB tN h) : X sc 76 (d + 2) (xI fun r h' => J h' ∧ Fr 33 h h' ∧ (2147483648 ≤ r ∧ r ≤ 2147483649) ∧ (r = 2147483649 → h 1 2 + 1 ≤ h' 1 2) ∧ (r = 2147483648 → h' 1 2 = h 1 2) ∧ Tk (Sg tB tN a1 (h 1 2)) tB tN (h 1 2) 1 r (h' 1 2)) 0 0 0 [x_r 1, iv_c a1] [] h := by
  have la1 : a1 < 4294967296 := by first | decide | omega
  have hF := Fr.refl 33 h
  refine x_aload (np := 1) (x := 0) (by decide +kernel) rfl (x_nc_le (by decide)) ?_
  refine x_iload (np := 2) (x := 1) (by decide +kernel) rfl la1 ?_
  refine x_cP (t := 6) (mj := 75) (n := 2) (rc := 8) (ml := 2) (nr := 0) (np := 5) (as := [x_r 1, iv_c a1]) (rest := []) (lo1 := [x_r 1, iv_c a1]) (by decide +kernel) (by decide) (by decide +kernel) (x_rb_of (by decide +kernel)) rfl rfl (x_wr (by decide) (x_wi la1 x_wn)) x_wn (by decide) rfl (c75_1 hJ  (by first | decide | omega) hT) (fun v1 l2 q3 => ?_)
  obtain ⟨b6, c4, c5⟩ := q3
  have b7 := jB (e := 1) 0 hJ rg_1_1_0_1 (by first | decide | omega) (by first | decide | omega)
  have b8 := jB (e := 2) 0 hJ rg_1_2_0_1 (by first | decide | omega) (by first | decide | omega)
  refine x_ifz (k := 1) (tg := 10) (np := 8) (by decide +kernel) (by decide) l2 (fun q9 => ?_) (fun q10 => ?_)
  · have q9 : v1 ≠ 2147483648 := q9
    have b11 := c4 (by first | decide | omega)
    refine x_aload (np := 11) (x := 0) (by decide +kernel) rfl (x_nc_le (by decide)) ?_
    refine x_aload (np := 12) (x := 0) (by decide +kernel) rfl (x_nc_le (by decide)) ?_
    refine x_getC (np := 15) (x := 450) (f := 2) (q := (h 1 2)) (by decide +kernel) (by decide) (by decide +kernel) rfl (fun l12 => ?_)
    refine x_const (np := 16) (x := 9223372043297226753) (a := 2147483649) (by decide +kernel) (by decide) (by decide) ?_
    refine x_iadd (np := 17) (x := 0) (v := (1 + (h 1 2))) (by decide +kernel) l12 (by decide) (by first | decide | omega) (by first | decide | omega) ?_
    refine x_cV (t := 6) (mj := 80) (n := 2) (rc := 8) (ml := 2) (nr := 0) (np := 20) (as := [x_r 1, iv_c (1 + (h 1 2))]) (rest := []) (lo1 := [x_r 1, iv_c (1 + (h 1 2))]) (by decide +kernel) (by decide) (by decide +kernel) (x_rb_of (by decide +kernel)) rfl rfl (x_wr (by decide) (x_wi (by first | decide | omega) x_wn)) x_wn (by decide) rfl (c80_1 hJ  (by first | decide | omega) hT) (fun h16 q15 => ?_)
    obtain ⟨j17, f18, c21, c22⟩ := q15
    have f23 := Fr.trans hF f18 (by decide)
    have b24 := jB (e := 2) 0 j17 rg_1_2_0_1 (by first | decide | omega) (by first | decide | omega)
    refine x_const (np := 21) (x := 9223372043297226753) (a := 2147483649) (by decide +kernel) (by decide) (by decide) ?_
    refine x_retI (np := 22) (x := 0) (by decide +kernel) (by decide) (Or.inr ⟨by decide +kernel, by first | decide | omega, by first | decide | omega⟩) ⟨_, rfl, (by decide), ?_⟩
    exact ⟨j17, f23, (by first | decide | omega), (fun z => by first | decide | omega), (fun z => by first | decide | omega), (Tk.mk1 (by first | decide | omega) (Is.yes c5 (by first | decide | omega)) c22 (by first | decide | omega))⟩
  have q10 : ¬ (v1 ≠ 2147483648) := q10
  refine x_const (np := 9) (x := 9223372039002259456) (a := 2147483648) (by decide +kernel) (by decide) (by decide) ?_
  refine x_retI (np := 10) (x := 0) (by decide +kernel) (by decide) (Or.inr ⟨by decide +kernel, by first | decide | omega, by first | decide | omega⟩) ⟨_, rfl, (by decide), ?_⟩
  exact ⟨hJ, hF, (by first | decide | omega), (fun z => by first | decide | omega), (fun z => by first | decide | omega), (Tk.mk0 (by first | decide | omega) (Is.no c5 (by first | decide | omega)) rfl)⟩
set_option maxHeartbeats 0 in
/-- LentNames$TownReader.reads(LLentNames$Town;)Z -/
theorem c92_61_T0 {sc : Nat × Nat} {d ra1 : Nat} {h : xh} {tB : Nat → Nat} {tN : Nat} (hJ : J h) (ta1 : tw ra1) (hT : Tp tB tN h) : X sc 92 (d + 9) (xI fun r h' => J h' ∧ Fr 63331869759914145 h h' ∧ (2147483648 ≤ r ∧ r ≤ 2147483649) ∧ (h' ra1 7 = h ra1 7) ∧ (h' ra1 8 = h ra1 8) ∧ Tt tB tN (h ra1 7) (h (ra1 + 1) 2) (h (ra1 + 3) 2) (h (ra1 + 5) 2) (h (ra1 + 7) 2) (rs4 r (h' (ra1 + 1) 2) (h' (ra1 + 3) 2) (h' (ra1 + 5) 2) (h' (ra1 + 7) 2)) ∧ Ot ra1 h h' ∧ (r = 2147483649 → Wl (wq h ra1) (wq h' ra1) (h (ra1 + 3) 2) (h' (ra1 + 3) 2))) 0 0 0 [x_r 61, x_r ra1, 147573952589676412928] [] h := by
  have hF := Fr.refl 63331869759914145 h
  refine x_aload (np := 1) (x := 0) (by decide +kernel) rfl (x_nc_le (by decide)) ?_
  refine x_aload (np := 2) (x := 1) (by decide +kernel) rfl (x_nc_le (tn_0 ta1)) ?_
  refine x_putR (np := 5) (x := 8769) (f := 1) (by decide +kernel) (by decide +kernel) (tn_0 ta1) (by decide) ?_
  have j2 := J_upW (k := 61) (i := 1) hJ ta1 (by decide)
  have f4 := Fr.up (k := 61) (i := 1) (v := ra1) hF (by decide +kernel)
  generalize e3 : x_up h 61 1 ra1 = h1 at j2 f4 ⊢
  refine x_aload (np := 6) (x := 0) (by decide +kernel) rfl (x_nc_le (by decide)) ?_
  have q5 : h1 61 0 = 1 := by have z := jB (e := 0) 0 j2 rg_61_0_0_1 (by decide) (by decide); omega
  refine x_getR (np := 9) (x := 576) (f := 0) (q := 1) (by decide +kernel) (by decide) (by decide +kernel) q5 ?_
  refine x_nV (t := 6) (mj := 73) (n := 1) (rc := 8) (ml := 1) (nr := 0) (np := 12) (as := [x_r 1]) (rest := []) (lo1 := [x_r 1]) (by decide +kernel) (by decide) (by decide +kernel) (x_rb_of (by decide +kernel)) rfl rfl (x_wr (by decide) x_wn) x_wn (by decide) rfl ?_
  refine x_aload (np := 1) (x := 0) (by decide +kernel) rfl (x_nc_le (by decide)) ?_
  refine x_const (np := 2) (x := 9223372039002259456) (a := 2147483648) (by decide +kernel) (by decide) (by decide) ?_
  have m9 : Tp tB tN h1 := by rw [← e3]; exact Tp.oth hT (by decide) (by decide)
  refine x_cV (t := 6) (mj := 80) (n := 2) (rc := 8) (ml := 2) (nr := 0) (np := 5) (as := [x_r 1, iv_c 2147483648]) (rest := []) (lo1 := [x_r 1, iv_c 2147483648]) (by decide +kernel) (by decide) (by decide +kernel) (x_rb_of (by decide +kernel)) rfl rfl (x_wr (by decide) (x_wi (by decide) x_wn)) x_wn (by decide) rfl (c80_1 j2  (by first | decide | omega) m9) (fun h10 q8 => ?_)
  obtain ⟨j11, f12, c15, c16⟩ := q8
  have f17 := Fr.trans f4 f12 (by decide)
  have b18 := jB (e := 2) 0 j11 rg_1_2_0_1 (by first | decide | omega) (by first | decide | omega)
  refine x_retV (np := 6) (x := 0) (by decide +kernel) (by decide +kernel) ⟨rfl, ?_⟩
  refine x_aload (np := 13) (x := 0) (by decide +kernel) rfl (x_nc_le (by decide)) ?_
  have q19 : h10 61 0 = 1 := by have z := jB (e := 0) 0 j11 rg_61_0_0_1 (by decide) (by decide); omega
  refine x_getR (np := 16) (x := 576) (f := 0) (q := 1) (by decide +kernel) (by decide) (by decide +kernel) q19 ?_
  refine x_nI (t := 6) (mj := 74) (n := 1) (rc := 8) (ml := 1) (nr := 0) (np := 19) (as := [x_r 1]) (rest := []) (lo1 := [x_r 1]) (by decide +kernel) (by decide) (by decide +kernel) (x_rb_of (by decide +kernel)) rfl rfl (x_wr (by decide) x_wn) x_wn (by decide) rfl ?_
  refine x_aload (np := 1) (x := 0) (by decide +kernel) rfl (x_nc_le (by decide)) ?_
  refine x_getC (np := 4) (x := 450) (f := 2) (q := (h10 1 2)) (by decide +kernel) (by decide) (by decide +kernel) rfl (fun l20 => ?_)
  refine x_aload (np := 5) (x := 0) (by decide +kernel) rfl (x_nc_le (by decide)) ?_
  have q21 : h10 1 1 = h1 1 1 := jK 0 f12 rg_1_1_0_1 (by first | decide | omega) (by first | decide | omega) (by decide)
  have q22 : h1 1 1 = h 1 1 := by rw [← e3]; exact x_up_k (by decide)
  have b23 := jB (e := 1) 0 hJ rg_1_1_0_1 (by first | decide | omega) (by first | decide | omega)
  refine x_getC (np := 8) (x := 449) (f := 1) (q := (h 1 1)) (by decide +kernel) (by decide) (by decide +kernel) (q21.trans q22) (fun l24 => ?_)
  refine x_icmp (k := 2) (tg := 15) (np := 11) (by decide +kernel) (by decide) l20 l24 (fun q25 => ?_) (fun q26 => ?_)
  · have q25 : (h10 1 2) < (h 1 1) := q25
    refine x_const (np := 16) (x := 9223372039002259456) (a := 2147483648) (by decide +kernel) (by decide) (by decide) ?_
    refine x_retI (np := 17) (x := 0) (by decide +kernel) (by decide) (Or.inr ⟨by decide +kernel, by first | decide | omega, by first | decide | omega⟩) ⟨_, rfl, (by decide), ?_⟩
    refine x_ifz (k := 0) (tg := 24) (np := 22) (by decide +kernel) (by decide) (by decide) (fun q27 => ?_) (fun q28 => ?_)
    · have q27 : 2147483648 = 2147483648 := q27
      refine x_const (np := 25) (x := 9223372039002259456) (a := 2147483648) (by decide +kernel) (by decide) (by decide) ?_
      refine x_istore (np := 26) (x := 2) (lo' := [x_r 61, x_r ra1, iv_c 2147483648]) (by decide +kernel) (by decide) (Nat.le_of_ble_eq_true rfl) rfl ?_
      have p1449 : ∀ (n : Nat) (v1444 : Nat) (h1446 : xh), 4294967296 - v1444 < n → (2147483648 ≤ v1444 ∧ v1444 ≤ 2147483662) → rv h1446 0 = h ra1 7 → rv h1446 1 = h ra1 8 → J h1446 → Fr 63331869759897761 h10 h1446 → Tl tB tN (h ra1 7) (h (ra1 + 1) 2) (h (ra1 + 3) 2) (h (ra1 + 5) 2) (h (ra1 + 7) 2) (2147483662 - v1444) (rv h1446 2) (rv h1446 3) (rv h1446 4) (rv h1446 5) (h1446 1 2) → Ot ra1 h h1446 → Wl (wq h ra1) (wq h1446 ra1) (h (ra1 + 3) 2) (rv h1446 3) → X sc 92 (d + 9) (xI fun r h' => J h' ∧ Fr 63331869759914145 h h' ∧ (2147483648 ≤ r ∧ r ≤ 2147483649) ∧ (h' ra1 7 = h ra1 7) ∧ (h' ra1 8 = h ra1 8) ∧ Tt tB tN (h ra1 7) (h (ra1 + 1) 2) (h (ra1 + 3) 2) (h (ra1 + 5) 2) (h (ra1 + 7) 2) (rs4 r (h' (ra1 + 1) 2) (h' (ra1 + 3) 2) (h' (ra1 + 5) 2) (h' (ra1 + 7) 2)) ∧ Ot ra1 h h' ∧ (r = 2147483649 → Wl (wq h ra1) (wq h' ra1) (h (ra1 + 3) 2) (h' (ra1 + 3) 2))) 0 0 26 [x_r 61, x_r ra1, iv_c v1444] [] h1446 := by
        intro n
        induction n with
        | zero => intro v1444 h1446 q1455; exact absurd q1455 (Nat.not_lt_zero _)
        | succ n i1456 =>
          intro v1444 h1446 q1455 b1445 b1450 b1451 j1448 f1447 m1452 m1453 m1454
          have f1457 := Fr.trans f17 f1447 (by decide)
          have b1458 := jB (e := 2) 0 j1448 rg_1_2_0_1 (by first | decide | omega) (by first | decide | omega)
          have q1459 : h1446 61 1 = h10 61 1 := f1447 61 1 (by decide +kernel)
          have q1460 : h10 61 1 = h1 61 1 := f12 61 1 (by decide +kernel)
          have q1461 : h1 61 1 = ra1 := by rw [← e3]; exact x_up_at
          have b1462 := jB (e := 7) 0 j1448 (rg_T0_7_0_1 ta1) (by first | decide | omega) (by first | decide | omega)
          have e1463 : rv h1446 0 = (h1446 ra1 7) := (congrArg (fun z => svq h1446 z 0) ((q1459.trans q1460).trans q1461)).trans rfl
          have q1464 : h1446 61 1 = h10 61 1 := f1447 61 1 (by decide +kernel)
          have q1465 : h10 61 1 = h1 61 1 := f12 61 1 (by decide +kernel)
          have q1466 : h1 61 1 = ra1 := by rw [← e3]; exact x_up_at
          have e1467 : rv h1446 1 = (h1446 ra1 8) := (congrArg (fun z => svq h1446 z 1) ((q1464.trans q1465).trans q1466)).trans rfl
          have q1468 : h1446 61 1 = h10 61 1 := f1447 61 1 (by decide +kernel)
          have q1469 : h10 61 1 = h1 61 1 := f12 61 1 (by decide +kernel)
          have q1470 : h1 61 1 = ra1 := by rw [← e3]; exact x_up_at
          have b1471 := jB (e := 2) 0 j1448 (rg_T1_2_0_1 ta1) (by first | decide | omega) (by first | decide | omega)
          have e1472 : rv h1446 2 = (h1446 (ra1 + 1) 2) := (congrArg (fun z => svq h1446 z 2) ((q1468.trans q1469).trans q1470)).trans rfl
          have q1473 : h1446 61 1 = h10 61 1 := f1447 61 1 (by decide +kernel)
          have q1474 : h10 61 1 = h1 61 1 := f12 61 1 (by decide +kernel)
          have q1475 : h1 61 1 = ra1 := by rw [← e3]; exact x_up_at
          have b1476 := jB (e := 2) 0 j1448 (rg_T3_2_0_1 ta1) (by first | decide | omega) (by first | decide | omega)
          have e1477 : rv h1446 3 = (h1446 (ra1 + 3) 2) := (congrArg (fun z => svq h1446 z 3) ((q1473.trans q1474).trans q1475)).trans rfl
          have q1478 : h1446 61 1 = h10 61 1 := f1447 61 1 (by decide +kernel)
          have q1479 : h10 61 1 = h1 61 1 := f12 61 1 (by decide +kernel)
          have q1480 : h1 61 1 = ra1 := by rw [← e3]; exact x_up_at
          have b1481 := jB (e := 2) 0 j1448 (rg_T5_2_0_1 ta1) (by first | decide | omega) (by first | decide | omega)
          have e1482 : rv h1446 4 = (h1446 (ra1 + 5) 2) := (congrArg (fun z => svq h1446 z 4) ((q1478.trans q1479).trans q1480)).trans rfl
          have q1483 : h1446 61 1 = h10 61 1 := f1447 61 1 (by decide +kernel)
          have q1484 : h10 61 1 = h1 61 1 := f12 61 1 (by decide +kernel)
          have q1485 : h1 61 1 = ra1 := by rw [← e3]; exact x_up_at
          have b1486 := jB (e := 2) 0 j1448 (rg_T7_2_0_1 ta1) (by first | decide | omega) (by first | decide | omega)
          have e1487 : rv h1446 5 = (h1446 (ra1 + 7) 2) := (congrArg (fun z => svq h1446 z 5) ((q1483.trans q1484).trans q1485)).trans rfl
          have b1488 := jB (e := 7) 0 hJ (rg_T0_7_0_1 ta1) (by first | decide | omega) (by first | decide | omega)
          refine x_iload (np := 27) (x := 2) (by decide +kernel) rfl (by first | decide | omega) ?_
          refine x_const (np := 29) (x := 9223372099131801614) (a := 2147483662) (by decide +kernel) (by decide) (by decide) ?_
          refine x_icmp (k := 3) (tg := 73) (np := 32) (by decide +kernel) (by decide) (by first | decide | omega) (by decide) (fun q1489 => ?_) (fun q1490 => ?_)
          · have q1489 : 2147483662 ≤ v1444 := q1489
            refine x_const (np := 74) (x := 9223372039002259456) (a := 2147483648) (by decide +kernel) (by decide) (by decide) ?_
            have b1491 := jB (e := 2) 0 hJ (rg_T1_2_0_1 ta1) (by first | decide | omega) (by first | decide | omega)
            have b1492 := jB (e := 2) 0 hJ (rg_T3_2_0_1 ta1) (by first | decide | omega) (by first | decide | omega)
            have b1493 := jB (e := 2) 0 hJ (rg_T5_2_0_1 ta1) (by first | decide | omega) (by first | decide | omega)
            have b1494 := jB (e := 2) 0 hJ (rg_T7_2_0_1 ta1) (by first | decide | omega) (by first | decide | omega)
            refine x_retI (np := 75) (x := 0) (by decide +kernel) (by decide) (Or.inr ⟨by decide +kernel, by first | decide | omega, by first | decide | omega⟩) ⟨_, rfl, (by decide), ?_⟩
            exact ⟨j1448, f1457, (by first | decide | omega), (by first | decide | omega), (by first | decide | omega), (Tt.n0 (by first | decide | omega) (Tl.full m1452 (by first | decide | omega))), m1453, (fun z => absurd z (by first | decide | omega))⟩
          have q1490 : ¬ (2147483662 ≤ v1444) := q1490
          refine x_aload (np := 33) (x := 0) (by decide +kernel) rfl (x_nc_le (by decide)) ?_
          have m1499 := Tp.fr m9 f12 (by decide) (by decide)
          have m1498 := Tp.fr m1499 f1447 (by decide) (by decide)
          refine x_cI (t := 6) (mj := 93) (n := 1) (rc := 10) (ml := 1) (nr := 0) (np := 36) (as := [x_r 61]) (rest := []) (lo1 := [x_r 61]) (by decide +kernel) (by decide) (by decide +kernel) (x_rb_of (by decide +kernel)) rfl rfl (x_wr (by decide) x_wn) x_wn (by decide) rfl (c93_61 j1448  m1498) (fun v1495 h1500 l1496 q1497 => ?_)
          obtain ⟨j1501, f1502, b1503, c1504, c1505, c1506, c1507, c1508⟩ := q1497
          have f1509 := Fr.trans f1457 f1502 (by decide)
          have f1510 := Fr.trans f1447 f1502 (by decide)
          have q1511 : h1446 61 1 = h10 61 1 := f1447 61 1 (by decide +kernel)
          have q1512 : h10 61 1 = h1 61 1 := f12 61 1 (by decide +kernel)
          have q1513 : h1 61 1 = ra1 := by rw [← e3]; exact x_up_at
          have q1514 : h1500 61 1 = h1446 61 1 := f1502 61 1 (by decide +kernel)
          have q1515 : h1446 61 1 = h10 61 1 := f1447 61 1 (by decide +kernel)
          have q1516 : h10 61 1 = h1 61 1 := f12 61 1 (by decide +kernel)
          have q1517 : h1 61 1 = ra1 := by rw [← e3]; exact x_up_at
          have b1518 := jB (e := 7) 0 j1501 (rg_T0_7_0_1 ta1) (by first | decide | omega) (by first | decide | omega)
          have e1519 : rv h1500 0 = (h1500 ra1 7) := (congrArg (fun z => svq h1500 z 0) (((q1514.trans q1515).trans q1516).trans q1517)).trans rfl
          have q1520 : h1446 61 1 = h10 61 1 := f1447 61 1 (by decide +kernel)
          have q1521 : h10 61 1 = h1 61 1 := f12 61 1 (by decide +kernel)
          have q1522 : h1 61 1 = ra1 := by rw [← e3]; exact x_up_at
          have q1523 : h1500 61 1 = h1446 61 1 := f1502 61 1 (by decide +kernel)
          have q1524 : h1446 61 1 = h10 61 1 := f1447 61 1 (by decide +kernel)
          have q1525 : h10 61 1 = h1 61 1 := f12 61 1 (by decide +kernel)
          have q1526 : h1 61 1 = ra1 := by rw [← e3]; exact x_up_at
          have e1527 : rv h1500 1 = (h1500 ra1 8) := (congrArg (fun z => svq h1500 z 1) (((q1523.trans q1524).trans q1525).trans q1526)).trans rfl
          have q1528 : h1446 61 1 = h10 61 1 := f1447 61 1 (by decide +kernel)
          have q1529 : h10 61 1 = h1 61 1 := f12 61 1 (by decide +kernel)
          have q1530 : h1 61 1 = ra1 := by rw [← e3]; exact x_up_at
          refine x_ifz (k := 1) (tg := 41) (np := 39) (by decide +kernel) (by decide) l1496 (fun q1531 => ?_) (fun q1532 => ?_)
          · have q1531 : v1495 ≠ 2147483648 := q1531
            refine x_aload (np := 42) (x := 0) (by decide +kernel) rfl (x_nc_le (by decide)) ?_
            have q1533 : h1500 61 0 = 1 := by have z := jB (e := 0) 0 j1501 rg_61_0_0_1 (by decide) (by decide); omega
            refine x_getR (np := 45) (x := 576) (f := 0) (q := 1) (by decide +kernel) (by decide) (by decide +kernel) q1533 ?_
            refine x_nI (t := 6) (mj := 74) (n := 1) (rc := 8) (ml := 1) (nr := 0) (np := 48) (as := [x_r 1]) (rest := []) (lo1 := [x_r 1]) (by decide +kernel) (by decide) (by decide +kernel) (x_rb_of (by decide +kernel)) rfl rfl (x_wr (by decide) x_wn) x_wn (by decide) rfl ?_
            refine x_aload (np := 1) (x := 0) (by decide +kernel) rfl (x_nc_le (by decide)) ?_
            have b1534 := jB (e := 2) 0 j1501 rg_1_2_0_1 (by first | decide | omega) (by first | decide | omega)
            refine x_getC (np := 4) (x := 450) (f := 2) (q := (h1500 1 2)) (by decide +kernel) (by decide) (by decide +kernel) rfl (fun l1535 => ?_)
            refine x_aload (np := 5) (x := 0) (by decide +kernel) rfl (x_nc_le (by decide)) ?_
            have q1536 : h1500 1 1 = h1446 1 1 := jK 0 f1502 rg_1_1_0_1 (by first | decide | omega) (by first | decide | omega) (by decide)
            have q1537 : h1446 1 1 = h10 1 1 := jK 0 f1447 rg_1_1_0_1 (by first | decide | omega) (by first | decide | omega) (by decide)
            have q1538 : h10 1 1 = h1 1 1 := jK 0 f12 rg_1_1_0_1 (by first | decide | omega) (by first | decide | omega) (by decide)
            have q1539 : h1 1 1 = h 1 1 := by rw [← e3]; exact x_up_k (by decide)
            refine x_getC (np := 8) (x := 449) (f := 1) (q := (h 1 1)) (by decide +kernel) (by decide) (by decide +kernel) (((q1536.trans q1537).trans q1538).trans q1539) (fun l1540 => ?_)
            refine x_icmp (k := 2) (tg := 15) (np := 11) (by decide +kernel) (by decide) l1535 l24 (fun q1541 => ?_) (fun q1542 => ?_)
            · have q1541 : (h1500 1 2) < (h 1 1) := q1541
              refine x_const (np := 16) (x := 9223372039002259456) (a := 2147483648) (by decide +kernel) (by decide) (by decide) ?_
              refine x_retI (np := 17) (x := 0) (by decide +kernel) (by decide) (Or.inr ⟨by decide +kernel, by first | decide | omega, by first | decide | omega⟩) ⟨_, rfl, (by decide), ?_⟩
              refine x_ifz (k := 0) (tg := 53) (np := 51) (by decide +kernel) (by decide) (by decide) (fun q1543 => ?_) (fun q1544 => ?_)
              · have q1543 : 2147483648 = 2147483648 := q1543
                refine x_aload (np := 54) (x := 0) (by decide +kernel) rfl (x_nc_le (by decide)) ?_
                have q1545 : h1500 61 0 = 1 := by have z := jB (e := 0) 0 j1501 rg_61_0_0_1 (by decide) (by decide); omega
                refine x_getR (np := 57) (x := 576) (f := 0) (q := 1) (by decide +kernel) (by decide) (by decide +kernel) q1545 ?_
                refine x_const (np := 59) (x := 9223372292405329979) (a := 2147483707) (by decide +kernel) (by decide) (by decide) ?_
                have m1549 := Tp.fr m1498 f1502 (by decide) (by decide)
                refine x_cI (t := 6) (mj := 76) (n := 2) (rc := 8) (ml := 2) (nr := 0) (np := 62) (as := [x_r 1, iv_c 2147483707]) (rest := []) (lo1 := [x_r 1, iv_c 2147483707]) (by decide +kernel) (by decide) (by decide +kernel) (x_rb_of (by decide +kernel)) rfl rfl (x_wr (by decide) (x_wi (by decide) x_wn)) x_wn (by decide) rfl (c76_1 j1501  (by first | decide | omega) m1549) (fun v1546 h1550 l1547 q1548 => ?_)
                obtain ⟨j1551, f1552, b1553, c1554, c1555, c1556⟩ := q1548
                have f1557 := Fr.trans f1509 f1552 (by decide)
                have f1558 := Fr.trans f1510 f1552 (by decide)
                have b1559 := jB (e := 2) 0 j1551 rg_1_2_0_1 (by first | decide | omega) (by first | decide | omega)
                refine x_ifz (k := 1) (tg := 67) (np := 65) (by decide +kernel) (by decide) l1547 (fun q1560 => ?_) (fun q1561 => ?_)
                · have q1560 : v1546 ≠ 2147483648 := q1560
                  have b1562 := c1554 (by first | decide | omega)
                  refine x_iinc (np := 70) (i := 2) (j := 2147483649) (v := (1 + v1444)) (lo' := [x_r 61, x_r ra1, iv_c (1 + v1444)]) (by decide +kernel) (by decide) (by decide) rfl (by first | decide | omega) (by first | decide | omega) (by first | decide | omega) rfl ?_
                  refine x_goto (np := 73) (x := 26) (by decide +kernel) ?_
                  have q1563 : h1550 61 1 = h1500 61 1 := f1552 61 1 (by decide +kernel)
                  have q1564 : h1500 61 1 = h1446 61 1 := f1502 61 1 (by decide +kernel)
                  have q1565 : h1446 61 1 = h10 61 1 := f1447 61 1 (by decide +kernel)
                  have q1566 : h10 61 1 = h1 61 1 := f12 61 1 (by decide +kernel)
                  have q1567 : h1 61 1 = ra1 := by rw [← e3]; exact x_up_at
                  have q1568 : h1550 ra1 7 = h1500 ra1 7 := jK 0 f1552 (rg_T0_7_0_1 ta1) (by first | decide | omega) (by first | decide | omega) (by decide)
                  have e1569 : rv h1550 0 = (h1500 ra1 7) := (congrArg (fun z => svq h1550 z 0) ((((q1563.trans q1564).trans q1565).trans q1566).trans q1567)).trans q1568
                  have q1570 : h1550 61 1 = h1500 61 1 := f1552 61 1 (by decide +kernel)
                  have q1571 : h1500 61 1 = h1446 61 1 := f1502 61 1 (by decide +kernel)
                  have q1572 : h1446 61 1 = h10 61 1 := f1447 61 1 (by decide +kernel)
                  have q1573 : h10 61 1 = h1 61 1 := f12 61 1 (by decide +kernel)
                  have q1574 : h1 61 1 = ra1 := by rw [← e3]; exact x_up_at
                  have q1575 : h1550 ra1 8 = h1500 ra1 8 := jK 0 f1552 (rg_T0_8_0_1 ta1) (by first | decide | omega) (by first | decide | omega) (by decide)
                  have e1576 : rv h1550 1 = (h1500 ra1 8) := (congrArg (fun z => svq h1550 z 1) ((((q1570.trans q1571).trans q1572).trans q1573).trans q1574)).trans q1575
                  obtain ⟨w1577, e1578⟩ := Tk.yes c1556 (by first | decide | omega)
                  have q1580 : h1446 61 1 = h10 61 1 := f1447 61 1 (by decide +kernel)
                  have q1581 : h10 61 1 = h1 61 1 := f12 61 1 (by decide +kernel)
                  have q1582 : h1 61 1 = ra1 := by rw [← e3]; exact x_up_at
                  have q1583 : h1446 61 1 = h10 61 1 := f1447 61 1 (by decide +kernel)
                  have q1584 : h10 61 1 = h1 61 1 := f12 61 1 (by decide +kernel)
                  have q1585 : h1 61 1 = ra1 := by rw [← e3]; exact x_up_at
                  have q1586 : h1446 61 1 = h10 61 1 := f1447 61 1 (by decide +kernel)
                  have q1587 : h10 61 1 = h1 61 1 := f12 61 1 (by decide +kernel)
                  have q1588 : h1 61 1 = ra1 := by rw [← e3]; exact x_up_at
                  have q1589 : h1446 61 1 = h10 61 1 := f1447 61 1 (by decide +kernel)
                  have q1590 : h10 61 1 = h1 61 1 := f12 61 1 (by decide +kernel)
                  have q1591 : h1 61 1 = ra1 := by rw [← e3]; exact x_up_at
                  have q1592 : h1446 61 1 = h10 61 1 := f1447 61 1 (by decide +kernel)
                  have q1593 : h10 61 1 = h1 61 1 := f12 61 1 (by decide +kernel)
                  have q1594 : h1 61 1 = ra1 := by rw [← e3]; exact x_up_at
                  have q1595 : h1446 61 1 = h10 61 1 := f1447 61 1 (by decide +kernel)
                  have q1596 : h10 61 1 = h1 61 1 := f12 61 1 (by decide +kernel)
                  have q1597 : h1 61 1 = ra1 := by rw [← e3]; exact x_up_at
                  have q1598 : h1446 61 1 = h10 61 1 := f1447 61 1 (by decide +kernel)
                  have q1599 : h10 61 1 = h1 61 1 := f12 61 1 (by decide +kernel)
                  have q1600 : h1 61 1 = ra1 := by rw [← e3]; exact x_up_at
                  have q1601 : h1446 61 1 = h10 61 1 := f1447 61 1 (by decide +kernel)
                  have q1602 : h10 61 1 = h1 61 1 := f12 61 1 (by decide +kernel)
                  have q1603 : h1 61 1 = ra1 := by rw [← e3]; exact x_up_at
                  have q1604 : h1446 61 1 = h10 61 1 := f1447 61 1 (by decide +kernel)
                  have q1605 : h10 61 1 = h1 61 1 := f12 61 1 (by decide +kernel)
                  have q1606 : h1 61 1 = ra1 := by rw [← e3]; exact x_up_at
                  have k1579 := l9_pe (pe' := h ra1 7) (l1 := rv h1446 2) (t1 := rv h1446 3) (d1 := rv h1446 4) (s1 := rv h1446 5) c1506 (by first | decide | omega) (by first | decide | omega) (by first | decide | omega) (by first | decide | omega) (by first | decide | omega)
                  have q1608 : h1550 61 1 = h1500 61 1 := f1552 61 1 (by decide +kernel)
                  have q1609 : h1500 61 1 = h1446 61 1 := f1502 61 1 (by decide +kernel)
                  have q1610 : h1446 61 1 = h10 61 1 := f1447 61 1 (by decide +kernel)
                  have q1611 : h10 61 1 = h1 61 1 := f12 61 1 (by decide +kernel)
                  have q1612 : h1 61 1 = ra1 := by rw [← e3]; exact x_up_at
                  have q1613 : h1550 (ra1 + 1) 2 = h1500 (ra1 + 1) 2 := jK 0 f1552 (rg_T1_2_0_1 ta1) (by first | decide | omega) (by first | decide | omega) (by decide)
                  have b1614 := jB (e := 2) 0 j1501 (rg_T1_2_0_1 ta1) (by first | decide | omega) (by first | decide | omega)
                  have e1615 : rv h1550 2 = (h1500 (ra1 + 1) 2) := (congrArg (fun z => svq h1550 z 2) ((((q1608.trans q1609).trans q1610).trans q1611).trans q1612)).trans q1613
                  have q1616 : h1500 61 1 = h1446 61 1 := f1502 61 1 (by decide +kernel)
                  have q1617 : h1446 61 1 = h10 61 1 := f1447 61 1 (by decide +kernel)
                  have q1618 : h10 61 1 = h1 61 1 := f12 61 1 (by decide +kernel)
                  have q1619 : h1 61 1 = ra1 := by rw [← e3]; exact x_up_at
                  have e1620 : rv h1500 2 = (h1500 (ra1 + 1) 2) := (congrArg (fun z => svq h1500 z 2) (((q1616.trans q1617).trans q1618).trans q1619)).trans rfl
                  have q1621 : h1550 61 1 = h1500 61 1 := f1552 61 1 (by decide +kernel)
                  have q1622 : h1500 61 1 = h1446 61 1 := f1502 61 1 (by decide +kernel)
                  have q1623 : h1446 61 1 = h10 61 1 := f1447 61 1 (by decide +kernel)
                  have q1624 : h10 61 1 = h1 61 1 := f12 61 1 (by decide +kernel)
                  have q1625 : h1 61 1 = ra1 := by rw [← e3]; exact x_up_at
                  have q1626 : h1550 (ra1 + 3) 2 = h1500 (ra1 + 3) 2 := jK 0 f1552 (rg_T3_2_0_1 ta1) (by first | decide | omega) (by first | decide | omega) (by decide)
                  have b1627 := jB (e := 2) 0 j1501 (rg_T3_2_0_1 ta1) (by first | decide | omega) (by first | decide | omega)
                  have e1628 : rv h1550 3 = (h1500 (ra1 + 3) 2) := (congrArg (fun z => svq h1550 z 3) ((((q1621.trans q1622).trans q1623).trans q1624).trans q1625)).trans q1626
                  have q1629 : h1500 61 1 = h1446 61 1 := f1502 61 1 (by decide +kernel)
                  have q1630 : h1446 61 1 = h10 61 1 := f1447 61 1 (by decide +kernel)
                  have q1631 : h10 61 1 = h1 61 1 := f12 61 1 (by decide +kernel)
                  have q1632 : h1 61 1 = ra1 := by rw [← e3]; exact x_up_at
                  have e1633 : rv h1500 3 = (h1500 (ra1 + 3) 2) := (congrArg (fun z => svq h1500 z 3) (((q1629.trans q1630).trans q1631).trans q1632)).trans rfl
                  have q1634 : h1550 61 1 = h1500 61 1 := f1552 61 1 (by decide +kernel)
                  have q1635 : h1500 61 1 = h1446 61 1 := f1502 61 1 (by decide +kernel)
                  have q1636 : h1446 61 1 = h10 61 1 := f1447 61 1 (by decide +kernel)
                  have q1637 : h10 61 1 = h1 61 1 := f12 61 1 (by decide +kernel)
                  have q1638 : h1 61 1 = ra1 := by rw [← e3]; exact x_up_at
                  have q1639 : h1550 (ra1 + 5) 2 = h1500 (ra1 + 5) 2 := jK 0 f1552 (rg_T5_2_0_1 ta1) (by first | decide | omega) (by first | decide | omega) (by decide)
                  have b1640 := jB (e := 2) 0 j1501 (rg_T5_2_0_1 ta1) (by first | decide | omega) (by first | decide | omega)
                  have e1641 : rv h1550 4 = (h1500 (ra1 + 5) 2) := (congrArg (fun z => svq h1550 z 4) ((((q1634.trans q1635).trans q1636).trans q1637).trans q1638)).trans q1639
                  have q1642 : h1500 61 1 = h1446 61 1 := f1502 61 1 (by decide +kernel)
                  have q1643 : h1446 61 1 = h10 61 1 := f1447 61 1 (by decide +kernel)
                  have q1644 : h10 61 1 = h1 61 1 := f12 61 1 (by decide +kernel)
                  have q1645 : h1 61 1 = ra1 := by rw [← e3]; exact x_up_at
                  have e1646 : rv h1500 4 = (h1500 (ra1 + 5) 2) := (congrArg (fun z => svq h1500 z 4) (((q1642.trans q1643).trans q1644).trans q1645)).trans rfl
                  have q1647 : h1550 61 1 = h1500 61 1 := f1552 61 1 (by decide +kernel)
                  have q1648 : h1500 61 1 = h1446 61 1 := f1502 61 1 (by decide +kernel)
                  have q1649 : h1446 61 1 = h10 61 1 := f1447 61 1 (by decide +kernel)
                  have q1650 : h10 61 1 = h1 61 1 := f12 61 1 (by decide +kernel)
                  have q1651 : h1 61 1 = ra1 := by rw [← e3]; exact x_up_at
                  have q1652 : h1550 (ra1 + 7) 2 = h1500 (ra1 + 7) 2 := jK 0 f1552 (rg_T7_2_0_1 ta1) (by first | decide | omega) (by first | decide | omega) (by decide)
                  have b1653 := jB (e := 2) 0 j1501 (rg_T7_2_0_1 ta1) (by first | decide | omega) (by first | decide | omega)
                  have e1654 : rv h1550 5 = (h1500 (ra1 + 7) 2) := (congrArg (fun z => svq h1550 z 5) ((((q1647.trans q1648).trans q1649).trans q1650).trans q1651)).trans q1652
                  have q1655 : h1500 61 1 = h1446 61 1 := f1502 61 1 (by decide +kernel)
                  have q1656 : h1446 61 1 = h10 61 1 := f1447 61 1 (by decide +kernel)
                  have q1657 : h10 61 1 = h1 61 1 := f12 61 1 (by decide +kernel)
                  have q1658 : h1 61 1 = ra1 := by rw [← e3]; exact x_up_at
                  have e1659 : rv h1500 5 = (h1500 (ra1 + 7) 2) := (congrArg (fun z => svq h1500 z 5) (((q1655.trans q1656).trans q1657).trans q1658)).trans rfl
                  have m1607 : Tl tB tN (h ra1 7) (h (ra1 + 1) 2) (h (ra1 + 3) 2) (h (ra1 + 5) 2) (h (ra1 + 7) 2) (2147483662 - (1 + v1444)) (rv h1550 2) (rv h1550 3) (rv h1550 4) (rv h1550 5) (h1550 1 2) := by
                    rw [show rv h1550 2 = rv h1500 2 by first | decide | omega, show rv h1550 3 = rv h1500 3 by first | decide | omega, show rv h1550 4 = rv h1500 4 by first | decide | omega, show rv h1550 5 = rv h1500 5 by first | decide | omega]
                    exact Tl.go (m' := 2147483662 - (1 + v1444)) m1452 (by first | decide | omega) k1579 rfl (by first | decide | omega) w1577 rfl e1578 rfl
                  have m1660 : Ot ra1 h h1500 := Ot.trans m1453 (Ot.cast c1507 ((q1528.trans q1529).trans q1530))
                  have m1661 : Ot ra1 h h1550 := Ot.fr m1660 f1552 (by decide)
                  have q1662 : h1446 61 1 = h10 61 1 := f1447 61 1 (by decide +kernel)
                  have q1663 : h10 61 1 = h1 61 1 := f12 61 1 (by decide +kernel)
                  have q1664 : h1 61 1 = ra1 := by rw [← e3]; exact x_up_at
                  have q1665 : h1446 61 1 = h10 61 1 := f1447 61 1 (by decide +kernel)
                  have q1666 : h10 61 1 = h1 61 1 := f12 61 1 (by decide +kernel)
                  have q1667 : h1 61 1 = ra1 := by rw [← e3]; exact x_up_at
                  have q1668 : h1500 61 1 = h1446 61 1 := f1502 61 1 (by decide +kernel)
                  have q1669 : h1446 61 1 = h10 61 1 := f1447 61 1 (by decide +kernel)
                  have q1670 : h10 61 1 = h1 61 1 := f12 61 1 (by decide +kernel)
                  have q1671 : h1 61 1 = ra1 := by rw [← e3]; exact x_up_at
                  have q1672 : h1550 61 1 = h1500 61 1 := f1552 61 1 (by decide +kernel)
                  have q1673 : h1500 61 1 = h1446 61 1 := f1502 61 1 (by decide +kernel)
                  have q1674 : h1446 61 1 = h10 61 1 := f1447 61 1 (by decide +kernel)
                  have q1675 : h10 61 1 = h1 61 1 := f12 61 1 (by decide +kernel)
                  have q1676 : h1 61 1 = ra1 := by rw [← e3]; exact x_up_at
                  have q1677 : h1550 (ra1 + 3) 2 = h1500 (ra1 + 3) 2 := jK 0 f1552 (rg_T3_2_0_1 ta1) (by first | decide | omega) (by first | decide | omega) (by decide)
                  have q1678 : h1550 (ra1 + 3) 2 = h1500 (ra1 + 3) 2 := jK 0 f1552 (rg_T3_2_0_1 ta1) (by first | decide | omega) (by first | decide | omega) (by decide)
                  have m1679 : ∀ u, u < 10 → wq h1550 ra1 u = wq h1500 ra1 u := fun u hu => (wq_gr ta1 f1552 (by decide) u hu)
                  have q1680 : h1446 61 1 = h10 61 1 := f1447 61 1 (by decide +kernel)
                  have q1681 : h10 61 1 = h1 61 1 := f12 61 1 (by decide +kernel)
                  have q1682 : h1 61 1 = ra1 := by rw [← e3]; exact x_up_at
                  exact i1456 (1 + v1444) h1550 (by first | decide | omega) (by first | decide | omega) (by first | decide | omega) (by first | decide | omega) j1551 f1558 m1607 m1661 (Wl.trans m1454 (Wl.mp (Wl.bs (c1508 (by first | decide | omega)) ((q1680.trans q1681).trans q1682)) (fun _ _ => rfl) m1679 (by first | decide | omega) (by first | decide | omega)))
                have q1561 : ¬ (v1546 ≠ 2147483648) := q1561
                have b1683 := c1555 (by first | decide | omega)
                refine x_const (np := 66) (x := 9223372039002259456) (a := 2147483648) (by decide +kernel) (by decide) (by decide) ?_
                have q1684 : h1550 ra1 7 = h1500 ra1 7 := jK 0 f1552 (rg_T0_7_0_1 ta1) (by first | decide | omega) (by first | decide | omega) (by decide)
                have q1685 : h1550 ra1 8 = h1500 ra1 8 := jK 0 f1552 (rg_T0_8_0_1 ta1) (by first | decide | omega) (by first | decide | omega) (by decide)
                have m1686 : Ot ra1 h h1500 := Ot.trans m1453 (Ot.cast c1507 ((q1528.trans q1529).trans q1530))
                have m1687 : Ot ra1 h h1550 := Ot.fr m1686 f1552 (by decide)
                have q1688 : h1550 (ra1 + 1) 2 = h1500 (ra1 + 1) 2 := jK 0 f1552 (rg_T1_2_0_1 ta1) (by first | decide | omega) (by first | decide | omega) (by decide)
                have b1689 := jB (e := 2) 0 j1501 (rg_T1_2_0_1 ta1) (by first | decide | omega) (by first | decide | omega)
                have b1690 := jB (e := 2) 0 hJ (rg_T1_2_0_1 ta1) (by first | decide | omega) (by first | decide | omega)
                have q1691 : h1550 (ra1 + 3) 2 = h1500 (ra1 + 3) 2 := jK 0 f1552 (rg_T3_2_0_1 ta1) (by first | decide | omega) (by first | decide | omega) (by decide)
                have b1692 := jB (e := 2) 0 j1501 (rg_T3_2_0_1 ta1) (by first | decide | omega) (by first | decide | omega)
                have b1693 := jB (e := 2) 0 hJ (rg_T3_2_0_1 ta1) (by first | decide | omega) (by first | decide | omega)
                have q1694 : h1550 (ra1 + 5) 2 = h1500 (ra1 + 5) 2 := jK 0 f1552 (rg_T5_2_0_1 ta1) (by first | decide | omega) (by first | decide | omega) (by decide)
                have b1695 := jB (e := 2) 0 j1501 (rg_T5_2_0_1 ta1) (by first | decide | omega) (by first | decide | omega)
                have b1696 := jB (e := 2) 0 hJ (rg_T5_2_0_1 ta1) (by first | decide | omega) (by first | decide | omega)
                have q1697 : h1550 (ra1 + 7) 2 = h1500 (ra1 + 7) 2 := jK 0 f1552 (rg_T7_2_0_1 ta1) (by first | decide | omega) (by first | decide | omega) (by decide)
                have b1698 := jB (e := 2) 0 j1501 (rg_T7_2_0_1 ta1) (by first | decide | omega) (by first | decide | omega)
                have b1699 := jB (e := 2) 0 hJ (rg_T7_2_0_1 ta1) (by first | decide | omega) (by first | decide | omega)
                have q1701 : h1446 61 1 = h10 61 1 := f1447 61 1 (by decide +kernel)
                have q1702 : h10 61 1 = h1 61 1 := f12 61 1 (by decide +kernel)
                have q1703 : h1 61 1 = ra1 := by rw [← e3]; exact x_up_at
                have q1704 : h1446 61 1 = h10 61 1 := f1447 61 1 (by decide +kernel)
                have q1705 : h10 61 1 = h1 61 1 := f12 61 1 (by decide +kernel)
                have q1706 : h1 61 1 = ra1 := by rw [← e3]; exact x_up_at
                have q1707 : h1446 61 1 = h10 61 1 := f1447 61 1 (by decide +kernel)
                have q1708 : h10 61 1 = h1 61 1 := f12 61 1 (by decide +kernel)
                have q1709 : h1 61 1 = ra1 := by rw [← e3]; exact x_up_at
                have q1710 : h1446 61 1 = h10 61 1 := f1447 61 1 (by decide +kernel)
                have q1711 : h10 61 1 = h1 61 1 := f12 61 1 (by decide +kernel)
                have q1712 : h1 61 1 = ra1 := by rw [← e3]; exact x_up_at
                have q1713 : h1446 61 1 = h10 61 1 := f1447 61 1 (by decide +kernel)
                have q1714 : h10 61 1 = h1 61 1 := f12 61 1 (by decide +kernel)
                have q1715 : h1 61 1 = ra1 := by rw [← e3]; exact x_up_at
                have q1716 : h1446 61 1 = h10 61 1 := f1447 61 1 (by decide +kernel)
                have q1717 : h10 61 1 = h1 61 1 := f12 61 1 (by decide +kernel)
                have q1718 : h1 61 1 = ra1 := by rw [← e3]; exact x_up_at
                have q1719 : h1446 61 1 = h10 61 1 := f1447 61 1 (by decide +kernel)
                have q1720 : h10 61 1 = h1 61 1 := f12 61 1 (by decide +kernel)
                have q1721 : h1 61 1 = ra1 := by rw [← e3]; exact x_up_at
                have q1722 : h1446 61 1 = h10 61 1 := f1447 61 1 (by decide +kernel)
                have q1723 : h10 61 1 = h1 61 1 := f12 61 1 (by decide +kernel)
                have q1724 : h1 61 1 = ra1 := by rw [← e3]; exact x_up_at
                have q1725 : h1446 61 1 = h10 61 1 := f1447 61 1 (by decide +kernel)
                have q1726 : h10 61 1 = h1 61 1 := f12 61 1 (by decide +kernel)
                have q1727 : h1 61 1 = ra1 := by rw [← e3]; exact x_up_at
                have k1700 := l9_pe (pe' := h ra1 7) (l1 := rv h1446 2) (t1 := rv h1446 3) (d1 := rv h1446 4) (s1 := rv h1446 5) c1506 (by first | decide | omega) (by first | decide | omega) (by first | decide | omega) (by first | decide | omega) (by first | decide | omega)
                have q1728 : h1500 1 1 = h1446 1 1 := jK 0 f1502 rg_1_1_0_1 (by first | decide | omega) (by first | decide | omega) (by decide)
                have q1729 : h1446 1 1 = h10 1 1 := jK 0 f1447 rg_1_1_0_1 (by first | decide | omega) (by first | decide | omega) (by decide)
                have q1730 : h10 1 1 = h1 1 1 := jK 0 f12 rg_1_1_0_1 (by first | decide | omega) (by first | decide | omega) (by decide)
                have q1731 : h1 1 1 = h 1 1 := by rw [← e3]; exact x_up_k (by decide)
                have z1732 := m1549.1
                have q1733 : h1500 61 1 = h1446 61 1 := f1502 61 1 (by decide +kernel)
                have q1734 : h1446 61 1 = h10 61 1 := f1447 61 1 (by decide +kernel)
                have q1735 : h10 61 1 = h1 61 1 := f12 61 1 (by decide +kernel)
                have q1736 : h1 61 1 = ra1 := by rw [← e3]; exact x_up_at
                have e1737 : rv h1500 2 = (h1500 (ra1 + 1) 2) := (congrArg (fun z => svq h1500 z 2) (((q1733.trans q1734).trans q1735).trans q1736)).trans rfl
                have q1738 : h1500 61 1 = h1446 61 1 := f1502 61 1 (by decide +kernel)
                have q1739 : h1446 61 1 = h10 61 1 := f1447 61 1 (by decide +kernel)
                have q1740 : h10 61 1 = h1 61 1 := f12 61 1 (by decide +kernel)
                have q1741 : h1 61 1 = ra1 := by rw [← e3]; exact x_up_at
                have e1742 : rv h1500 3 = (h1500 (ra1 + 3) 2) := (congrArg (fun z => svq h1500 z 3) (((q1738.trans q1739).trans q1740).trans q1741)).trans rfl
                have q1743 : h1500 61 1 = h1446 61 1 := f1502 61 1 (by decide +kernel)
                have q1744 : h1446 61 1 = h10 61 1 := f1447 61 1 (by decide +kernel)
                have q1745 : h10 61 1 = h1 61 1 := f12 61 1 (by decide +kernel)
                have q1746 : h1 61 1 = ra1 := by rw [← e3]; exact x_up_at
                have e1747 : rv h1500 4 = (h1500 (ra1 + 5) 2) := (congrArg (fun z => svq h1500 z 4) (((q1743.trans q1744).trans q1745).trans q1746)).trans rfl
                have q1748 : h1500 61 1 = h1446 61 1 := f1502 61 1 (by decide +kernel)
                have q1749 : h1446 61 1 = h10 61 1 := f1447 61 1 (by decide +kernel)
                have q1750 : h10 61 1 = h1 61 1 := f12 61 1 (by decide +kernel)
                have q1751 : h1 61 1 = ra1 := by rw [← e3]; exact x_up_at
                have e1752 : rv h1500 5 = (h1500 (ra1 + 7) 2) := (congrArg (fun z => svq h1500 z 5) (((q1748.trans q1749).trans q1750).trans q1751)).trans rfl
                obtain ⟨w1753, e1754⟩ := Tk.no c1556 (by first | decide | omega)
                refine x_retI (np := 67) (x := 0) (by decide +kernel) (by decide) (Or.inr ⟨by decide +kernel, by first | decide | omega, by first | decide | omega⟩) ⟨_, rfl, (by decide), ?_⟩
                exact ⟨j1551, f1557, (by first | decide | omega), (by first | decide | omega), (by first | decide | omega), (Tt.n0 (by first | decide | omega) (Tl.bad m1452 (by first | decide | omega) k1700 rfl (by first | decide | omega) (by first | decide | omega) w1753 rfl)), m1687, (fun z => absurd z (by first | decide | omega))⟩
              have q1544 : ¬ (2147483648 = 2147483648) := q1544
              exfalso; omega
            have q1542 : ¬ ((h1500 1 2) < (h 1 1)) := q1542
            refine x_const (np := 12) (x := 9223372043297226753) (a := 2147483649) (by decide +kernel) (by decide) (by decide) ?_
            refine x_goto (np := 15) (x := 16) (by decide +kernel) ?_
            refine x_retI (np := 17) (x := 0) (by decide +kernel) (by decide) (Or.inr ⟨by decide +kernel, by first | decide | omega, by first | decide | omega⟩) ⟨_, rfl, (by decide), ?_⟩
            refine x_ifz (k := 0) (tg := 53) (np := 51) (by decide +kernel) (by decide) (by decide) (fun q1755 => ?_) (fun q1756 => ?_)
            · have q1755 : 2147483649 = 2147483648 := q1755
              exfalso; omega
            have q1756 : ¬ (2147483649 = 2147483648) := q1756
            refine x_const (np := 52) (x := 9223372043297226753) (a := 2147483649) (by decide +kernel) (by decide) (by decide) ?_
            have m1757 : Ot ra1 h h1500 := Ot.trans m1453 (Ot.cast c1507 ((q1528.trans q1529).trans q1530))
            have b1758 := jB (e := 2) 0 j1501 (rg_T1_2_0_1 ta1) (by first | decide | omega) (by first | decide | omega)
            have b1759 := jB (e := 2) 0 hJ (rg_T1_2_0_1 ta1) (by first | decide | omega) (by first | decide | omega)
            have b1760 := jB (e := 2) 0 j1501 (rg_T3_2_0_1 ta1) (by first | decide | omega) (by first | decide | omega)
            have b1761 := jB (e := 2) 0 hJ (rg_T3_2_0_1 ta1) (by first | decide | omega) (by first | decide | omega)
            have b1762 := jB (e := 2) 0 j1501 (rg_T5_2_0_1 ta1) (by first | decide | omega) (by first | decide | omega)
            have b1763 := jB (e := 2) 0 hJ (rg_T5_2_0_1 ta1) (by first | decide | omega) (by first | decide | omega)
            have b1764 := jB (e := 2) 0 j1501 (rg_T7_2_0_1 ta1) (by first | decide | omega) (by first | decide | omega)
            have b1765 := jB (e := 2) 0 hJ (rg_T7_2_0_1 ta1) (by first | decide | omega) (by first | decide | omega)
            have q1767 : h1446 61 1 = h10 61 1 := f1447 61 1 (by decide +kernel)
            have q1768 : h10 61 1 = h1 61 1 := f12 61 1 (by decide +kernel)
            have q1769 : h1 61 1 = ra1 := by rw [← e3]; exact x_up_at
            have q1770 : h1446 61 1 = h10 61 1 := f1447 61 1 (by decide +kernel)
            have q1771 : h10 61 1 = h1 61 1 := f12 61 1 (by decide +kernel)
            have q1772 : h1 61 1 = ra1 := by rw [← e3]; exact x_up_at
            have q1773 : h1446 61 1 = h10 61 1 := f1447 61 1 (by decide +kernel)
            have q1774 : h10 61 1 = h1 61 1 := f12 61 1 (by decide +kernel)
            have q1775 : h1 61 1 = ra1 := by rw [← e3]; exact x_up_at
            have q1776 : h1446 61 1 = h10 61 1 := f1447 61 1 (by decide +kernel)
            have q1777 : h10 61 1 = h1 61 1 := f12 61 1 (by decide +kernel)
            have q1778 : h1 61 1 = ra1 := by rw [← e3]; exact x_up_at
            have q1779 : h1446 61 1 = h10 61 1 := f1447 61 1 (by decide +kernel)
            have q1780 : h10 61 1 = h1 61 1 := f12 61 1 (by decide +kernel)
            have q1781 : h1 61 1 = ra1 := by rw [← e3]; exact x_up_at
            have q1782 : h1446 61 1 = h10 61 1 := f1447 61 1 (by decide +kernel)
            have q1783 : h10 61 1 = h1 61 1 := f12 61 1 (by decide +kernel)
            have q1784 : h1 61 1 = ra1 := by rw [← e3]; exact x_up_at
            have q1785 : h1446 61 1 = h10 61 1 := f1447 61 1 (by decide +kernel)
            have q1786 : h10 61 1 = h1 61 1 := f12 61 1 (by decide +kernel)
            have q1787 : h1 61 1 = ra1 := by rw [← e3]; exact x_up_at
            have q1788 : h1446 61 1 = h10 61 1 := f1447 61 1 (by decide +kernel)
            have q1789 : h10 61 1 = h1 61 1 := f12 61 1 (by decide +kernel)
            have q1790 : h1 61 1 = ra1 := by rw [← e3]; exact x_up_at
            have q1791 : h1446 61 1 = h10 61 1 := f1447 61 1 (by decide +kernel)
            have q1792 : h10 61 1 = h1 61 1 := f12 61 1 (by decide +kernel)
            have q1793 : h1 61 1 = ra1 := by rw [← e3]; exact x_up_at
            have k1766 := l9_pe (pe' := h ra1 7) (l1 := rv h1446 2) (t1 := rv h1446 3) (d1 := rv h1446 4) (s1 := rv h1446 5) c1506 (by first | decide | omega) (by first | decide | omega) (by first | decide | omega) (by first | decide | omega) (by first | decide | omega)
            have q1794 : h1500 1 1 = h1446 1 1 := jK 0 f1502 rg_1_1_0_1 (by first | decide | omega) (by first | decide | omega) (by decide)
            have q1795 : h1446 1 1 = h10 1 1 := jK 0 f1447 rg_1_1_0_1 (by first | decide | omega) (by first | decide | omega) (by decide)
            have q1796 : h10 1 1 = h1 1 1 := jK 0 f12 rg_1_1_0_1 (by first | decide | omega) (by first | decide | omega) (by decide)
            have q1797 : h1 1 1 = h 1 1 := by rw [← e3]; exact x_up_k (by decide)
            have m1799 := Tp.fr m1498 f1502 (by decide) (by decide)
            have z1798 := m1799.1
            have q1800 : h1500 61 1 = h1446 61 1 := f1502 61 1 (by decide +kernel)
            have q1801 : h1446 61 1 = h10 61 1 := f1447 61 1 (by decide +kernel)
            have q1802 : h10 61 1 = h1 61 1 := f12 61 1 (by decide +kernel)
            have q1803 : h1 61 1 = ra1 := by rw [← e3]; exact x_up_at
            have e1804 : rv h1500 2 = (h1500 (ra1 + 1) 2) := (congrArg (fun z => svq h1500 z 2) (((q1800.trans q1801).trans q1802).trans q1803)).trans rfl
            have q1805 : h1500 61 1 = h1446 61 1 := f1502 61 1 (by decide +kernel)
            have q1806 : h1446 61 1 = h10 61 1 := f1447 61 1 (by decide +kernel)
            have q1807 : h10 61 1 = h1 61 1 := f12 61 1 (by decide +kernel)
            have q1808 : h1 61 1 = ra1 := by rw [← e3]; exact x_up_at
            have e1809 : rv h1500 3 = (h1500 (ra1 + 3) 2) := (congrArg (fun z => svq h1500 z 3) (((q1805.trans q1806).trans q1807).trans q1808)).trans rfl
            have q1810 : h1500 61 1 = h1446 61 1 := f1502 61 1 (by decide +kernel)
            have q1811 : h1446 61 1 = h10 61 1 := f1447 61 1 (by decide +kernel)
            have q1812 : h10 61 1 = h1 61 1 := f12 61 1 (by decide +kernel)
            have q1813 : h1 61 1 = ra1 := by rw [← e3]; exact x_up_at
            have e1814 : rv h1500 4 = (h1500 (ra1 + 5) 2) := (congrArg (fun z => svq h1500 z 4) (((q1810.trans q1811).trans q1812).trans q1813)).trans rfl
            have q1815 : h1500 61 1 = h1446 61 1 := f1502 61 1 (by decide +kernel)
            have q1816 : h1446 61 1 = h10 61 1 := f1447 61 1 (by decide +kernel)
            have q1817 : h10 61 1 = h1 61 1 := f12 61 1 (by decide +kernel)
            have q1818 : h1 61 1 = ra1 := by rw [← e3]; exact x_up_at
            have e1819 : rv h1500 5 = (h1500 (ra1 + 7) 2) := (congrArg (fun z => svq h1500 z 5) (((q1815.trans q1816).trans q1817).trans q1818)).trans rfl
            have q1820 : h1446 61 1 = h10 61 1 := f1447 61 1 (by decide +kernel)
            have q1821 : h10 61 1 = h1 61 1 := f12 61 1 (by decide +kernel)
            have q1822 : h1 61 1 = ra1 := by rw [← e3]; exact x_up_at
            have q1823 : h1446 61 1 = h10 61 1 := f1447 61 1 (by decide +kernel)
            have q1824 : h10 61 1 = h1 61 1 := f12 61 1 (by decide +kernel)
            have q1825 : h1 61 1 = ra1 := by rw [← e3]; exact x_up_at
            have q1826 : h1500 61 1 = h1446 61 1 := f1502 61 1 (by decide +kernel)
            have q1827 : h1446 61 1 = h10 61 1 := f1447 61 1 (by decide +kernel)
            have q1828 : h10 61 1 = h1 61 1 := f12 61 1 (by decide +kernel)
            have q1829 : h1 61 1 = ra1 := by rw [← e3]; exact x_up_at
            have q1830 : h1500 61 1 = h1446 61 1 := f1502 61 1 (by decide +kernel)
            have q1831 : h1446 61 1 = h10 61 1 := f1447 61 1 (by decide +kernel)
            have q1832 : h10 61 1 = h1 61 1 := f12 61 1 (by decide +kernel)
            have q1833 : h1 61 1 = ra1 := by rw [← e3]; exact x_up_at
            have q1834 : h1446 61 1 = h10 61 1 := f1447 61 1 (by decide +kernel)
            have q1835 : h10 61 1 = h1 61 1 := f12 61 1 (by decide +kernel)
            have q1836 : h1 61 1 = ra1 := by rw [← e3]; exact x_up_at
            refine x_retI (np := 53) (x := 0) (by decide +kernel) (by decide) (Or.inr ⟨by decide +kernel, by first | decide | omega, by first | decide | omega⟩) ⟨_, rfl, (by decide), ?_⟩
            exact ⟨j1501, f1509, (by first | decide | omega), (by first | decide | omega), (by first | decide | omega), (Tt.s1 (by first | decide | omega) (Tl.fin m1452 (by first | decide | omega) k1766 rfl (by first | decide | omega) (by first | decide | omega)) (by first | decide | omega) (by first | decide | omega) (by first | decide | omega) (by first | decide | omega)), m1757, (fun _ => Wl.trans m1454 (Wl.mp (Wl.bs (c1508 (by first | decide | omega)) ((q1834.trans q1835).trans q1836)) (fun _ _ => rfl) (fun _ _ => rfl) (by first | decide | omega) (by first | decide | omega)))⟩
          have q1532 : ¬ (v1495 ≠ 2147483648) := q1532
          refine x_const (np := 40) (x := 9223372039002259456) (a := 2147483648) (by decide +kernel) (by decide) (by decide) ?_
          have m1837 : Ot ra1 h h1500 := Ot.trans m1453 (Ot.cast c1507 ((q1528.trans q1529).trans q1530))
          have b1838 := jB (e := 2) 0 j1501 (rg_T1_2_0_1 ta1) (by first | decide | omega) (by first | decide | omega)
          have b1839 := jB (e := 2) 0 hJ (rg_T1_2_0_1 ta1) (by first | decide | omega) (by first | decide | omega)
          have b1840 := jB (e := 2) 0 j1501 (rg_T3_2_0_1 ta1) (by first | decide | omega) (by first | decide | omega)
          have b1841 := jB (e := 2) 0 hJ (rg_T3_2_0_1 ta1) (by first | decide | omega) (by first | decide | omega)
          have b1842 := jB (e := 2) 0 j1501 (rg_T5_2_0_1 ta1) (by first | decide | omega) (by first | decide | omega)
          have b1843 := jB (e := 2) 0 hJ (rg_T5_2_0_1 ta1) (by first | decide | omega) (by first | decide | omega)
          have b1844 := jB (e := 2) 0 j1501 (rg_T7_2_0_1 ta1) (by first | decide | omega) (by first | decide | omega)
          have b1845 := jB (e := 2) 0 hJ (rg_T7_2_0_1 ta1) (by first | decide | omega) (by first | decide | omega)
          have q1847 : h1446 61 1 = h10 61 1 := f1447 61 1 (by decide +kernel)
          have q1848 : h10 61 1 = h1 61 1 := f12 61 1 (by decide +kernel)
          have q1849 : h1 61 1 = ra1 := by rw [← e3]; exact x_up_at
          have q1850 : h1446 61 1 = h10 61 1 := f1447 61 1 (by decide +kernel)
          have q1851 : h10 61 1 = h1 61 1 := f12 61 1 (by decide +kernel)
          have q1852 : h1 61 1 = ra1 := by rw [← e3]; exact x_up_at
          have q1853 : h1446 61 1 = h10 61 1 := f1447 61 1 (by decide +kernel)
          have q1854 : h10 61 1 = h1 61 1 := f12 61 1 (by decide +kernel)
          have q1855 : h1 61 1 = ra1 := by rw [← e3]; exact x_up_at
          have q1856 : h1446 61 1 = h10 61 1 := f1447 61 1 (by decide +kernel)
          have q1857 : h10 61 1 = h1 61 1 := f12 61 1 (by decide +kernel)
          have q1858 : h1 61 1 = ra1 := by rw [← e3]; exact x_up_at
          have q1859 : h1446 61 1 = h10 61 1 := f1447 61 1 (by decide +kernel)
          have q1860 : h10 61 1 = h1 61 1 := f12 61 1 (by decide +kernel)
          have q1861 : h1 61 1 = ra1 := by rw [← e3]; exact x_up_at
          have q1862 : h1446 61 1 = h10 61 1 := f1447 61 1 (by decide +kernel)
          have q1863 : h10 61 1 = h1 61 1 := f12 61 1 (by decide +kernel)
          have q1864 : h1 61 1 = ra1 := by rw [← e3]; exact x_up_at
          have q1865 : h1446 61 1 = h10 61 1 := f1447 61 1 (by decide +kernel)
          have q1866 : h10 61 1 = h1 61 1 := f12 61 1 (by decide +kernel)
          have q1867 : h1 61 1 = ra1 := by rw [← e3]; exact x_up_at
          have q1868 : h1446 61 1 = h10 61 1 := f1447 61 1 (by decide +kernel)
          have q1869 : h10 61 1 = h1 61 1 := f12 61 1 (by decide +kernel)
          have q1870 : h1 61 1 = ra1 := by rw [← e3]; exact x_up_at
          have q1871 : h1446 61 1 = h10 61 1 := f1447 61 1 (by decide +kernel)
          have q1872 : h10 61 1 = h1 61 1 := f12 61 1 (by decide +kernel)
          have q1873 : h1 61 1 = ra1 := by rw [← e3]; exact x_up_at
          have k1846 := l9_pe (pe' := h ra1 7) (l1 := rv h1446 2) (t1 := rv h1446 3) (d1 := rv h1446 4) (s1 := rv h1446 5) c1506 (by first | decide | omega) (by first | decide | omega) (by first | decide | omega) (by first | decide | omega) (by first | decide | omega)
          refine x_retI (np := 41) (x := 0) (by decide +kernel) (by decide) (Or.inr ⟨by decide +kernel, by first | decide | omega, by first | decide | omega⟩) ⟨_, rfl, (by decide), ?_⟩
          exact ⟨j1501, f1509, (by first | decide | omega), (by first | decide | omega), (by first | decide | omega), (Tt.n0 (by first | decide | omega) (Tl.no m1452 (by first | decide | omega) k1846 rfl (by first | decide | omega))), m1837, (fun z => absurd z (by first | decide | omega))⟩
      have b1874 := jB (e := 7) 0 hJ (rg_T0_7_0_1 ta1) (by first | decide | omega) (by first | decide | omega)
      have q1875 : h10 61 1 = h1 61 1 := f12 61 1 (by decide +kernel)
      have q1876 : h1 61 1 = ra1 := by rw [← e3]; exact x_up_at
      have q1877 : h10 ra1 7 = h1 ra1 7 := jK 0 f12 (rg_T0_7_0_1 ta1) (by first | decide | omega) (by first | decide | omega) (by decide)
      have q1878 : h1 ra1 7 = h ra1 7 := by rw [← e3]; exact x_up_k (tne_0_61 ta1)
      have e1879 : rv h10 0 = (h ra1 7) := (congrArg (fun z => svq h10 z 0) (q1875.trans q1876)).trans (q1877.trans q1878)
      have q1880 : h10 61 1 = h1 61 1 := f12 61 1 (by decide +kernel)
      have q1881 : h1 61 1 = ra1 := by rw [← e3]; exact x_up_at
      have q1882 : h10 ra1 8 = h1 ra1 8 := jK 0 f12 (rg_T0_8_0_1 ta1) (by first | decide | omega) (by first | decide | omega) (by decide)
      have q1883 : h1 ra1 8 = h ra1 8 := by rw [← e3]; exact x_up_k (tne_0_61 ta1)
      have e1884 : rv h10 1 = (h ra1 8) := (congrArg (fun z => svq h10 z 1) (q1880.trans q1881)).trans (q1882.trans q1883)
      have q1885 : h10 1 1 = h1 1 1 := jK 0 f12 rg_1_1_0_1 (by first | decide | omega) (by first | decide | omega) (by decide)
      have q1886 : h1 1 1 = h 1 1 := by rw [← e3]; exact x_up_k (by decide)
      have m1888 := Tp.fr m9 f12 (by decide) (by decide)
      have z1887 := m1888.1
      have b1890 := jB (e := 2) 0 hJ (rg_T1_2_0_1 ta1) (by first | decide | omega) (by first | decide | omega)
      have q1891 : h10 61 1 = h1 61 1 := f12 61 1 (by decide +kernel)
      have q1892 : h1 61 1 = ra1 := by rw [← e3]; exact x_up_at
      have q1893 : h10 (ra1 + 1) 2 = h1 (ra1 + 1) 2 := jK 0 f12 (rg_T1_2_0_1 ta1) (by first | decide | omega) (by first | decide | omega) (by decide)
      have q1894 : h1 (ra1 + 1) 2 = h (ra1 + 1) 2 := by rw [← e3]; exact x_up_k (tne_1_61 ta1)
      have e1895 : rv h10 2 = (h (ra1 + 1) 2) := (congrArg (fun z => svq h10 z 2) (q1891.trans q1892)).trans (q1893.trans q1894)
      have b1896 := jB (e := 2) 0 hJ (rg_T3_2_0_1 ta1) (by first | decide | omega) (by first | decide | omega)
      have q1897 : h10 61 1 = h1 61 1 := f12 61 1 (by decide +kernel)
      have q1898 : h1 61 1 = ra1 := by rw [← e3]; exact x_up_at
      have q1899 : h10 (ra1 + 3) 2 = h1 (ra1 + 3) 2 := jK 0 f12 (rg_T3_2_0_1 ta1) (by first | decide | omega) (by first | decide | omega) (by decide)
      have q1900 : h1 (ra1 + 3) 2 = h (ra1 + 3) 2 := by rw [← e3]; exact x_up_k (tne_3_61 ta1)
      have e1901 : rv h10 3 = (h (ra1 + 3) 2) := (congrArg (fun z => svq h10 z 3) (q1897.trans q1898)).trans (q1899.trans q1900)
      have b1902 := jB (e := 2) 0 hJ (rg_T5_2_0_1 ta1) (by first | decide | omega) (by first | decide | omega)
      have q1903 : h10 61 1 = h1 61 1 := f12 61 1 (by decide +kernel)
      have q1904 : h1 61 1 = ra1 := by rw [← e3]; exact x_up_at
      have q1905 : h10 (ra1 + 5) 2 = h1 (ra1 + 5) 2 := jK 0 f12 (rg_T5_2_0_1 ta1) (by first | decide | omega) (by first | decide | omega) (by decide)
      have q1906 : h1 (ra1 + 5) 2 = h (ra1 + 5) 2 := by rw [← e3]; exact x_up_k (tne_5_61 ta1)
      have e1907 : rv h10 4 = (h (ra1 + 5) 2) := (congrArg (fun z => svq h10 z 4) (q1903.trans q1904)).trans (q1905.trans q1906)
      have b1908 := jB (e := 2) 0 hJ (rg_T7_2_0_1 ta1) (by first | decide | omega) (by first | decide | omega)
      have q1909 : h10 61 1 = h1 61 1 := f12 61 1 (by decide +kernel)
      have q1910 : h1 61 1 = ra1 := by rw [← e3]; exact x_up_at
      have q1911 : h10 (ra1 + 7) 2 = h1 (ra1 + 7) 2 := jK 0 f12 (rg_T7_2_0_1 ta1) (by first | decide | omega) (by first | decide | omega) (by decide)
      have q1912 : h1 (ra1 + 7) 2 = h (ra1 + 7) 2 := by rw [← e3]; exact x_up_k (tne_7_61 ta1)
      have e1913 : rv h10 5 = (h (ra1 + 7) 2) := (congrArg (fun z => svq h10 z 5) (q1909.trans q1910)).trans (q1911.trans q1912)
      have m1889 : Tl tB tN (h ra1 7) (h (ra1 + 1) 2) (h (ra1 + 3) 2) (h (ra1 + 5) 2) (h (ra1 + 7) 2) (2147483662 - 2147483648) (rv h10 2) (rv h10 3) (rv h10 4) (rv h10 5) (h10 1 2) := by
        rw [show rv h10 2 = h (ra1 + 1) 2 by first | decide | omega, show rv h10 3 = h (ra1 + 3) 2 by first | decide | omega, show rv h10 4 = h (ra1 + 5) 2 by first | decide | omega, show rv h10 5 = h (ra1 + 7) 2 by first | decide | omega]
        exact Tl.zero ((show h10 1 2 = h10 1 2 by first | decide | omega).trans c16) (by first | decide | omega) rfl
      have m1914 : Ot ra1 h h1 := by rw [← e3]; exact Ot.oth Ot.refl (by decide)
      have m1915 : Ot ra1 h h10 := Ot.fr m1914 f12 (by decide)
      have q1916 : h10 61 1 = h1 61 1 := f12 61 1 (by decide +kernel)
      have q1917 : h1 61 1 = ra1 := by rw [← e3]; exact x_up_at
      have q1918 : h10 (ra1 + 3) 2 = h1 (ra1 + 3) 2 := jK 0 f12 (rg_T3_2_0_1 ta1) (by first | decide | omega) (by first | decide | omega) (by decide)
      have q1919 : h1 (ra1 + 3) 2 = h (ra1 + 3) 2 := by rw [← e3]; exact x_up_k (tne_3_61 ta1)
      have m1920 : ∀ u, u < 10 → wq h10 ra1 u = wq h ra1 u := fun u hu => (Eq.trans (wq_gr ta1 f12 (by decide) u hu) (show wq h1 ra1 u = wq h ra1 u by rw [← e3]; exact wq_k (@nc_o ra1 4 61 ta1 (by decide))))
      exact p1449 _ 2147483648 h10 (Nat.lt_succ_self _) (by first | decide | omega) (by first | decide | omega) (by first | decide | omega) j11 (Fr.refl _ _) m1889 m1915 (Wl.refl (by first | decide | omega) m1920)
    have q28 : ¬ (2147483648 = 2147483648) := q28
    exfalso; omega
  have q26 : ¬ ((h10 1 2) < (h 1 1)) := q26
  refine x_const (np := 12) (x := 9223372043297226753) (a := 2147483649) (by decide +kernel) (by decide) (by decide) ?_
  refine x_goto (np := 15) (x := 16) (by decide +kernel) ?_
  refine x_retI (np := 17) (x := 0) (by decide +kernel) (by decide) (Or.inr ⟨by decide +kernel, by first | decide | omega, by first | decide | omega⟩) ⟨_, rfl, (by decide), ?_⟩
  refine x_ifz (k := 0) (tg := 24) (np := 22) (by decide +kernel) (by decide) (by decide) (fun q1921 => ?_) (fun q1922 => ?_)
  · have q1921 : 2147483649 = 2147483648 := q1921
    exfalso; omega
  have q1922 : ¬ (2147483649 = 2147483648) := q1922
  refine x_const (np := 23) (x := 9223372043297226753) (a := 2147483649) (by decide +kernel) (by decide) (by decide) ?_
  have b1923 := jB (e := 7) 0 hJ (rg_T0_7_0_1 ta1) (by first | decide | omega) (by first | decide | omega)
  have q1924 : h10 ra1 7 = h1 ra1 7 := jK 0 f12 (rg_T0_7_0_1 ta1) (by first | decide | omega) (by first | decide | omega) (by decide)
  have q1925 : h1 ra1 7 = h ra1 7 := by rw [← e3]; exact x_up_k (tne_0_61 ta1)
  have q1926 : h10 ra1 8 = h1 ra1 8 := jK 0 f12 (rg_T0_8_0_1 ta1) (by first | decide | omega) (by first | decide | omega) (by decide)
  have q1927 : h1 ra1 8 = h ra1 8 := by rw [← e3]; exact x_up_k (tne_0_61 ta1)
  have m1928 : Ot ra1 h h1 := by rw [← e3]; exact Ot.oth Ot.refl (by decide)
  have m1929 : Ot ra1 h h10 := Ot.fr m1928 f12 (by decide)
  have q1930 : h10 (ra1 + 1) 2 = h1 (ra1 + 1) 2 := jK 0 f12 (rg_T1_2_0_1 ta1) (by first | decide | omega) (by first | decide | omega) (by decide)
  have q1931 : h1 (ra1 + 1) 2 = h (ra1 + 1) 2 := by rw [← e3]; exact x_up_k (tne_1_61 ta1)
  have b1932 := jB (e := 2) 0 hJ (rg_T1_2_0_1 ta1) (by first | decide | omega) (by first | decide | omega)
  have q1933 : h10 (ra1 + 3) 2 = h1 (ra1 + 3) 2 := jK 0 f12 (rg_T3_2_0_1 ta1) (by first | decide | omega) (by first | decide | omega) (by decide)
  have q1934 : h1 (ra1 + 3) 2 = h (ra1 + 3) 2 := by rw [← e3]; exact x_up_k (tne_3_61 ta1)
  have b1935 := jB (e := 2) 0 hJ (rg_T3_2_0_1 ta1) (by first | decide | omega) (by first | decide | omega)
  have q1936 : h10 (ra1 + 5) 2 = h1 (ra1 + 5) 2 := jK 0 f12 (rg_T5_2_0_1 ta1) (by first | decide | omega) (by first | decide | omega) (by decide)
  have q1937 : h1 (ra1 + 5) 2 = h (ra1 + 5) 2 := by rw [← e3]; exact x_up_k (tne_5_61 ta1)
  have b1938 := jB (e := 2) 0 hJ (rg_T5_2_0_1 ta1) (by first | decide | omega) (by first | decide | omega)
  have q1939 : h10 (ra1 + 7) 2 = h1 (ra1 + 7) 2 := jK 0 f12 (rg_T7_2_0_1 ta1) (by first | decide | omega) (by first | decide | omega) (by decide)
  have q1940 : h1 (ra1 + 7) 2 = h (ra1 + 7) 2 := by rw [← e3]; exact x_up_k (tne_7_61 ta1)
  have b1941 := jB (e := 2) 0 hJ (rg_T7_2_0_1 ta1) (by first | decide | omega) (by first | decide | omega)
  have q1942 : h10 1 1 = h1 1 1 := jK 0 f12 rg_1_1_0_1 (by first | decide | omega) (by first | decide | omega) (by decide)
  have q1943 : h1 1 1 = h 1 1 := by rw [← e3]; exact x_up_k (by decide)
  have m1945 := Tp.fr m9 f12 (by decide) (by decide)
  have z1944 := m1945.1
  have q1946 : h10 (ra1 + 3) 2 = h1 (ra1 + 3) 2 := jK 0 f12 (rg_T3_2_0_1 ta1) (by first | decide | omega) (by first | decide | omega) (by decide)
  have q1947 : h1 (ra1 + 3) 2 = h (ra1 + 3) 2 := by rw [← e3]; exact x_up_k (tne_3_61 ta1)
  have m1948 : ∀ u, u < 10 → wq h10 ra1 u = wq h ra1 u := fun u hu => (Eq.trans (wq_gr ta1 f12 (by decide) u hu) (show wq h1 ra1 u = wq h ra1 u by rw [← e3]; exact wq_k (@nc_o ra1 4 61 ta1 (by decide))))
  refine x_retI (np := 24) (x := 0) (by decide +kernel) (by decide) (Or.inr ⟨by decide +kernel, by first | decide | omega, by first | decide | omega⟩) ⟨_, rfl, (by decide), ?_⟩
  exact ⟨j11, f17, (by first | decide | omega), (by first | decide | omega), (by first | decide | omega), (Tt.s1 (by first | decide | omega) (Tt.nil c16 (by first | decide | omega) rfl) (by first | decide | omega) (by first | decide | omega) (by first | decide | omega) (by first | decide | omega)), m1929, (fun _ => Wl.refl (by first | decide | omega) m1948)⟩
