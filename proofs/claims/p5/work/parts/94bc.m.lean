/-! ===== methods ===== -/
set_option maxHeartbeats 0 in
/-- LentNames$TownReader.readLine()Z -/
theorem c93_61 {sc : Nat × Nat} {d  : Nat} {h : xh} {tB : Nat → Nat} {tN : Nat} (hJ : J h) (hT : Tp tB tN h) : X sc 93 (d + 8) (xI fun r h' => J h' ∧ Fr 281474976710817 h h' ∧ (2147483648 ≤ r ∧ r ≤ 2147483649) ∧ (rv h' 0 = rv h 0) ∧ (rv h' 1 = rv h 1) ∧ line9 tB tN (rv h 0) (rv h 2) (rv h 3) (rv h 4) (rv h 5) (h 1 2) (rs5 r (h' 1 2) (rv h' 2) (rv h' 3) (rv h' 4) (rv h' 5)) ∧ Ot (h 61 1) h h' ∧ (r = 2147483648 → lineF tB tN (rv h 0) (rv h 2) (rv h 3) (rv h 4) (rv h 5) (h 1 2) (h' 1 2))) 0 0 0 [x_r 61] [] h := by
  have hF := Fr.refl 281474976710817 h
  refine x_aload (np := 1) (x := 0) (by decide +kernel) rfl (x_nc_le (by decide)) ?_
  have q1 : h 61 0 = 1 := by have z := jB (e := 0) 0 hJ rg_61_0_0_1 (by decide) (by decide); omega
  refine x_getR (np := 4) (x := 576) (f := 0) (q := 1) (by decide +kernel) (by decide) (by decide +kernel) q1 ?_
  refine x_ldcB (i := 0) (idx := 35) (tx := "lend") (by rw [tb_y93]; exact List.mem_of_getElem? (i := 0) rfl) (by decide) (by rw [tb_b93]; decide +kernel) ?_
  refine x_cP (t := 6) (mj := 77) (n := 2) (rc := 8) (ml := 4) (nr := 0) (np := 9) (as := [x_r 1, x_b (0 + 1)]) (rest := []) (lo1 := [x_r 1, x_b (0 + 1), 147573952589676412928, 147573952589676412928]) (by decide +kernel) (by decide) (by decide +kernel) (x_rb_of (by decide +kernel)) rfl rfl (x_wr (by decide) (x_wB (by decide) x_wn)) x_wn (by decide) rfl (c77_1_S0 hJ  (by decide) hT) (fun v2 l3 q4 => ?_)
  obtain ⟨b7, c5, c6⟩ := q4
  have b8 := jB (e := 2) 0 hJ rg_1_2_0_1 (by first | decide | omega) (by first | decide | omega)
  refine x_ifz (k := 0) (tg := 50) (np := 12) (by decide +kernel) (by decide) l3 (fun q9 => ?_) (fun q10 => ?_)
  · have q9 : v2 = 2147483648 := q9
    refine x_aload (np := 51) (x := 0) (by decide +kernel) rfl (x_nc_le (by decide)) ?_
    have q11 : h 61 0 = 1 := by have z := jB (e := 0) 0 hJ rg_61_0_0_1 (by decide) (by decide); omega
    refine x_getR (np := 54) (x := 576) (f := 0) (q := 1) (by decide +kernel) (by decide) (by decide +kernel) q11 ?_
    refine x_ldcB (i := 6) (idx := 58) (tx := "letter") (by rw [tb_y93]; exact List.mem_of_getElem? (i := 6) rfl) (by decide) (by rw [tb_b93]; decide +kernel) ?_
    refine x_cP (t := 6) (mj := 77) (n := 2) (rc := 8) (ml := 4) (nr := 0) (np := 59) (as := [x_r 1, x_b (6 + 1)]) (rest := []) (lo1 := [x_r 1, x_b (6 + 1), 147573952589676412928, 147573952589676412928]) (by decide +kernel) (by decide) (by decide +kernel) (x_rb_of (by decide +kernel)) rfl rfl (x_wr (by decide) (x_wB (by decide) x_wn)) x_wn (by decide) rfl (c77_1_S0 hJ  (by decide) hT) (fun v12 l13 q14 => ?_)
    obtain ⟨b17, c15, c16⟩ := q14
    refine x_ifz (k := 0) (tg := 100) (np := 62) (by decide +kernel) (by decide) l13 (fun q18 => ?_) (fun q19 => ?_)
    · have q18 : v12 = 2147483648 := q18
      refine x_aload (np := 101) (x := 0) (by decide +kernel) rfl (x_nc_le (by decide)) ?_
      have q20 : h 61 0 = 1 := by have z := jB (e := 0) 0 hJ rg_61_0_0_1 (by decide) (by decide); omega
      refine x_getR (np := 104) (x := 576) (f := 0) (q := 1) (by decide +kernel) (by decide) (by decide +kernel) q20 ?_
      refine x_ldcB (i := 8) (idx := 66) (tx := "debt") (by rw [tb_y93]; exact List.mem_of_getElem? (i := 8) rfl) (by decide) (by rw [tb_b93]; decide +kernel) ?_
      refine x_cP (t := 6) (mj := 77) (n := 2) (rc := 8) (ml := 4) (nr := 0) (np := 109) (as := [x_r 1, x_b (8 + 1)]) (rest := []) (lo1 := [x_r 1, x_b (8 + 1), 147573952589676412928, 147573952589676412928]) (by decide +kernel) (by decide) (by decide +kernel) (x_rb_of (by decide +kernel)) rfl rfl (x_wr (by decide) (x_wB (by decide) x_wn)) x_wn (by decide) rfl (c77_1_S0 hJ  (by decide) hT) (fun v21 l22 q23 => ?_)
      obtain ⟨b26, c24, c25⟩ := q23
      refine x_ifz (k := 0) (tg := 150) (np := 112) (by decide +kernel) (by decide) l22 (fun q27 => ?_) (fun q28 => ?_)
      · have q27 : v21 = 2147483648 := q27
        refine x_aload (np := 151) (x := 0) (by decide +kernel) rfl (x_nc_le (by decide)) ?_
        have q29 : h 61 0 = 1 := by have z := jB (e := 0) 0 hJ rg_61_0_0_1 (by decide) (by decide); omega
        refine x_getR (np := 154) (x := 576) (f := 0) (q := 1) (by decide +kernel) (by decide) (by decide +kernel) q29 ?_
        refine x_ldcB (i := 13) (idx := 74) (tx := "seen") (by rw [tb_y93]; exact List.mem_of_getElem? (i := 13) rfl) (by decide) (by rw [tb_b93]; decide +kernel) ?_
        refine x_cP (t := 6) (mj := 77) (n := 2) (rc := 8) (ml := 4) (nr := 0) (np := 159) (as := [x_r 1, x_b (13 + 1)]) (rest := []) (lo1 := [x_r 1, x_b (13 + 1), 147573952589676412928, 147573952589676412928]) (by decide +kernel) (by decide) (by decide +kernel) (x_rb_of (by decide +kernel)) rfl rfl (x_wr (by decide) (x_wB (by decide) x_wn)) x_wn (by decide) rfl (c77_1_S0 hJ  (by decide) hT) (fun v30 l31 q32 => ?_)
        obtain ⟨b35, c33, c34⟩ := q32
        refine x_ifz (k := 0) (tg := 200) (np := 162) (by decide +kernel) (by decide) l31 (fun q36 => ?_) (fun q37 => ?_)
        · have q36 : v30 = 2147483648 := q36
          refine x_aload (np := 201) (x := 0) (by decide +kernel) rfl (x_nc_le (by decide)) ?_
          have q38 : h 61 0 = 1 := by have z := jB (e := 0) 0 hJ rg_61_0_0_1 (by decide) (by decide); omega
          refine x_getR (np := 204) (x := 576) (f := 0) (q := 1) (by decide +kernel) (by decide) (by decide +kernel) q38 ?_
          refine x_ldcB (i := 17) (idx := 82) (tx := "late") (by rw [tb_y93]; exact List.mem_of_getElem? (i := 17) rfl) (by decide) (by rw [tb_b93]; decide +kernel) ?_
          refine x_cI (t := 6) (mj := 78) (n := 2) (rc := 8) (ml := 2) (nr := 0) (np := 209) (as := [x_r 1, x_b (17 + 1)]) (rest := []) (lo1 := [x_r 1, x_b (17 + 1)]) (by decide +kernel) (by decide) (by decide +kernel) (x_rb_of (by decide +kernel)) rfl rfl (x_wr (by decide) (x_wB (by decide) x_wn)) x_wn (by decide) rfl (c78_1_S0 hJ  (by decide) hT) (fun v39 h42 l40 q41 => ?_)
          obtain ⟨j43, f44, b45, c46, c47, c48⟩ := q41
          have f49 := Fr.trans hF f44 (by decide)
          have b50 := jB (e := 2) 0 j43 rg_1_2_0_1 (by first | decide | omega) (by first | decide | omega)
          have b51 : iv_tl 17 = 4 := by decide
          refine x_ifz (k := 0) (tg := 217) (np := 212) (by decide +kernel) (by decide) l40 (fun q52 => ?_) (fun q53 => ?_)
          · have q52 : v39 = 2147483648 := q52
            have b54 := c47 (by first | decide | omega)
            refine x_aload (np := 218) (x := 0) (by decide +kernel) rfl (x_nc_le (by decide)) ?_
            have q55 : h42 61 0 = 1 := by have z := jB (e := 0) 0 j43 rg_61_0_0_1 (by decide) (by decide); omega
            refine x_getR (np := 221) (x := 576) (f := 0) (q := 1) (by decide +kernel) (by decide) (by decide +kernel) q55 ?_
            refine x_ldcB (i := 19) (idx := 87) (tx := "dies") (by rw [tb_y93]; exact List.mem_of_getElem? (i := 19) rfl) (by decide) (by rw [tb_b93]; decide +kernel) ?_
            have m59 := Tp.fr hT f44 (by decide) (by decide)
            refine x_cI (t := 6) (mj := 78) (n := 2) (rc := 8) (ml := 2) (nr := 0) (np := 226) (as := [x_r 1, x_b (19 + 1)]) (rest := []) (lo1 := [x_r 1, x_b (19 + 1)]) (by decide +kernel) (by decide) (by decide +kernel) (x_rb_of (by decide +kernel)) rfl rfl (x_wr (by decide) (x_wB (by decide) x_wn)) x_wn (by decide) rfl (c78_1_S0 j43  (by decide) m59) (fun v56 h60 l57 q58 => ?_)
            obtain ⟨j61, f62, b63, c64, c65, c66⟩ := q58
            have f67 := Fr.trans f49 f62 (by decide)
            have b68 := jB (e := 2) 0 j61 rg_1_2_0_1 (by first | decide | omega) (by first | decide | omega)
            have b69 : iv_tl 19 = 4 := by decide
            refine x_ifz (k := 0) (tg := 234) (np := 229) (by decide +kernel) (by decide) l57 (fun q70 => ?_) (fun q71 => ?_)
            · have q70 : v56 = 2147483648 := q70
              have b72 := c65 (by first | decide | omega)
              refine x_aload (np := 235) (x := 0) (by decide +kernel) rfl (x_nc_le (by decide)) ?_
              have q73 : h60 61 0 = 1 := by have z := jB (e := 0) 0 j61 rg_61_0_0_1 (by decide) (by decide); omega
              refine x_getR (np := 238) (x := 576) (f := 0) (q := 1) (by decide +kernel) (by decide) (by decide +kernel) q73 ?_
              refine x_ldcB (i := 20) (idx := 92) (tx := "court") (by rw [tb_y93]; exact List.mem_of_getElem? (i := 20) rfl) (by decide) (by rw [tb_b93]; decide +kernel) ?_
              have m77 := Tp.fr m59 f62 (by decide) (by decide)
              refine x_cI (t := 6) (mj := 78) (n := 2) (rc := 8) (ml := 2) (nr := 0) (np := 243) (as := [x_r 1, x_b (20 + 1)]) (rest := []) (lo1 := [x_r 1, x_b (20 + 1)]) (by decide +kernel) (by decide) (by decide +kernel) (x_rb_of (by decide +kernel)) rfl rfl (x_wr (by decide) (x_wB (by decide) x_wn)) x_wn (by decide) rfl (c78_1_S0 j61  (by decide) m77) (fun v74 h78 l75 q76 => ?_)
              obtain ⟨j79, f80, b81, c82, c83, c84⟩ := q76
              have f85 := Fr.trans f67 f80 (by decide)
              have b86 := jB (e := 2) 0 j79 rg_1_2_0_1 (by first | decide | omega) (by first | decide | omega)
              have b87 : iv_tl 20 = 5 := by decide
              refine x_ifz (k := 0) (tg := 257) (np := 246) (by decide +kernel) (by decide) l75 (fun q88 => ?_) (fun q89 => ?_)
              · have q88 : v74 = 2147483648 := q88
                have b90 := c83 (by first | decide | omega)
                refine x_const (np := 258) (x := 9223372039002259456) (a := 2147483648) (by decide +kernel) (by decide) (by decide) ?_
                have t91 : tw (h 61 1) := hJ.2.2.2.2.1
                have b92 := jB (e := 7) 0 hJ (rg_T0_7_0_1 t91) (by first | decide | omega) (by first | decide | omega)
                have e93 : rv h 0 = (h (h 61 1) 7) := (congrArg (fun z => svq h z 0) rfl).trans rfl
                have q94 : h78 61 1 = h60 61 1 := f80 61 1 (by decide +kernel)
                have q95 : h60 61 1 = h42 61 1 := f62 61 1 (by decide +kernel)
                have q96 : h42 61 1 = h 61 1 := f44 61 1 (by decide +kernel)
                have q97 : h78 (h 61 1) 7 = h60 (h 61 1) 7 := jK 0 f80 (rg_T0_7_0_1 t91) (by first | decide | omega) (by first | decide | omega) (by decide)
                have q98 : h60 (h 61 1) 7 = h42 (h 61 1) 7 := jK 0 f62 (rg_T0_7_0_1 t91) (by first | decide | omega) (by first | decide | omega) (by decide)
                have q99 : h42 (h 61 1) 7 = h (h 61 1) 7 := jK 0 f44 (rg_T0_7_0_1 t91) (by first | decide | omega) (by first | decide | omega) (by decide)
                have e100 : rv h78 0 = (h (h 61 1) 7) := (congrArg (fun z => svq h78 z 0) ((q94.trans q95).trans q96)).trans ((q97.trans q98).trans q99)
                have e101 : rv h 1 = (h (h 61 1) 8) := (congrArg (fun z => svq h z 1) rfl).trans rfl
                have q102 : h78 61 1 = h60 61 1 := f80 61 1 (by decide +kernel)
                have q103 : h60 61 1 = h42 61 1 := f62 61 1 (by decide +kernel)
                have q104 : h42 61 1 = h 61 1 := f44 61 1 (by decide +kernel)
                have q105 : h78 (h 61 1) 8 = h60 (h 61 1) 8 := jK 0 f80 (rg_T0_8_0_1 t91) (by first | decide | omega) (by first | decide | omega) (by decide)
                have q106 : h60 (h 61 1) 8 = h42 (h 61 1) 8 := jK 0 f62 (rg_T0_8_0_1 t91) (by first | decide | omega) (by first | decide | omega) (by decide)
                have q107 : h42 (h 61 1) 8 = h (h 61 1) 8 := jK 0 f44 (rg_T0_8_0_1 t91) (by first | decide | omega) (by first | decide | omega) (by decide)
                have e108 : rv h78 1 = (h (h 61 1) 8) := (congrArg (fun z => svq h78 z 1) ((q102.trans q103).trans q104)).trans ((q105.trans q106).trans q107)
                have q109 : h78 61 1 = h60 61 1 := f80 61 1 (by decide +kernel)
                have q110 : h60 61 1 = h42 61 1 := f62 61 1 (by decide +kernel)
                have q111 : h42 61 1 = h 61 1 := f44 61 1 (by decide +kernel)
                have q112 : h78 (h 61 1) 7 = h60 (h 61 1) 7 := jK 0 f80 (rg_T0_7_0_1 t91) (by first | decide | omega) (by first | decide | omega) (by decide)
                have q113 : h60 (h 61 1) 7 = h42 (h 61 1) 7 := jK 0 f62 (rg_T0_7_0_1 t91) (by first | decide | omega) (by first | decide | omega) (by decide)
                have q114 : h42 (h 61 1) 7 = h (h 61 1) 7 := jK 0 f44 (rg_T0_7_0_1 t91) (by first | decide | omega) (by first | decide | omega) (by decide)
                have q115 : h78 61 1 = h60 61 1 := f80 61 1 (by decide +kernel)
                have q116 : h60 61 1 = h42 61 1 := f62 61 1 (by decide +kernel)
                have q117 : h42 61 1 = h 61 1 := f44 61 1 (by decide +kernel)
                have q118 : h78 (h 61 1) 8 = h60 (h 61 1) 8 := jK 0 f80 (rg_T0_8_0_1 t91) (by first | decide | omega) (by first | decide | omega) (by decide)
                have q119 : h60 (h 61 1) 8 = h42 (h 61 1) 8 := jK 0 f62 (rg_T0_8_0_1 t91) (by first | decide | omega) (by first | decide | omega) (by decide)
                have q120 : h42 (h 61 1) 8 = h (h 61 1) 8 := jK 0 f44 (rg_T0_8_0_1 t91) (by first | decide | omega) (by first | decide | omega) (by decide)
                have b121 := jB (e := 2) 0 hJ (rg_T1_2_0_1 t91) (by first | decide | omega) (by first | decide | omega)
                have e122 : rv h 2 = (h ((h 61 1) + 1) 2) := (congrArg (fun z => svq h z 2) rfl).trans rfl
                have q123 : h78 61 1 = h60 61 1 := f80 61 1 (by decide +kernel)
                have q124 : h60 61 1 = h42 61 1 := f62 61 1 (by decide +kernel)
                have q125 : h42 61 1 = h 61 1 := f44 61 1 (by decide +kernel)
                have q126 : h78 ((h 61 1) + 1) 2 = h60 ((h 61 1) + 1) 2 := jK 0 f80 (rg_T1_2_0_1 t91) (by first | decide | omega) (by first | decide | omega) (by decide)
                have q127 : h60 ((h 61 1) + 1) 2 = h42 ((h 61 1) + 1) 2 := jK 0 f62 (rg_T1_2_0_1 t91) (by first | decide | omega) (by first | decide | omega) (by decide)
                have q128 : h42 ((h 61 1) + 1) 2 = h ((h 61 1) + 1) 2 := jK 0 f44 (rg_T1_2_0_1 t91) (by first | decide | omega) (by first | decide | omega) (by decide)
                have e129 : rv h78 2 = (h ((h 61 1) + 1) 2) := (congrArg (fun z => svq h78 z 2) ((q123.trans q124).trans q125)).trans ((q126.trans q127).trans q128)
                have b130 := jB (e := 2) 0 hJ (rg_T3_2_0_1 t91) (by first | decide | omega) (by first | decide | omega)
                have e131 : rv h 3 = (h ((h 61 1) + 3) 2) := (congrArg (fun z => svq h z 3) rfl).trans rfl
                have q132 : h78 61 1 = h60 61 1 := f80 61 1 (by decide +kernel)
                have q133 : h60 61 1 = h42 61 1 := f62 61 1 (by decide +kernel)
                have q134 : h42 61 1 = h 61 1 := f44 61 1 (by decide +kernel)
                have q135 : h78 ((h 61 1) + 3) 2 = h60 ((h 61 1) + 3) 2 := jK 0 f80 (rg_T3_2_0_1 t91) (by first | decide | omega) (by first | decide | omega) (by decide)
                have q136 : h60 ((h 61 1) + 3) 2 = h42 ((h 61 1) + 3) 2 := jK 0 f62 (rg_T3_2_0_1 t91) (by first | decide | omega) (by first | decide | omega) (by decide)
                have q137 : h42 ((h 61 1) + 3) 2 = h ((h 61 1) + 3) 2 := jK 0 f44 (rg_T3_2_0_1 t91) (by first | decide | omega) (by first | decide | omega) (by decide)
                have e138 : rv h78 3 = (h ((h 61 1) + 3) 2) := (congrArg (fun z => svq h78 z 3) ((q132.trans q133).trans q134)).trans ((q135.trans q136).trans q137)
                have b139 := jB (e := 2) 0 hJ (rg_T5_2_0_1 t91) (by first | decide | omega) (by first | decide | omega)
                have e140 : rv h 4 = (h ((h 61 1) + 5) 2) := (congrArg (fun z => svq h z 4) rfl).trans rfl
                have q141 : h78 61 1 = h60 61 1 := f80 61 1 (by decide +kernel)
                have q142 : h60 61 1 = h42 61 1 := f62 61 1 (by decide +kernel)
                have q143 : h42 61 1 = h 61 1 := f44 61 1 (by decide +kernel)
                have q144 : h78 ((h 61 1) + 5) 2 = h60 ((h 61 1) + 5) 2 := jK 0 f80 (rg_T5_2_0_1 t91) (by first | decide | omega) (by first | decide | omega) (by decide)
                have q145 : h60 ((h 61 1) + 5) 2 = h42 ((h 61 1) + 5) 2 := jK 0 f62 (rg_T5_2_0_1 t91) (by first | decide | omega) (by first | decide | omega) (by decide)
                have q146 : h42 ((h 61 1) + 5) 2 = h ((h 61 1) + 5) 2 := jK 0 f44 (rg_T5_2_0_1 t91) (by first | decide | omega) (by first | decide | omega) (by decide)
                have e147 : rv h78 4 = (h ((h 61 1) + 5) 2) := (congrArg (fun z => svq h78 z 4) ((q141.trans q142).trans q143)).trans ((q144.trans q145).trans q146)
                have b148 := jB (e := 2) 0 hJ (rg_T7_2_0_1 t91) (by first | decide | omega) (by first | decide | omega)
                have e149 : rv h 5 = (h ((h 61 1) + 7) 2) := (congrArg (fun z => svq h z 5) rfl).trans rfl
                have q150 : h78 61 1 = h60 61 1 := f80 61 1 (by decide +kernel)
                have q151 : h60 61 1 = h42 61 1 := f62 61 1 (by decide +kernel)
                have q152 : h42 61 1 = h 61 1 := f44 61 1 (by decide +kernel)
                have q153 : h78 ((h 61 1) + 7) 2 = h60 ((h 61 1) + 7) 2 := jK 0 f80 (rg_T7_2_0_1 t91) (by first | decide | omega) (by first | decide | omega) (by decide)
                have q154 : h60 ((h 61 1) + 7) 2 = h42 ((h 61 1) + 7) 2 := jK 0 f62 (rg_T7_2_0_1 t91) (by first | decide | omega) (by first | decide | omega) (by decide)
                have q155 : h42 ((h 61 1) + 7) 2 = h ((h 61 1) + 7) 2 := jK 0 f44 (rg_T7_2_0_1 t91) (by first | decide | omega) (by first | decide | omega) (by decide)
                have e156 : rv h78 5 = (h ((h 61 1) + 7) 2) := (congrArg (fun z => svq h78 z 5) ((q150.trans q151).trans q152)).trans ((q153.trans q154).trans q155)
                have w157 : ¬ Wd tB tN 0 (h 1 2) := by rw [show h 1 2 = h 1 2 from rfl]; exact (Is.no c6 (by first | decide | omega))
                have w158 : ¬ Wd tB tN 6 (h 1 2) := by rw [show h 1 2 = h 1 2 from rfl]; exact (Is.no c16 (by first | decide | omega))
                have w159 : ¬ Wd tB tN 8 (h 1 2) := by rw [show h 1 2 = h 1 2 from rfl]; exact (Is.no c25 (by first | decide | omega))
                have w160 : ¬ Wd tB tN 13 (h 1 2) := by rw [show h 1 2 = h 1 2 from rfl]; exact (Is.no c34 (by first | decide | omega))
                obtain ⟨w161, e162⟩ := Tk.no c48 (by first | decide | omega)
                have w163 : ¬ Wd tB tN 17 (h 1 2) := by rw [show h 1 2 = h 1 2 from rfl]; exact w161
                obtain ⟨w164, e165⟩ := Tk.no c66 (by first | decide | omega)
                have w166 : ¬ Wd tB tN 19 (h 1 2) := by rw [show h 1 2 = h42 1 2 from (show h42 1 2 = h 1 2 by first | decide | omega).symm]; exact w164
                obtain ⟨w167, e168⟩ := Tk.no c84 (by first | decide | omega)
                have w169 : ¬ Wd tB tN 20 (h 1 2) := by rw [show h 1 2 = h60 1 2 from (show h60 1 2 = h 1 2 by first | decide | omega).symm]; exact w167
                have m170 : Ot (h 61 1) h h42 := Ot.fr Ot.refl f44 (by decide)
                have m171 : Ot (h 61 1) h h60 := Ot.fr m170 f62 (by decide)
                have m172 : Ot (h 61 1) h h78 := Ot.fr m171 f80 (by decide)
                have w173 : ¬ Wd tB tN 0 (h 1 2) := by rw [show h 1 2 = h 1 2 from rfl]; exact (Is.no c6 (by first | decide | omega))
                have w174 : ¬ Wd tB tN 6 (h 1 2) := by rw [show h 1 2 = h 1 2 from rfl]; exact (Is.no c16 (by first | decide | omega))
                have w175 : ¬ Wd tB tN 8 (h 1 2) := by rw [show h 1 2 = h 1 2 from rfl]; exact (Is.no c25 (by first | decide | omega))
                have w176 : ¬ Wd tB tN 13 (h 1 2) := by rw [show h 1 2 = h 1 2 from rfl]; exact (Is.no c34 (by first | decide | omega))
                obtain ⟨w177, e178⟩ := Tk.no c48 (by first | decide | omega)
                have w179 : ¬ Wd tB tN 17 (h 1 2) := by rw [show h 1 2 = h 1 2 from rfl]; exact w177
                obtain ⟨w180, e181⟩ := Tk.no c66 (by first | decide | omega)
                have w182 : ¬ Wd tB tN 19 (h 1 2) := by rw [show h 1 2 = h42 1 2 from (show h42 1 2 = h 1 2 by first | decide | omega).symm]; exact w180
                obtain ⟨w183, e184⟩ := Tk.no c84 (by first | decide | omega)
                have w185 : ¬ Wd tB tN 20 (h 1 2) := by rw [show h 1 2 = h60 1 2 from (show h60 1 2 = h 1 2 by first | decide | omega).symm]; exact w183
                refine x_retI (np := 259) (x := 0) (by decide +kernel) (by decide) (Or.inr ⟨by decide +kernel, by first | decide | omega, by first | decide | omega⟩) ⟨_, rfl, (by decide), ?_⟩
                exact ⟨j79, f85, (by first | decide | omega), (by first | decide | omega), (by first | decide | omega), (l9_no w157 w158 w159 w160 w163 w166 w169 (by first | decide | omega)), m172, (fun _ => lF_no w173 w174 w175 w176 w179 w182 w185 (show h78 1 2 = h 1 2 by first | decide | omega))⟩
              have q89 : ¬ (v74 = 2147483648) := q89
              have b186 := c82 (by first | decide | omega)
              refine x_aload (np := 247) (x := 0) (by decide +kernel) rfl (x_nc_le (by decide)) ?_
              have m190 := Tp.fr m77 f80 (by decide) (by decide)
              refine x_cI (t := 6) (mj := 97) (n := 1) (rc := 10) (ml := 2) (nr := 0) (np := 250) (as := [x_r 61]) (rest := []) (lo1 := [x_r 61, 147573952589676412928]) (by decide +kernel) (by decide) (by decide +kernel) (x_rb_of (by decide +kernel)) rfl rfl (x_wr (by decide) x_wn) x_wn (by decide) rfl (c97_61 j79  m190) (fun v187 h191 l188 q189 => ?_)
              obtain ⟨j192, f193, b194, c195, c196⟩ := q189
              have f197 := Fr.trans f85 f193 (by decide)
              refine x_ifz (k := 0) (tg := 257) (np := 253) (by decide +kernel) (by decide) l188 (fun q198 => ?_) (fun q199 => ?_)
              · have q198 : v187 = 2147483648 := q198
                refine x_const (np := 258) (x := 9223372039002259456) (a := 2147483648) (by decide +kernel) (by decide) (by decide) ?_
                have t200 : tw (h 61 1) := hJ.2.2.2.2.1
                have b201 := jB (e := 7) 0 hJ (rg_T0_7_0_1 t200) (by first | decide | omega) (by first | decide | omega)
                have e202 : rv h 0 = (h (h 61 1) 7) := (congrArg (fun z => svq h z 0) rfl).trans rfl
                have q203 : h191 61 1 = h78 61 1 := f193 61 1 (by decide +kernel)
                have q204 : h78 61 1 = h60 61 1 := f80 61 1 (by decide +kernel)
                have q205 : h60 61 1 = h42 61 1 := f62 61 1 (by decide +kernel)
                have q206 : h42 61 1 = h 61 1 := f44 61 1 (by decide +kernel)
                have q207 : h191 (h 61 1) 7 = h78 (h 61 1) 7 := jK 0 f193 (rg_T0_7_0_1 t200) (by first | decide | omega) (by first | decide | omega) (by decide)
                have q208 : h78 (h 61 1) 7 = h60 (h 61 1) 7 := jK 0 f80 (rg_T0_7_0_1 t200) (by first | decide | omega) (by first | decide | omega) (by decide)
                have q209 : h60 (h 61 1) 7 = h42 (h 61 1) 7 := jK 0 f62 (rg_T0_7_0_1 t200) (by first | decide | omega) (by first | decide | omega) (by decide)
                have q210 : h42 (h 61 1) 7 = h (h 61 1) 7 := jK 0 f44 (rg_T0_7_0_1 t200) (by first | decide | omega) (by first | decide | omega) (by decide)
                have e211 : rv h191 0 = (h (h 61 1) 7) := (congrArg (fun z => svq h191 z 0) (((q203.trans q204).trans q205).trans q206)).trans (((q207.trans q208).trans q209).trans q210)
                have e212 : rv h 1 = (h (h 61 1) 8) := (congrArg (fun z => svq h z 1) rfl).trans rfl
                have q213 : h191 61 1 = h78 61 1 := f193 61 1 (by decide +kernel)
                have q214 : h78 61 1 = h60 61 1 := f80 61 1 (by decide +kernel)
                have q215 : h60 61 1 = h42 61 1 := f62 61 1 (by decide +kernel)
                have q216 : h42 61 1 = h 61 1 := f44 61 1 (by decide +kernel)
                have q217 : h191 (h 61 1) 8 = h78 (h 61 1) 8 := jK 0 f193 (rg_T0_8_0_1 t200) (by first | decide | omega) (by first | decide | omega) (by decide)
                have q218 : h78 (h 61 1) 8 = h60 (h 61 1) 8 := jK 0 f80 (rg_T0_8_0_1 t200) (by first | decide | omega) (by first | decide | omega) (by decide)
                have q219 : h60 (h 61 1) 8 = h42 (h 61 1) 8 := jK 0 f62 (rg_T0_8_0_1 t200) (by first | decide | omega) (by first | decide | omega) (by decide)
                have q220 : h42 (h 61 1) 8 = h (h 61 1) 8 := jK 0 f44 (rg_T0_8_0_1 t200) (by first | decide | omega) (by first | decide | omega) (by decide)
                have e221 : rv h191 1 = (h (h 61 1) 8) := (congrArg (fun z => svq h191 z 1) (((q213.trans q214).trans q215).trans q216)).trans (((q217.trans q218).trans q219).trans q220)
                have q222 : h191 61 1 = h78 61 1 := f193 61 1 (by decide +kernel)
                have q223 : h78 61 1 = h60 61 1 := f80 61 1 (by decide +kernel)
                have q224 : h60 61 1 = h42 61 1 := f62 61 1 (by decide +kernel)
                have q225 : h42 61 1 = h 61 1 := f44 61 1 (by decide +kernel)
                have q226 : h191 (h 61 1) 7 = h78 (h 61 1) 7 := jK 0 f193 (rg_T0_7_0_1 t200) (by first | decide | omega) (by first | decide | omega) (by decide)
                have q227 : h78 (h 61 1) 7 = h60 (h 61 1) 7 := jK 0 f80 (rg_T0_7_0_1 t200) (by first | decide | omega) (by first | decide | omega) (by decide)
                have q228 : h60 (h 61 1) 7 = h42 (h 61 1) 7 := jK 0 f62 (rg_T0_7_0_1 t200) (by first | decide | omega) (by first | decide | omega) (by decide)
                have q229 : h42 (h 61 1) 7 = h (h 61 1) 7 := jK 0 f44 (rg_T0_7_0_1 t200) (by first | decide | omega) (by first | decide | omega) (by decide)
                have q230 : h191 61 1 = h78 61 1 := f193 61 1 (by decide +kernel)
                have q231 : h78 61 1 = h60 61 1 := f80 61 1 (by decide +kernel)
                have q232 : h60 61 1 = h42 61 1 := f62 61 1 (by decide +kernel)
                have q233 : h42 61 1 = h 61 1 := f44 61 1 (by decide +kernel)
                have q234 : h191 (h 61 1) 8 = h78 (h 61 1) 8 := jK 0 f193 (rg_T0_8_0_1 t200) (by first | decide | omega) (by first | decide | omega) (by decide)
                have q235 : h78 (h 61 1) 8 = h60 (h 61 1) 8 := jK 0 f80 (rg_T0_8_0_1 t200) (by first | decide | omega) (by first | decide | omega) (by decide)
                have q236 : h60 (h 61 1) 8 = h42 (h 61 1) 8 := jK 0 f62 (rg_T0_8_0_1 t200) (by first | decide | omega) (by first | decide | omega) (by decide)
                have q237 : h42 (h 61 1) 8 = h (h 61 1) 8 := jK 0 f44 (rg_T0_8_0_1 t200) (by first | decide | omega) (by first | decide | omega) (by decide)
                have b238 := jB (e := 2) 0 hJ (rg_T1_2_0_1 t200) (by first | decide | omega) (by first | decide | omega)
                have e239 : rv h 2 = (h ((h 61 1) + 1) 2) := (congrArg (fun z => svq h z 2) rfl).trans rfl
                have q240 : h191 61 1 = h78 61 1 := f193 61 1 (by decide +kernel)
                have q241 : h78 61 1 = h60 61 1 := f80 61 1 (by decide +kernel)
                have q242 : h60 61 1 = h42 61 1 := f62 61 1 (by decide +kernel)
                have q243 : h42 61 1 = h 61 1 := f44 61 1 (by decide +kernel)
                have q244 : h191 ((h 61 1) + 1) 2 = h78 ((h 61 1) + 1) 2 := jK 0 f193 (rg_T1_2_0_1 t200) (by first | decide | omega) (by first | decide | omega) (by decide)
                have q245 : h78 ((h 61 1) + 1) 2 = h60 ((h 61 1) + 1) 2 := jK 0 f80 (rg_T1_2_0_1 t200) (by first | decide | omega) (by first | decide | omega) (by decide)
                have q246 : h60 ((h 61 1) + 1) 2 = h42 ((h 61 1) + 1) 2 := jK 0 f62 (rg_T1_2_0_1 t200) (by first | decide | omega) (by first | decide | omega) (by decide)
                have q247 : h42 ((h 61 1) + 1) 2 = h ((h 61 1) + 1) 2 := jK 0 f44 (rg_T1_2_0_1 t200) (by first | decide | omega) (by first | decide | omega) (by decide)
                have e248 : rv h191 2 = (h ((h 61 1) + 1) 2) := (congrArg (fun z => svq h191 z 2) (((q240.trans q241).trans q242).trans q243)).trans (((q244.trans q245).trans q246).trans q247)
                have b249 := jB (e := 2) 0 hJ (rg_T3_2_0_1 t200) (by first | decide | omega) (by first | decide | omega)
                have e250 : rv h 3 = (h ((h 61 1) + 3) 2) := (congrArg (fun z => svq h z 3) rfl).trans rfl
                have q251 : h191 61 1 = h78 61 1 := f193 61 1 (by decide +kernel)
                have q252 : h78 61 1 = h60 61 1 := f80 61 1 (by decide +kernel)
                have q253 : h60 61 1 = h42 61 1 := f62 61 1 (by decide +kernel)
                have q254 : h42 61 1 = h 61 1 := f44 61 1 (by decide +kernel)
                have q255 : h191 ((h 61 1) + 3) 2 = h78 ((h 61 1) + 3) 2 := jK 0 f193 (rg_T3_2_0_1 t200) (by first | decide | omega) (by first | decide | omega) (by decide)
                have q256 : h78 ((h 61 1) + 3) 2 = h60 ((h 61 1) + 3) 2 := jK 0 f80 (rg_T3_2_0_1 t200) (by first | decide | omega) (by first | decide | omega) (by decide)
                have q257 : h60 ((h 61 1) + 3) 2 = h42 ((h 61 1) + 3) 2 := jK 0 f62 (rg_T3_2_0_1 t200) (by first | decide | omega) (by first | decide | omega) (by decide)
                have q258 : h42 ((h 61 1) + 3) 2 = h ((h 61 1) + 3) 2 := jK 0 f44 (rg_T3_2_0_1 t200) (by first | decide | omega) (by first | decide | omega) (by decide)
                have e259 : rv h191 3 = (h ((h 61 1) + 3) 2) := (congrArg (fun z => svq h191 z 3) (((q251.trans q252).trans q253).trans q254)).trans (((q255.trans q256).trans q257).trans q258)
                have b260 := jB (e := 2) 0 hJ (rg_T5_2_0_1 t200) (by first | decide | omega) (by first | decide | omega)
                have e261 : rv h 4 = (h ((h 61 1) + 5) 2) := (congrArg (fun z => svq h z 4) rfl).trans rfl
                have q262 : h191 61 1 = h78 61 1 := f193 61 1 (by decide +kernel)
                have q263 : h78 61 1 = h60 61 1 := f80 61 1 (by decide +kernel)
                have q264 : h60 61 1 = h42 61 1 := f62 61 1 (by decide +kernel)
                have q265 : h42 61 1 = h 61 1 := f44 61 1 (by decide +kernel)
                have q266 : h191 ((h 61 1) + 5) 2 = h78 ((h 61 1) + 5) 2 := jK 0 f193 (rg_T5_2_0_1 t200) (by first | decide | omega) (by first | decide | omega) (by decide)
                have q267 : h78 ((h 61 1) + 5) 2 = h60 ((h 61 1) + 5) 2 := jK 0 f80 (rg_T5_2_0_1 t200) (by first | decide | omega) (by first | decide | omega) (by decide)
                have q268 : h60 ((h 61 1) + 5) 2 = h42 ((h 61 1) + 5) 2 := jK 0 f62 (rg_T5_2_0_1 t200) (by first | decide | omega) (by first | decide | omega) (by decide)
                have q269 : h42 ((h 61 1) + 5) 2 = h ((h 61 1) + 5) 2 := jK 0 f44 (rg_T5_2_0_1 t200) (by first | decide | omega) (by first | decide | omega) (by decide)
                have e270 : rv h191 4 = (h ((h 61 1) + 5) 2) := (congrArg (fun z => svq h191 z 4) (((q262.trans q263).trans q264).trans q265)).trans (((q266.trans q267).trans q268).trans q269)
                have b271 := jB (e := 2) 0 hJ (rg_T7_2_0_1 t200) (by first | decide | omega) (by first | decide | omega)
                have e272 : rv h 5 = (h ((h 61 1) + 7) 2) := (congrArg (fun z => svq h z 5) rfl).trans rfl
                have q273 : h191 61 1 = h78 61 1 := f193 61 1 (by decide +kernel)
                have q274 : h78 61 1 = h60 61 1 := f80 61 1 (by decide +kernel)
                have q275 : h60 61 1 = h42 61 1 := f62 61 1 (by decide +kernel)
                have q276 : h42 61 1 = h 61 1 := f44 61 1 (by decide +kernel)
                have q277 : h191 ((h 61 1) + 7) 2 = h78 ((h 61 1) + 7) 2 := jK 0 f193 (rg_T7_2_0_1 t200) (by first | decide | omega) (by first | decide | omega) (by decide)
                have q278 : h78 ((h 61 1) + 7) 2 = h60 ((h 61 1) + 7) 2 := jK 0 f80 (rg_T7_2_0_1 t200) (by first | decide | omega) (by first | decide | omega) (by decide)
                have q279 : h60 ((h 61 1) + 7) 2 = h42 ((h 61 1) + 7) 2 := jK 0 f62 (rg_T7_2_0_1 t200) (by first | decide | omega) (by first | decide | omega) (by decide)
                have q280 : h42 ((h 61 1) + 7) 2 = h ((h 61 1) + 7) 2 := jK 0 f44 (rg_T7_2_0_1 t200) (by first | decide | omega) (by first | decide | omega) (by decide)
                have e281 : rv h191 5 = (h ((h 61 1) + 7) 2) := (congrArg (fun z => svq h191 z 5) (((q273.trans q274).trans q275).trans q276)).trans (((q277.trans q278).trans q279).trans q280)
                have w282 : ¬ Wd tB tN 0 (h 1 2) := by rw [show h 1 2 = h 1 2 from rfl]; exact (Is.no c6 (by first | decide | omega))
                have w283 : ¬ Wd tB tN 6 (h 1 2) := by rw [show h 1 2 = h 1 2 from rfl]; exact (Is.no c16 (by first | decide | omega))
                have w284 : ¬ Wd tB tN 8 (h 1 2) := by rw [show h 1 2 = h 1 2 from rfl]; exact (Is.no c25 (by first | decide | omega))
                have w285 : ¬ Wd tB tN 13 (h 1 2) := by rw [show h 1 2 = h 1 2 from rfl]; exact (Is.no c34 (by first | decide | omega))
                obtain ⟨w286, e287⟩ := Tk.no c48 (by first | decide | omega)
                have w288 : ¬ Wd tB tN 17 (h 1 2) := by rw [show h 1 2 = h 1 2 from rfl]; exact w286
                obtain ⟨w289, e290⟩ := Tk.no c66 (by first | decide | omega)
                have w291 : ¬ Wd tB tN 19 (h 1 2) := by rw [show h 1 2 = h42 1 2 from (show h42 1 2 = h 1 2 by first | decide | omega).symm]; exact w289
                obtain ⟨w292, e293⟩ := Tk.yes c84 (by first | decide | omega)
                have m294 : Ot (h 61 1) h h42 := Ot.fr Ot.refl f44 (by decide)
                have m295 : Ot (h 61 1) h h60 := Ot.fr m294 f62 (by decide)
                have m296 : Ot (h 61 1) h h78 := Ot.fr m295 f80 (by decide)
                have m297 : Ot (h 61 1) h h191 := Ot.fr m296 f193 (by decide)
                have w298 : ¬ Wd tB tN 0 (h 1 2) := by rw [show h 1 2 = h 1 2 from rfl]; exact (Is.no c6 (by first | decide | omega))
                have w299 : ¬ Wd tB tN 6 (h 1 2) := by rw [show h 1 2 = h 1 2 from rfl]; exact (Is.no c16 (by first | decide | omega))
                have w300 : ¬ Wd tB tN 8 (h 1 2) := by rw [show h 1 2 = h 1 2 from rfl]; exact (Is.no c25 (by first | decide | omega))
                have w301 : ¬ Wd tB tN 13 (h 1 2) := by rw [show h 1 2 = h 1 2 from rfl]; exact (Is.no c34 (by first | decide | omega))
                obtain ⟨w302, e303⟩ := Tk.no c48 (by first | decide | omega)
                have w304 : ¬ Wd tB tN 17 (h 1 2) := by rw [show h 1 2 = h 1 2 from rfl]; exact w302
                obtain ⟨w305, e306⟩ := Tk.no c66 (by first | decide | omega)
                have w307 : ¬ Wd tB tN 19 (h 1 2) := by rw [show h 1 2 = h42 1 2 from (show h42 1 2 = h 1 2 by first | decide | omega).symm]; exact w305
                obtain ⟨w308, e309⟩ := Tk.yes c84 (by first | decide | omega)
                have k310 : courtF tB tN (h78 1 2) (h191 1 2) := by exact (c196 (by first | decide | omega))
                refine x_retI (np := 259) (x := 0) (by decide +kernel) (by decide) (Or.inr ⟨by decide +kernel, by first | decide | omega, by first | decide | omega⟩) ⟨_, rfl, (by decide), ?_⟩
                exact ⟨j192, f197, (by first | decide | omega), (by first | decide | omega), (by first | decide | omega), (l9_court w292 (show h60 1 2 = h 1 2 by first | decide | omega) e293 rfl c195 (by first | decide | omega) (by first | decide | omega) (fun z => absurd z (by first | decide | omega))), m297, (fun _ => lF_court w308 (show h60 1 2 = h 1 2 by first | decide | omega) e309 rfl k310)⟩
              have q199 : ¬ (v187 = 2147483648) := q199
              refine x_const (np := 254) (x := 9223372043297226753) (a := 2147483649) (by decide +kernel) (by decide) (by decide) ?_
              refine x_goto (np := 257) (x := 258) (by decide +kernel) ?_
              have t311 : tw (h 61 1) := hJ.2.2.2.2.1
              have b312 := jB (e := 7) 0 hJ (rg_T0_7_0_1 t311) (by first | decide | omega) (by first | decide | omega)
              have e313 : rv h 0 = (h (h 61 1) 7) := (congrArg (fun z => svq h z 0) rfl).trans rfl
              have q314 : h191 61 1 = h78 61 1 := f193 61 1 (by decide +kernel)
              have q315 : h78 61 1 = h60 61 1 := f80 61 1 (by decide +kernel)
              have q316 : h60 61 1 = h42 61 1 := f62 61 1 (by decide +kernel)
              have q317 : h42 61 1 = h 61 1 := f44 61 1 (by decide +kernel)
              have q318 : h191 (h 61 1) 7 = h78 (h 61 1) 7 := jK 0 f193 (rg_T0_7_0_1 t311) (by first | decide | omega) (by first | decide | omega) (by decide)
              have q319 : h78 (h 61 1) 7 = h60 (h 61 1) 7 := jK 0 f80 (rg_T0_7_0_1 t311) (by first | decide | omega) (by first | decide | omega) (by decide)
              have q320 : h60 (h 61 1) 7 = h42 (h 61 1) 7 := jK 0 f62 (rg_T0_7_0_1 t311) (by first | decide | omega) (by first | decide | omega) (by decide)
              have q321 : h42 (h 61 1) 7 = h (h 61 1) 7 := jK 0 f44 (rg_T0_7_0_1 t311) (by first | decide | omega) (by first | decide | omega) (by decide)
              have e322 : rv h191 0 = (h (h 61 1) 7) := (congrArg (fun z => svq h191 z 0) (((q314.trans q315).trans q316).trans q317)).trans (((q318.trans q319).trans q320).trans q321)
              have e323 : rv h 1 = (h (h 61 1) 8) := (congrArg (fun z => svq h z 1) rfl).trans rfl
              have q324 : h191 61 1 = h78 61 1 := f193 61 1 (by decide +kernel)
              have q325 : h78 61 1 = h60 61 1 := f80 61 1 (by decide +kernel)
              have q326 : h60 61 1 = h42 61 1 := f62 61 1 (by decide +kernel)
              have q327 : h42 61 1 = h 61 1 := f44 61 1 (by decide +kernel)
              have q328 : h191 (h 61 1) 8 = h78 (h 61 1) 8 := jK 0 f193 (rg_T0_8_0_1 t311) (by first | decide | omega) (by first | decide | omega) (by decide)
              have q329 : h78 (h 61 1) 8 = h60 (h 61 1) 8 := jK 0 f80 (rg_T0_8_0_1 t311) (by first | decide | omega) (by first | decide | omega) (by decide)
              have q330 : h60 (h 61 1) 8 = h42 (h 61 1) 8 := jK 0 f62 (rg_T0_8_0_1 t311) (by first | decide | omega) (by first | decide | omega) (by decide)
              have q331 : h42 (h 61 1) 8 = h (h 61 1) 8 := jK 0 f44 (rg_T0_8_0_1 t311) (by first | decide | omega) (by first | decide | omega) (by decide)
              have e332 : rv h191 1 = (h (h 61 1) 8) := (congrArg (fun z => svq h191 z 1) (((q324.trans q325).trans q326).trans q327)).trans (((q328.trans q329).trans q330).trans q331)
              have q333 : h191 61 1 = h78 61 1 := f193 61 1 (by decide +kernel)
              have q334 : h78 61 1 = h60 61 1 := f80 61 1 (by decide +kernel)
              have q335 : h60 61 1 = h42 61 1 := f62 61 1 (by decide +kernel)
              have q336 : h42 61 1 = h 61 1 := f44 61 1 (by decide +kernel)
              have q337 : h191 (h 61 1) 7 = h78 (h 61 1) 7 := jK 0 f193 (rg_T0_7_0_1 t311) (by first | decide | omega) (by first | decide | omega) (by decide)
              have q338 : h78 (h 61 1) 7 = h60 (h 61 1) 7 := jK 0 f80 (rg_T0_7_0_1 t311) (by first | decide | omega) (by first | decide | omega) (by decide)
              have q339 : h60 (h 61 1) 7 = h42 (h 61 1) 7 := jK 0 f62 (rg_T0_7_0_1 t311) (by first | decide | omega) (by first | decide | omega) (by decide)
              have q340 : h42 (h 61 1) 7 = h (h 61 1) 7 := jK 0 f44 (rg_T0_7_0_1 t311) (by first | decide | omega) (by first | decide | omega) (by decide)
              have q341 : h191 61 1 = h78 61 1 := f193 61 1 (by decide +kernel)
              have q342 : h78 61 1 = h60 61 1 := f80 61 1 (by decide +kernel)
              have q343 : h60 61 1 = h42 61 1 := f62 61 1 (by decide +kernel)
              have q344 : h42 61 1 = h 61 1 := f44 61 1 (by decide +kernel)
              have q345 : h191 (h 61 1) 8 = h78 (h 61 1) 8 := jK 0 f193 (rg_T0_8_0_1 t311) (by first | decide | omega) (by first | decide | omega) (by decide)
              have q346 : h78 (h 61 1) 8 = h60 (h 61 1) 8 := jK 0 f80 (rg_T0_8_0_1 t311) (by first | decide | omega) (by first | decide | omega) (by decide)
              have q347 : h60 (h 61 1) 8 = h42 (h 61 1) 8 := jK 0 f62 (rg_T0_8_0_1 t311) (by first | decide | omega) (by first | decide | omega) (by decide)
              have q348 : h42 (h 61 1) 8 = h (h 61 1) 8 := jK 0 f44 (rg_T0_8_0_1 t311) (by first | decide | omega) (by first | decide | omega) (by decide)
              have b349 := jB (e := 2) 0 hJ (rg_T1_2_0_1 t311) (by first | decide | omega) (by first | decide | omega)
              have e350 : rv h 2 = (h ((h 61 1) + 1) 2) := (congrArg (fun z => svq h z 2) rfl).trans rfl
              have q351 : h191 61 1 = h78 61 1 := f193 61 1 (by decide +kernel)
              have q352 : h78 61 1 = h60 61 1 := f80 61 1 (by decide +kernel)
              have q353 : h60 61 1 = h42 61 1 := f62 61 1 (by decide +kernel)
              have q354 : h42 61 1 = h 61 1 := f44 61 1 (by decide +kernel)
              have q355 : h191 ((h 61 1) + 1) 2 = h78 ((h 61 1) + 1) 2 := jK 0 f193 (rg_T1_2_0_1 t311) (by first | decide | omega) (by first | decide | omega) (by decide)
              have q356 : h78 ((h 61 1) + 1) 2 = h60 ((h 61 1) + 1) 2 := jK 0 f80 (rg_T1_2_0_1 t311) (by first | decide | omega) (by first | decide | omega) (by decide)
              have q357 : h60 ((h 61 1) + 1) 2 = h42 ((h 61 1) + 1) 2 := jK 0 f62 (rg_T1_2_0_1 t311) (by first | decide | omega) (by first | decide | omega) (by decide)
              have q358 : h42 ((h 61 1) + 1) 2 = h ((h 61 1) + 1) 2 := jK 0 f44 (rg_T1_2_0_1 t311) (by first | decide | omega) (by first | decide | omega) (by decide)
              have e359 : rv h191 2 = (h ((h 61 1) + 1) 2) := (congrArg (fun z => svq h191 z 2) (((q351.trans q352).trans q353).trans q354)).trans (((q355.trans q356).trans q357).trans q358)
              have b360 := jB (e := 2) 0 hJ (rg_T3_2_0_1 t311) (by first | decide | omega) (by first | decide | omega)
              have e361 : rv h 3 = (h ((h 61 1) + 3) 2) := (congrArg (fun z => svq h z 3) rfl).trans rfl
              have q362 : h191 61 1 = h78 61 1 := f193 61 1 (by decide +kernel)
              have q363 : h78 61 1 = h60 61 1 := f80 61 1 (by decide +kernel)
              have q364 : h60 61 1 = h42 61 1 := f62 61 1 (by decide +kernel)
              have q365 : h42 61 1 = h 61 1 := f44 61 1 (by decide +kernel)
              have q366 : h191 ((h 61 1) + 3) 2 = h78 ((h 61 1) + 3) 2 := jK 0 f193 (rg_T3_2_0_1 t311) (by first | decide | omega) (by first | decide | omega) (by decide)
              have q367 : h78 ((h 61 1) + 3) 2 = h60 ((h 61 1) + 3) 2 := jK 0 f80 (rg_T3_2_0_1 t311) (by first | decide | omega) (by first | decide | omega) (by decide)
              have q368 : h60 ((h 61 1) + 3) 2 = h42 ((h 61 1) + 3) 2 := jK 0 f62 (rg_T3_2_0_1 t311) (by first | decide | omega) (by first | decide | omega) (by decide)
              have q369 : h42 ((h 61 1) + 3) 2 = h ((h 61 1) + 3) 2 := jK 0 f44 (rg_T3_2_0_1 t311) (by first | decide | omega) (by first | decide | omega) (by decide)
              have e370 : rv h191 3 = (h ((h 61 1) + 3) 2) := (congrArg (fun z => svq h191 z 3) (((q362.trans q363).trans q364).trans q365)).trans (((q366.trans q367).trans q368).trans q369)
              have b371 := jB (e := 2) 0 hJ (rg_T5_2_0_1 t311) (by first | decide | omega) (by first | decide | omega)
              have e372 : rv h 4 = (h ((h 61 1) + 5) 2) := (congrArg (fun z => svq h z 4) rfl).trans rfl
              have q373 : h191 61 1 = h78 61 1 := f193 61 1 (by decide +kernel)
              have q374 : h78 61 1 = h60 61 1 := f80 61 1 (by decide +kernel)
              have q375 : h60 61 1 = h42 61 1 := f62 61 1 (by decide +kernel)
              have q376 : h42 61 1 = h 61 1 := f44 61 1 (by decide +kernel)
              have q377 : h191 ((h 61 1) + 5) 2 = h78 ((h 61 1) + 5) 2 := jK 0 f193 (rg_T5_2_0_1 t311) (by first | decide | omega) (by first | decide | omega) (by decide)
              have q378 : h78 ((h 61 1) + 5) 2 = h60 ((h 61 1) + 5) 2 := jK 0 f80 (rg_T5_2_0_1 t311) (by first | decide | omega) (by first | decide | omega) (by decide)
              have q379 : h60 ((h 61 1) + 5) 2 = h42 ((h 61 1) + 5) 2 := jK 0 f62 (rg_T5_2_0_1 t311) (by first | decide | omega) (by first | decide | omega) (by decide)
              have q380 : h42 ((h 61 1) + 5) 2 = h ((h 61 1) + 5) 2 := jK 0 f44 (rg_T5_2_0_1 t311) (by first | decide | omega) (by first | decide | omega) (by decide)
              have e381 : rv h191 4 = (h ((h 61 1) + 5) 2) := (congrArg (fun z => svq h191 z 4) (((q373.trans q374).trans q375).trans q376)).trans (((q377.trans q378).trans q379).trans q380)
              have b382 := jB (e := 2) 0 hJ (rg_T7_2_0_1 t311) (by first | decide | omega) (by first | decide | omega)
              have e383 : rv h 5 = (h ((h 61 1) + 7) 2) := (congrArg (fun z => svq h z 5) rfl).trans rfl
              have q384 : h191 61 1 = h78 61 1 := f193 61 1 (by decide +kernel)
              have q385 : h78 61 1 = h60 61 1 := f80 61 1 (by decide +kernel)
              have q386 : h60 61 1 = h42 61 1 := f62 61 1 (by decide +kernel)
              have q387 : h42 61 1 = h 61 1 := f44 61 1 (by decide +kernel)
              have q388 : h191 ((h 61 1) + 7) 2 = h78 ((h 61 1) + 7) 2 := jK 0 f193 (rg_T7_2_0_1 t311) (by first | decide | omega) (by first | decide | omega) (by decide)
              have q389 : h78 ((h 61 1) + 7) 2 = h60 ((h 61 1) + 7) 2 := jK 0 f80 (rg_T7_2_0_1 t311) (by first | decide | omega) (by first | decide | omega) (by decide)
              have q390 : h60 ((h 61 1) + 7) 2 = h42 ((h 61 1) + 7) 2 := jK 0 f62 (rg_T7_2_0_1 t311) (by first | decide | omega) (by first | decide | omega) (by decide)
              have q391 : h42 ((h 61 1) + 7) 2 = h ((h 61 1) + 7) 2 := jK 0 f44 (rg_T7_2_0_1 t311) (by first | decide | omega) (by first | decide | omega) (by decide)
              have e392 : rv h191 5 = (h ((h 61 1) + 7) 2) := (congrArg (fun z => svq h191 z 5) (((q384.trans q385).trans q386).trans q387)).trans (((q388.trans q389).trans q390).trans q391)
              have w393 : ¬ Wd tB tN 0 (h 1 2) := by rw [show h 1 2 = h 1 2 from rfl]; exact (Is.no c6 (by first | decide | omega))
              have w394 : ¬ Wd tB tN 6 (h 1 2) := by rw [show h 1 2 = h 1 2 from rfl]; exact (Is.no c16 (by first | decide | omega))
              have w395 : ¬ Wd tB tN 8 (h 1 2) := by rw [show h 1 2 = h 1 2 from rfl]; exact (Is.no c25 (by first | decide | omega))
              have w396 : ¬ Wd tB tN 13 (h 1 2) := by rw [show h 1 2 = h 1 2 from rfl]; exact (Is.no c34 (by first | decide | omega))
              obtain ⟨w397, e398⟩ := Tk.no c48 (by first | decide | omega)
              have w399 : ¬ Wd tB tN 17 (h 1 2) := by rw [show h 1 2 = h 1 2 from rfl]; exact w397
              obtain ⟨w400, e401⟩ := Tk.no c66 (by first | decide | omega)
              have w402 : ¬ Wd tB tN 19 (h 1 2) := by rw [show h 1 2 = h42 1 2 from (show h42 1 2 = h 1 2 by first | decide | omega).symm]; exact w400
              obtain ⟨w403, e404⟩ := Tk.yes c84 (by first | decide | omega)
              have m405 : Ot (h 61 1) h h42 := Ot.fr Ot.refl f44 (by decide)
              have m406 : Ot (h 61 1) h h60 := Ot.fr m405 f62 (by decide)
              have m407 : Ot (h 61 1) h h78 := Ot.fr m406 f80 (by decide)
              have m408 : Ot (h 61 1) h h191 := Ot.fr m407 f193 (by decide)
              refine x_retI (np := 259) (x := 0) (by decide +kernel) (by decide) (Or.inr ⟨by decide +kernel, by first | decide | omega, by first | decide | omega⟩) ⟨_, rfl, (by decide), ?_⟩
              exact ⟨j192, f197, (by first | decide | omega), (by first | decide | omega), (by first | decide | omega), (l9_court w403 (show h60 1 2 = h 1 2 by first | decide | omega) e404 rfl c195 (by first | decide | omega) (by first | decide | omega) (fun z => ⟨rfl, by first | decide | omega, by first | decide | omega, by first | decide | omega, by first | decide | omega⟩)), m408, (fun z => absurd z (by first | decide | omega))⟩
            have q71 : ¬ (v56 = 2147483648) := q71
            have b409 := c64 (by first | decide | omega)
            refine x_aload (np := 230) (x := 0) (by decide +kernel) rfl (x_nc_le (by decide)) ?_
            have m413 := Tp.fr m59 f62 (by decide) (by decide)
            refine x_cI (t := 6) (mj := 96) (n := 1) (rc := 10) (ml := 3) (nr := 0) (np := 233) (as := [x_r 61]) (rest := []) (lo1 := [x_r 61, 147573952589676412928, 147573952589676412928]) (by decide +kernel) (by decide) (by decide +kernel) (x_rb_of (by decide +kernel)) rfl rfl (x_wr (by decide) x_wn) x_wn (by decide) rfl (c96_61 j61  m413) (fun v410 h414 l411 q412 => ?_)
            obtain ⟨j415, f416, b417, c418, c419⟩ := q412
            have f420 := Fr.trans f67 f416 (by decide)
            have t421 : tw (h 61 1) := hJ.2.2.2.2.1
            have b422 := jB (e := 7) 0 hJ (rg_T0_7_0_1 t421) (by first | decide | omega) (by first | decide | omega)
            have e423 : rv h 0 = (h (h 61 1) 7) := (congrArg (fun z => svq h z 0) rfl).trans rfl
            have q424 : h414 61 1 = h60 61 1 := f416 61 1 (by decide +kernel)
            have q425 : h60 61 1 = h42 61 1 := f62 61 1 (by decide +kernel)
            have q426 : h42 61 1 = h 61 1 := f44 61 1 (by decide +kernel)
            have q427 : h414 (h 61 1) 7 = h60 (h 61 1) 7 := jK 0 f416 (rg_T0_7_0_1 t421) (by first | decide | omega) (by first | decide | omega) (by decide)
            have q428 : h60 (h 61 1) 7 = h42 (h 61 1) 7 := jK 0 f62 (rg_T0_7_0_1 t421) (by first | decide | omega) (by first | decide | omega) (by decide)
            have q429 : h42 (h 61 1) 7 = h (h 61 1) 7 := jK 0 f44 (rg_T0_7_0_1 t421) (by first | decide | omega) (by first | decide | omega) (by decide)
            have e430 : rv h414 0 = (h (h 61 1) 7) := (congrArg (fun z => svq h414 z 0) ((q424.trans q425).trans q426)).trans ((q427.trans q428).trans q429)
            have e431 : rv h 1 = (h (h 61 1) 8) := (congrArg (fun z => svq h z 1) rfl).trans rfl
            have q432 : h414 61 1 = h60 61 1 := f416 61 1 (by decide +kernel)
            have q433 : h60 61 1 = h42 61 1 := f62 61 1 (by decide +kernel)
            have q434 : h42 61 1 = h 61 1 := f44 61 1 (by decide +kernel)
            have q435 : h414 (h 61 1) 8 = h60 (h 61 1) 8 := jK 0 f416 (rg_T0_8_0_1 t421) (by first | decide | omega) (by first | decide | omega) (by decide)
            have q436 : h60 (h 61 1) 8 = h42 (h 61 1) 8 := jK 0 f62 (rg_T0_8_0_1 t421) (by first | decide | omega) (by first | decide | omega) (by decide)
            have q437 : h42 (h 61 1) 8 = h (h 61 1) 8 := jK 0 f44 (rg_T0_8_0_1 t421) (by first | decide | omega) (by first | decide | omega) (by decide)
            have e438 : rv h414 1 = (h (h 61 1) 8) := (congrArg (fun z => svq h414 z 1) ((q432.trans q433).trans q434)).trans ((q435.trans q436).trans q437)
            have q439 : h414 61 1 = h60 61 1 := f416 61 1 (by decide +kernel)
            have q440 : h60 61 1 = h42 61 1 := f62 61 1 (by decide +kernel)
            have q441 : h42 61 1 = h 61 1 := f44 61 1 (by decide +kernel)
            have q442 : h414 (h 61 1) 7 = h60 (h 61 1) 7 := jK 0 f416 (rg_T0_7_0_1 t421) (by first | decide | omega) (by first | decide | omega) (by decide)
            have q443 : h60 (h 61 1) 7 = h42 (h 61 1) 7 := jK 0 f62 (rg_T0_7_0_1 t421) (by first | decide | omega) (by first | decide | omega) (by decide)
            have q444 : h42 (h 61 1) 7 = h (h 61 1) 7 := jK 0 f44 (rg_T0_7_0_1 t421) (by first | decide | omega) (by first | decide | omega) (by decide)
            have q445 : h414 61 1 = h60 61 1 := f416 61 1 (by decide +kernel)
            have q446 : h60 61 1 = h42 61 1 := f62 61 1 (by decide +kernel)
            have q447 : h42 61 1 = h 61 1 := f44 61 1 (by decide +kernel)
            have q448 : h414 (h 61 1) 8 = h60 (h 61 1) 8 := jK 0 f416 (rg_T0_8_0_1 t421) (by first | decide | omega) (by first | decide | omega) (by decide)
            have q449 : h60 (h 61 1) 8 = h42 (h 61 1) 8 := jK 0 f62 (rg_T0_8_0_1 t421) (by first | decide | omega) (by first | decide | omega) (by decide)
            have q450 : h42 (h 61 1) 8 = h (h 61 1) 8 := jK 0 f44 (rg_T0_8_0_1 t421) (by first | decide | omega) (by first | decide | omega) (by decide)
            have b451 := jB (e := 2) 0 hJ (rg_T1_2_0_1 t421) (by first | decide | omega) (by first | decide | omega)
            have e452 : rv h 2 = (h ((h 61 1) + 1) 2) := (congrArg (fun z => svq h z 2) rfl).trans rfl
            have q453 : h414 61 1 = h60 61 1 := f416 61 1 (by decide +kernel)
            have q454 : h60 61 1 = h42 61 1 := f62 61 1 (by decide +kernel)
            have q455 : h42 61 1 = h 61 1 := f44 61 1 (by decide +kernel)
            have q456 : h414 ((h 61 1) + 1) 2 = h60 ((h 61 1) + 1) 2 := jK 0 f416 (rg_T1_2_0_1 t421) (by first | decide | omega) (by first | decide | omega) (by decide)
            have q457 : h60 ((h 61 1) + 1) 2 = h42 ((h 61 1) + 1) 2 := jK 0 f62 (rg_T1_2_0_1 t421) (by first | decide | omega) (by first | decide | omega) (by decide)
            have q458 : h42 ((h 61 1) + 1) 2 = h ((h 61 1) + 1) 2 := jK 0 f44 (rg_T1_2_0_1 t421) (by first | decide | omega) (by first | decide | omega) (by decide)
            have e459 : rv h414 2 = (h ((h 61 1) + 1) 2) := (congrArg (fun z => svq h414 z 2) ((q453.trans q454).trans q455)).trans ((q456.trans q457).trans q458)
            have b460 := jB (e := 2) 0 hJ (rg_T3_2_0_1 t421) (by first | decide | omega) (by first | decide | omega)
            have e461 : rv h 3 = (h ((h 61 1) + 3) 2) := (congrArg (fun z => svq h z 3) rfl).trans rfl
            have q462 : h414 61 1 = h60 61 1 := f416 61 1 (by decide +kernel)
            have q463 : h60 61 1 = h42 61 1 := f62 61 1 (by decide +kernel)
            have q464 : h42 61 1 = h 61 1 := f44 61 1 (by decide +kernel)
            have q465 : h414 ((h 61 1) + 3) 2 = h60 ((h 61 1) + 3) 2 := jK 0 f416 (rg_T3_2_0_1 t421) (by first | decide | omega) (by first | decide | omega) (by decide)
            have q466 : h60 ((h 61 1) + 3) 2 = h42 ((h 61 1) + 3) 2 := jK 0 f62 (rg_T3_2_0_1 t421) (by first | decide | omega) (by first | decide | omega) (by decide)
            have q467 : h42 ((h 61 1) + 3) 2 = h ((h 61 1) + 3) 2 := jK 0 f44 (rg_T3_2_0_1 t421) (by first | decide | omega) (by first | decide | omega) (by decide)
            have e468 : rv h414 3 = (h ((h 61 1) + 3) 2) := (congrArg (fun z => svq h414 z 3) ((q462.trans q463).trans q464)).trans ((q465.trans q466).trans q467)
            have b469 := jB (e := 2) 0 hJ (rg_T5_2_0_1 t421) (by first | decide | omega) (by first | decide | omega)
            have e470 : rv h 4 = (h ((h 61 1) + 5) 2) := (congrArg (fun z => svq h z 4) rfl).trans rfl
            have q471 : h414 61 1 = h60 61 1 := f416 61 1 (by decide +kernel)
            have q472 : h60 61 1 = h42 61 1 := f62 61 1 (by decide +kernel)
            have q473 : h42 61 1 = h 61 1 := f44 61 1 (by decide +kernel)
            have q474 : h414 ((h 61 1) + 5) 2 = h60 ((h 61 1) + 5) 2 := jK 0 f416 (rg_T5_2_0_1 t421) (by first | decide | omega) (by first | decide | omega) (by decide)
            have q475 : h60 ((h 61 1) + 5) 2 = h42 ((h 61 1) + 5) 2 := jK 0 f62 (rg_T5_2_0_1 t421) (by first | decide | omega) (by first | decide | omega) (by decide)
            have q476 : h42 ((h 61 1) + 5) 2 = h ((h 61 1) + 5) 2 := jK 0 f44 (rg_T5_2_0_1 t421) (by first | decide | omega) (by first | decide | omega) (by decide)
            have e477 : rv h414 4 = (h ((h 61 1) + 5) 2) := (congrArg (fun z => svq h414 z 4) ((q471.trans q472).trans q473)).trans ((q474.trans q475).trans q476)
            have b478 := jB (e := 2) 0 hJ (rg_T7_2_0_1 t421) (by first | decide | omega) (by first | decide | omega)
            have e479 : rv h 5 = (h ((h 61 1) + 7) 2) := (congrArg (fun z => svq h z 5) rfl).trans rfl
            have q480 : h414 61 1 = h60 61 1 := f416 61 1 (by decide +kernel)
            have q481 : h60 61 1 = h42 61 1 := f62 61 1 (by decide +kernel)
            have q482 : h42 61 1 = h 61 1 := f44 61 1 (by decide +kernel)
            have q483 : h414 ((h 61 1) + 7) 2 = h60 ((h 61 1) + 7) 2 := jK 0 f416 (rg_T7_2_0_1 t421) (by first | decide | omega) (by first | decide | omega) (by decide)
            have q484 : h60 ((h 61 1) + 7) 2 = h42 ((h 61 1) + 7) 2 := jK 0 f62 (rg_T7_2_0_1 t421) (by first | decide | omega) (by first | decide | omega) (by decide)
            have q485 : h42 ((h 61 1) + 7) 2 = h ((h 61 1) + 7) 2 := jK 0 f44 (rg_T7_2_0_1 t421) (by first | decide | omega) (by first | decide | omega) (by decide)
            have e486 : rv h414 5 = (h ((h 61 1) + 7) 2) := (congrArg (fun z => svq h414 z 5) ((q480.trans q481).trans q482)).trans ((q483.trans q484).trans q485)
            have w487 : ¬ Wd tB tN 0 (h 1 2) := by rw [show h 1 2 = h 1 2 from rfl]; exact (Is.no c6 (by first | decide | omega))
            have w488 : ¬ Wd tB tN 6 (h 1 2) := by rw [show h 1 2 = h 1 2 from rfl]; exact (Is.no c16 (by first | decide | omega))
            have w489 : ¬ Wd tB tN 8 (h 1 2) := by rw [show h 1 2 = h 1 2 from rfl]; exact (Is.no c25 (by first | decide | omega))
            have w490 : ¬ Wd tB tN 13 (h 1 2) := by rw [show h 1 2 = h 1 2 from rfl]; exact (Is.no c34 (by first | decide | omega))
            obtain ⟨w491, e492⟩ := Tk.no c48 (by first | decide | omega)
            have w493 : ¬ Wd tB tN 17 (h 1 2) := by rw [show h 1 2 = h 1 2 from rfl]; exact w491
            obtain ⟨w494, e495⟩ := Tk.yes c66 (by first | decide | omega)
            have q496 : h60 61 1 = h42 61 1 := f62 61 1 (by decide +kernel)
            have q497 : h42 61 1 = h 61 1 := f44 61 1 (by decide +kernel)
            have q498 : h60 (h 61 1) 7 = h42 (h 61 1) 7 := jK 0 f62 (rg_T0_7_0_1 t421) (by first | decide | omega) (by first | decide | omega) (by decide)
            have q499 : h42 (h 61 1) 7 = h (h 61 1) 7 := jK 0 f44 (rg_T0_7_0_1 t421) (by first | decide | omega) (by first | decide | omega) (by decide)
            have e500 : rv h60 0 = (h (h 61 1) 7) := (congrArg (fun z => svq h60 z 0) (q496.trans q497)).trans (q498.trans q499)
            have k501 : dies9 tB tN (rv h 0) (h60 1 2) (rs v410 (h414 1 2)) := by rw [show rv h 0 = rv h60 0 by first | decide | omega]; exact c418
            have m502 : Ot (h 61 1) h h42 := Ot.fr Ot.refl f44 (by decide)
            have m503 : Ot (h 61 1) h h60 := Ot.fr m502 f62 (by decide)
            have m504 : Ot (h 61 1) h h414 := Ot.fr m503 f416 (by decide)
            have w505 : ¬ Wd tB tN 0 (h 1 2) := by rw [show h 1 2 = h 1 2 from rfl]; exact (Is.no c6 (by first | decide | omega))
            have w506 : ¬ Wd tB tN 6 (h 1 2) := by rw [show h 1 2 = h 1 2 from rfl]; exact (Is.no c16 (by first | decide | omega))
            have w507 : ¬ Wd tB tN 8 (h 1 2) := by rw [show h 1 2 = h 1 2 from rfl]; exact (Is.no c25 (by first | decide | omega))
            have w508 : ¬ Wd tB tN 13 (h 1 2) := by rw [show h 1 2 = h 1 2 from rfl]; exact (Is.no c34 (by first | decide | omega))
            obtain ⟨w509, e510⟩ := Tk.no c48 (by first | decide | omega)
            have w511 : ¬ Wd tB tN 17 (h 1 2) := by rw [show h 1 2 = h 1 2 from rfl]; exact w509
            obtain ⟨w512, e513⟩ := Tk.yes c66 (by first | decide | omega)
            have q514 : h60 61 1 = h42 61 1 := f62 61 1 (by decide +kernel)
            have q515 : h42 61 1 = h 61 1 := f44 61 1 (by decide +kernel)
            have q516 : h60 (h 61 1) 7 = h42 (h 61 1) 7 := jK 0 f62 (rg_T0_7_0_1 t421) (by first | decide | omega) (by first | decide | omega) (by decide)
            have q517 : h42 (h 61 1) 7 = h (h 61 1) 7 := jK 0 f44 (rg_T0_7_0_1 t421) (by first | decide | omega) (by first | decide | omega) (by decide)
            have k518 : v410 = 2147483648 → diesF tB tN (rv h 0) (h60 1 2) (h414 1 2) := fun zz => by rw [show rv h 0 = rv h60 0 by first | decide | omega]; exact (c419 (by first | decide | omega))
            refine x_retI (np := 234) (x := 0) (by decide +kernel) l411 (Or.inr ⟨by decide +kernel, by first | decide | omega, by first | decide | omega⟩) ⟨_, rfl, l411, ?_⟩
            exact ⟨j415, f420, (by first | decide | omega), (by first | decide | omega), (by first | decide | omega), (l9_dies w494 (show h42 1 2 = h 1 2 by first | decide | omega) e495 rfl k501 (by first | decide | omega) (by first | decide | omega) (fun z => ⟨rfl, by first | decide | omega, by first | decide | omega, by first | decide | omega, by first | decide | omega⟩)), m504, (fun zz => lF_dies w512 (show h42 1 2 = h 1 2 by first | decide | omega) e513 rfl (k518 zz))⟩
          have q53 : ¬ (v39 = 2147483648) := q53
          have b519 := c46 (by first | decide | omega)
          refine x_aload (np := 213) (x := 0) (by decide +kernel) rfl (x_nc_le (by decide)) ?_
          have m523 := Tp.fr hT f44 (by decide) (by decide)
          refine x_cI (t := 6) (mj := 95) (n := 1) (rc := 10) (ml := 2) (nr := 0) (np := 216) (as := [x_r 61]) (rest := []) (lo1 := [x_r 61, 147573952589676412928]) (by decide +kernel) (by decide) (by decide +kernel) (x_rb_of (by decide +kernel)) rfl rfl (x_wr (by decide) x_wn) x_wn (by decide) rfl (c95_61 j43  m523) (fun v520 h524 l521 q522 => ?_)
          obtain ⟨j525, f526, b527, c528, c529⟩ := q522
          have f530 := Fr.trans f49 f526 (by decide)
          have t531 : tw (h 61 1) := hJ.2.2.2.2.1
          have b532 := jB (e := 7) 0 hJ (rg_T0_7_0_1 t531) (by first | decide | omega) (by first | decide | omega)
          have e533 : rv h 0 = (h (h 61 1) 7) := (congrArg (fun z => svq h z 0) rfl).trans rfl
          have q534 : h524 61 1 = h42 61 1 := f526 61 1 (by decide +kernel)
          have q535 : h42 61 1 = h 61 1 := f44 61 1 (by decide +kernel)
          have q536 : h524 (h 61 1) 7 = h42 (h 61 1) 7 := jK 0 f526 (rg_T0_7_0_1 t531) (by first | decide | omega) (by first | decide | omega) (by decide)
          have q537 : h42 (h 61 1) 7 = h (h 61 1) 7 := jK 0 f44 (rg_T0_7_0_1 t531) (by first | decide | omega) (by first | decide | omega) (by decide)
          have e538 : rv h524 0 = (h (h 61 1) 7) := (congrArg (fun z => svq h524 z 0) (q534.trans q535)).trans (q536.trans q537)
          have e539 : rv h 1 = (h (h 61 1) 8) := (congrArg (fun z => svq h z 1) rfl).trans rfl
          have q540 : h524 61 1 = h42 61 1 := f526 61 1 (by decide +kernel)
          have q541 : h42 61 1 = h 61 1 := f44 61 1 (by decide +kernel)
          have q542 : h524 (h 61 1) 8 = h42 (h 61 1) 8 := jK 0 f526 (rg_T0_8_0_1 t531) (by first | decide | omega) (by first | decide | omega) (by decide)
          have q543 : h42 (h 61 1) 8 = h (h 61 1) 8 := jK 0 f44 (rg_T0_8_0_1 t531) (by first | decide | omega) (by first | decide | omega) (by decide)
          have e544 : rv h524 1 = (h (h 61 1) 8) := (congrArg (fun z => svq h524 z 1) (q540.trans q541)).trans (q542.trans q543)
          have q545 : h524 61 1 = h42 61 1 := f526 61 1 (by decide +kernel)
          have q546 : h42 61 1 = h 61 1 := f44 61 1 (by decide +kernel)
          have q547 : h524 (h 61 1) 7 = h42 (h 61 1) 7 := jK 0 f526 (rg_T0_7_0_1 t531) (by first | decide | omega) (by first | decide | omega) (by decide)
          have q548 : h42 (h 61 1) 7 = h (h 61 1) 7 := jK 0 f44 (rg_T0_7_0_1 t531) (by first | decide | omega) (by first | decide | omega) (by decide)
          have q549 : h524 61 1 = h42 61 1 := f526 61 1 (by decide +kernel)
          have q550 : h42 61 1 = h 61 1 := f44 61 1 (by decide +kernel)
          have q551 : h524 (h 61 1) 8 = h42 (h 61 1) 8 := jK 0 f526 (rg_T0_8_0_1 t531) (by first | decide | omega) (by first | decide | omega) (by decide)
          have q552 : h42 (h 61 1) 8 = h (h 61 1) 8 := jK 0 f44 (rg_T0_8_0_1 t531) (by first | decide | omega) (by first | decide | omega) (by decide)
          have b553 := jB (e := 2) 0 hJ (rg_T1_2_0_1 t531) (by first | decide | omega) (by first | decide | omega)
          have e554 : rv h 2 = (h ((h 61 1) + 1) 2) := (congrArg (fun z => svq h z 2) rfl).trans rfl
          have q555 : h524 61 1 = h42 61 1 := f526 61 1 (by decide +kernel)
          have q556 : h42 61 1 = h 61 1 := f44 61 1 (by decide +kernel)
          have q557 : h524 ((h 61 1) + 1) 2 = h42 ((h 61 1) + 1) 2 := jK 0 f526 (rg_T1_2_0_1 t531) (by first | decide | omega) (by first | decide | omega) (by decide)
          have q558 : h42 ((h 61 1) + 1) 2 = h ((h 61 1) + 1) 2 := jK 0 f44 (rg_T1_2_0_1 t531) (by first | decide | omega) (by first | decide | omega) (by decide)
          have e559 : rv h524 2 = (h ((h 61 1) + 1) 2) := (congrArg (fun z => svq h524 z 2) (q555.trans q556)).trans (q557.trans q558)
          have b560 := jB (e := 2) 0 hJ (rg_T3_2_0_1 t531) (by first | decide | omega) (by first | decide | omega)
          have e561 : rv h 3 = (h ((h 61 1) + 3) 2) := (congrArg (fun z => svq h z 3) rfl).trans rfl
          have q562 : h524 61 1 = h42 61 1 := f526 61 1 (by decide +kernel)
          have q563 : h42 61 1 = h 61 1 := f44 61 1 (by decide +kernel)
          have q564 : h524 ((h 61 1) + 3) 2 = h42 ((h 61 1) + 3) 2 := jK 0 f526 (rg_T3_2_0_1 t531) (by first | decide | omega) (by first | decide | omega) (by decide)
          have q565 : h42 ((h 61 1) + 3) 2 = h ((h 61 1) + 3) 2 := jK 0 f44 (rg_T3_2_0_1 t531) (by first | decide | omega) (by first | decide | omega) (by decide)
          have e566 : rv h524 3 = (h ((h 61 1) + 3) 2) := (congrArg (fun z => svq h524 z 3) (q562.trans q563)).trans (q564.trans q565)
          have b567 := jB (e := 2) 0 hJ (rg_T5_2_0_1 t531) (by first | decide | omega) (by first | decide | omega)
          have e568 : rv h 4 = (h ((h 61 1) + 5) 2) := (congrArg (fun z => svq h z 4) rfl).trans rfl
          have q569 : h524 61 1 = h42 61 1 := f526 61 1 (by decide +kernel)
          have q570 : h42 61 1 = h 61 1 := f44 61 1 (by decide +kernel)
          have q571 : h524 ((h 61 1) + 5) 2 = h42 ((h 61 1) + 5) 2 := jK 0 f526 (rg_T5_2_0_1 t531) (by first | decide | omega) (by first | decide | omega) (by decide)
          have q572 : h42 ((h 61 1) + 5) 2 = h ((h 61 1) + 5) 2 := jK 0 f44 (rg_T5_2_0_1 t531) (by first | decide | omega) (by first | decide | omega) (by decide)
          have e573 : rv h524 4 = (h ((h 61 1) + 5) 2) := (congrArg (fun z => svq h524 z 4) (q569.trans q570)).trans (q571.trans q572)
          have b574 := jB (e := 2) 0 hJ (rg_T7_2_0_1 t531) (by first | decide | omega) (by first | decide | omega)
          have e575 : rv h 5 = (h ((h 61 1) + 7) 2) := (congrArg (fun z => svq h z 5) rfl).trans rfl
          have q576 : h524 61 1 = h42 61 1 := f526 61 1 (by decide +kernel)
          have q577 : h42 61 1 = h 61 1 := f44 61 1 (by decide +kernel)
          have q578 : h524 ((h 61 1) + 7) 2 = h42 ((h 61 1) + 7) 2 := jK 0 f526 (rg_T7_2_0_1 t531) (by first | decide | omega) (by first | decide | omega) (by decide)
          have q579 : h42 ((h 61 1) + 7) 2 = h ((h 61 1) + 7) 2 := jK 0 f44 (rg_T7_2_0_1 t531) (by first | decide | omega) (by first | decide | omega) (by decide)
          have e580 : rv h524 5 = (h ((h 61 1) + 7) 2) := (congrArg (fun z => svq h524 z 5) (q576.trans q577)).trans (q578.trans q579)
          have w581 : ¬ Wd tB tN 0 (h 1 2) := by rw [show h 1 2 = h 1 2 from rfl]; exact (Is.no c6 (by first | decide | omega))
          have w582 : ¬ Wd tB tN 6 (h 1 2) := by rw [show h 1 2 = h 1 2 from rfl]; exact (Is.no c16 (by first | decide | omega))
          have w583 : ¬ Wd tB tN 8 (h 1 2) := by rw [show h 1 2 = h 1 2 from rfl]; exact (Is.no c25 (by first | decide | omega))
          have w584 : ¬ Wd tB tN 13 (h 1 2) := by rw [show h 1 2 = h 1 2 from rfl]; exact (Is.no c34 (by first | decide | omega))
          obtain ⟨w585, e586⟩ := Tk.yes c48 (by first | decide | omega)
          have q587 : h42 61 1 = h 61 1 := f44 61 1 (by decide +kernel)
          have q588 : h42 ((h 61 1) + 1) 2 = h ((h 61 1) + 1) 2 := jK 0 f44 (rg_T1_2_0_1 t531) (by first | decide | omega) (by first | decide | omega) (by decide)
          have e589 : rv h42 2 = (h ((h 61 1) + 1) 2) := (congrArg (fun z => svq h42 z 2) q587).trans q588
          have k590 : late9 tB tN (rv h 2) (h42 1 2) (rs v520 (h524 1 2)) := by rw [show rv h 2 = rv h42 2 by first | decide | omega]; exact c528
          have m591 : Ot (h 61 1) h h42 := Ot.fr Ot.refl f44 (by decide)
          have m592 : Ot (h 61 1) h h524 := Ot.fr m591 f526 (by decide)
          have w593 : ¬ Wd tB tN 0 (h 1 2) := by rw [show h 1 2 = h 1 2 from rfl]; exact (Is.no c6 (by first | decide | omega))
          have w594 : ¬ Wd tB tN 6 (h 1 2) := by rw [show h 1 2 = h 1 2 from rfl]; exact (Is.no c16 (by first | decide | omega))
          have w595 : ¬ Wd tB tN 8 (h 1 2) := by rw [show h 1 2 = h 1 2 from rfl]; exact (Is.no c25 (by first | decide | omega))
          have w596 : ¬ Wd tB tN 13 (h 1 2) := by rw [show h 1 2 = h 1 2 from rfl]; exact (Is.no c34 (by first | decide | omega))
          obtain ⟨w597, e598⟩ := Tk.yes c48 (by first | decide | omega)
          have q599 : h42 61 1 = h 61 1 := f44 61 1 (by decide +kernel)
          have q600 : h42 ((h 61 1) + 1) 2 = h ((h 61 1) + 1) 2 := jK 0 f44 (rg_T1_2_0_1 t531) (by first | decide | omega) (by first | decide | omega) (by decide)
          have k601 : v520 = 2147483648 → lateF tB tN (rv h 2) (h42 1 2) (h524 1 2) := fun zz => by rw [show rv h 2 = rv h42 2 by first | decide | omega]; exact (c529 (by first | decide | omega))
          refine x_retI (np := 217) (x := 0) (by decide +kernel) l521 (Or.inr ⟨by decide +kernel, by first | decide | omega, by first | decide | omega⟩) ⟨_, rfl, l521, ?_⟩
          exact ⟨j525, f530, (by first | decide | omega), (by first | decide | omega), (by first | decide | omega), (l9_late w585 rfl e586 rfl k590 (by first | decide | omega) (by first | decide | omega) (fun z => ⟨rfl, by first | decide | omega, by first | decide | omega, by first | decide | omega, by first | decide | omega⟩)), m592, (fun zz => lF_late w597 rfl e598 rfl (k601 zz))⟩
        have q37 : ¬ (v30 = 2147483648) := q37
        have b602 := c33 (by first | decide | omega)
        refine x_aload (np := 163) (x := 0) (by decide +kernel) rfl (x_nc_le (by decide)) ?_
        have t603 : tw (h 61 1) := hJ.2.2.2.2.1
        refine x_getR (np := 166) (x := 577) (f := 1) (q := (h 61 1)) (by decide +kernel) (by decide) (by decide +kernel) rfl ?_
        have q604 : h (h 61 1) 3 = ((h 61 1) + 7) := tf_0_3 hJ t603
        refine x_getR (np := 169) (x := 515) (f := 3) (q := ((h 61 1) + 7)) (by decide +kernel) (by decide) (tg_0_515_3_1 t603) q604 ?_
        refine x_nI (t := 6) (mj := 66) (n := 1) (rc := 7) (ml := 1) (nr := 0) (np := 172) (as := [x_r ((h 61 1) + 7)]) (rest := []) (lo1 := [x_r ((h 61 1) + 7)]) (by decide +kernel) (by decide) (by decide +kernel) (x_rb_of (tr_7_7 t603)) rfl rfl (x_wr (tn_7 t603) x_wn) x_wn (by decide) rfl ?_
        refine x_aload (np := 1) (x := 0) (by decide +kernel) rfl (x_nc_le (tn_7 t603)) ?_
        have b605 := jB (e := 2) 0 hJ (rg_T7_2_0_1 t603) (by first | decide | omega) (by first | decide | omega)
        refine x_getC (np := 4) (x := 386) (f := 2) (q := (h ((h 61 1) + 7) 2)) (by decide +kernel) (by decide) (tg_7_386_2_0 t603) rfl (fun l606 => ?_)
        refine x_const (np := 5) (x := 9223372043297226753) (a := 2147483649) (by decide +kernel) (by decide) (by decide) ?_
        refine x_iadd (np := 6) (x := 0) (v := (1 + (h ((h 61 1) + 7) 2))) (by decide +kernel) l606 (by decide) (by first | decide | omega) (by first | decide | omega) ?_
        refine x_aload (np := 7) (x := 0) (by decide +kernel) rfl (x_nc_le (tn_7 t603)) ?_
        have b607 := jB (e := 0) 0 hJ (rg_T7_0_0_1 t603) (by first | decide | omega) (by first | decide | omega)
        have q608 : (h ((h 61 1) + 7) 0) = 2147483652 := by first | decide | omega
        refine x_getC (np := 10) (x := 384) (f := 0) (q := 2147483652) (by decide +kernel) (by decide) (tg_7_384_0_0 t603) q608 (fun l609 => ?_)
        obtain ⟨u610, q611⟩ : ∃ z, (h ((h 61 1) + 7) 2) = 2147483648 + z := ⟨(h ((h 61 1) + 7) 2) - 2147483648, by first | decide | omega⟩
        refine x_imul (np := 11) (x := 0) (i := (1 + u610)) (j := 4) (v := (2147483652 + 4 * u610)) (by decide +kernel) (by first | decide | omega) (by first | decide | omega) (by first | decide | omega) (by first | decide | omega) (by first | decide | omega) (by decide) ?_
        refine x_aload (np := 12) (x := 0) (by decide +kernel) rfl (x_nc_le (tn_7 t603)) ?_
        have q613 : h ((h 61 1) + 7) 1 = ((h 61 1) + 8) := tf_7_1 hJ t603
        refine x_getR (np := 15) (x := 385) (f := 1) (q := ((h 61 1) + 8)) (by decide +kernel) (by decide) (tg_7_385_1_1 t603) q613 ?_
        refine x_alen (np := 16) (x := 0) (n := 40) (by decide +kernel) (tn_8 t603) (tl_8 t603).1 (tl_8 t603).2 (by decide) ?_
        show X _ _ _ _ _ _ _ _ [iv_c 2147483688, iv_c (2147483652 + 4 * u610)] _
        refine x_icmp (k := 5) (tg := 23) (np := 19) (by decide +kernel) (by decide) (by first | decide | omega) (by decide) (fun q614 => ?_) (fun q615 => ?_)
        · have q614 : (2147483652 + 4 * u610) ≤ 2147483688 := q614
          refine x_const (np := 24) (x := 9223372039002259456) (a := 2147483648) (by decide +kernel) (by decide) (by decide) ?_
          refine x_retI (np := 25) (x := 0) (by decide +kernel) (by decide) (Or.inr ⟨by decide +kernel, by first | decide | omega, by first | decide | omega⟩) ⟨_, rfl, (by decide), ?_⟩
          refine x_ifz (k := 1) (tg := 198) (np := 175) (by decide +kernel) (by decide) (by decide) (fun q616 => ?_) (fun q617 => ?_)
          · have q616 : 2147483648 ≠ 2147483648 := q616
            exfalso; omega
          have q617 : ¬ (2147483648 ≠ 2147483648) := q617
          refine x_aload (np := 176) (x := 0) (by decide +kernel) rfl (x_nc_le (by decide)) ?_
          have q618 : h 61 0 = 1 := by have z := jB (e := 0) 0 hJ rg_61_0_0_1 (by decide) (by decide); omega
          refine x_getR (np := 179) (x := 576) (f := 0) (q := 1) (by decide +kernel) (by decide) (by decide +kernel) q618 ?_
          refine x_ldcB (i := 13) (idx := 74) (tx := "seen") (by rw [tb_y93]; exact List.mem_of_getElem? (i := 13) rfl) (by decide) (by rw [tb_b93]; decide +kernel) ?_
          refine x_cI (t := 6) (mj := 78) (n := 2) (rc := 8) (ml := 2) (nr := 0) (np := 184) (as := [x_r 1, x_b (13 + 1)]) (rest := []) (lo1 := [x_r 1, x_b (13 + 1)]) (by decide +kernel) (by decide) (by decide +kernel) (x_rb_of (by decide +kernel)) rfl rfl (x_wr (by decide) (x_wB (by decide) x_wn)) x_wn (by decide) rfl (c78_1_S0 hJ  (by decide) hT) (fun v619 h622 l620 q621 => ?_)
          obtain ⟨j623, f624, b625, c626, c627, c628⟩ := q621
          have f629 := Fr.trans hF f624 (by decide)
          have b630 := jB (e := 2) 0 j623 rg_1_2_0_1 (by first | decide | omega) (by first | decide | omega)
          have b631 : iv_tl 13 = 4 := by decide
          refine x_ifz (k := 0) (tg := 198) (np := 187) (by decide +kernel) (by decide) l620 (fun q632 => ?_) (fun q633 => ?_)
          · have q632 : v619 = 2147483648 := q632
            have b634 := c627 (by first | decide | omega)
            refine x_const (np := 199) (x := 9223372039002259456) (a := 2147483648) (by decide +kernel) (by decide) (by decide) ?_
            have b635 := jB (e := 7) 0 hJ (rg_T0_7_0_1 t603) (by first | decide | omega) (by first | decide | omega)
            have e636 : rv h 0 = (h (h 61 1) 7) := (congrArg (fun z => svq h z 0) rfl).trans rfl
            have q637 : h622 61 1 = h 61 1 := f624 61 1 (by decide +kernel)
            have q638 : h622 (h 61 1) 7 = h (h 61 1) 7 := jK 0 f624 (rg_T0_7_0_1 t603) (by first | decide | omega) (by first | decide | omega) (by decide)
            have e639 : rv h622 0 = (h (h 61 1) 7) := (congrArg (fun z => svq h622 z 0) q637).trans q638
            have e640 : rv h 1 = (h (h 61 1) 8) := (congrArg (fun z => svq h z 1) rfl).trans rfl
            have q641 : h622 61 1 = h 61 1 := f624 61 1 (by decide +kernel)
            have q642 : h622 (h 61 1) 8 = h (h 61 1) 8 := jK 0 f624 (rg_T0_8_0_1 t603) (by first | decide | omega) (by first | decide | omega) (by decide)
            have e643 : rv h622 1 = (h (h 61 1) 8) := (congrArg (fun z => svq h622 z 1) q641).trans q642
            have q644 : h622 61 1 = h 61 1 := f624 61 1 (by decide +kernel)
            have q645 : h622 (h 61 1) 7 = h (h 61 1) 7 := jK 0 f624 (rg_T0_7_0_1 t603) (by first | decide | omega) (by first | decide | omega) (by decide)
            have q646 : h622 61 1 = h 61 1 := f624 61 1 (by decide +kernel)
            have q647 : h622 (h 61 1) 8 = h (h 61 1) 8 := jK 0 f624 (rg_T0_8_0_1 t603) (by first | decide | omega) (by first | decide | omega) (by decide)
            have b648 := jB (e := 2) 0 hJ (rg_T1_2_0_1 t603) (by first | decide | omega) (by first | decide | omega)
            have e649 : rv h 2 = (h ((h 61 1) + 1) 2) := (congrArg (fun z => svq h z 2) rfl).trans rfl
            have q650 : h622 61 1 = h 61 1 := f624 61 1 (by decide +kernel)
            have q651 : h622 ((h 61 1) + 1) 2 = h ((h 61 1) + 1) 2 := jK 0 f624 (rg_T1_2_0_1 t603) (by first | decide | omega) (by first | decide | omega) (by decide)
            have e652 : rv h622 2 = (h ((h 61 1) + 1) 2) := (congrArg (fun z => svq h622 z 2) q650).trans q651
            have b653 := jB (e := 2) 0 hJ (rg_T3_2_0_1 t603) (by first | decide | omega) (by first | decide | omega)
            have e654 : rv h 3 = (h ((h 61 1) + 3) 2) := (congrArg (fun z => svq h z 3) rfl).trans rfl
            have q655 : h622 61 1 = h 61 1 := f624 61 1 (by decide +kernel)
            have q656 : h622 ((h 61 1) + 3) 2 = h ((h 61 1) + 3) 2 := jK 0 f624 (rg_T3_2_0_1 t603) (by first | decide | omega) (by first | decide | omega) (by decide)
            have e657 : rv h622 3 = (h ((h 61 1) + 3) 2) := (congrArg (fun z => svq h622 z 3) q655).trans q656
            have b658 := jB (e := 2) 0 hJ (rg_T5_2_0_1 t603) (by first | decide | omega) (by first | decide | omega)
            have e659 : rv h 4 = (h ((h 61 1) + 5) 2) := (congrArg (fun z => svq h z 4) rfl).trans rfl
            have q660 : h622 61 1 = h 61 1 := f624 61 1 (by decide +kernel)
            have q661 : h622 ((h 61 1) + 5) 2 = h ((h 61 1) + 5) 2 := jK 0 f624 (rg_T5_2_0_1 t603) (by first | decide | omega) (by first | decide | omega) (by decide)
            have e662 : rv h622 4 = (h ((h 61 1) + 5) 2) := (congrArg (fun z => svq h622 z 4) q660).trans q661
            have e663 : rv h 5 = (h ((h 61 1) + 7) 2) := (congrArg (fun z => svq h z 5) rfl).trans rfl
            have q664 : h622 61 1 = h 61 1 := f624 61 1 (by decide +kernel)
            have q665 : h622 ((h 61 1) + 7) 2 = h ((h 61 1) + 7) 2 := jK 0 f624 (rg_T7_2_0_1 t603) (by first | decide | omega) (by first | decide | omega) (by decide)
            have e666 : rv h622 5 = (h ((h 61 1) + 7) 2) := (congrArg (fun z => svq h622 z 5) q664).trans q665
            have w667 : ¬ Wd tB tN 0 (h 1 2) := by rw [show h 1 2 = h 1 2 from rfl]; exact (Is.no c6 (by first | decide | omega))
            have w668 : ¬ Wd tB tN 6 (h 1 2) := by rw [show h 1 2 = h 1 2 from rfl]; exact (Is.no c16 (by first | decide | omega))
            have w669 : ¬ Wd tB tN 8 (h 1 2) := by rw [show h 1 2 = h 1 2 from rfl]; exact (Is.no c25 (by first | decide | omega))
            obtain ⟨w670, e671⟩ := Tk.no c628 (by first | decide | omega)
            have m672 : Ot (h 61 1) h h622 := Ot.fr Ot.refl f624 (by decide)
            have w673 : ¬ Wd tB tN 0 (h 1 2) := by rw [show h 1 2 = h 1 2 from rfl]; exact (Is.no c6 (by first | decide | omega))
            have w674 : ¬ Wd tB tN 6 (h 1 2) := by rw [show h 1 2 = h 1 2 from rfl]; exact (Is.no c16 (by first | decide | omega))
            have w675 : ¬ Wd tB tN 8 (h 1 2) := by rw [show h 1 2 = h 1 2 from rfl]; exact (Is.no c25 (by first | decide | omega))
            obtain ⟨w676, e677⟩ := Tk.no c628 (by first | decide | omega)
            refine x_retI (np := 200) (x := 0) (by decide +kernel) (by decide) (Or.inr ⟨by decide +kernel, by first | decide | omega, by first | decide | omega⟩) ⟨_, rfl, (by decide), ?_⟩
            exact ⟨j623, f629, (by first | decide | omega), (by first | decide | omega), (by first | decide | omega), (absurd (Is.yes c34 (by first | decide | omega)) w670), m672, (fun _ => absurd (Is.yes c34 (by first | decide | omega)) w676)⟩
          have q633 : ¬ (v619 = 2147483648) := q633
          have b678 := c626 (by first | decide | omega)
          refine x_aload (np := 188) (x := 0) (by decide +kernel) rfl (x_nc_le (by decide)) ?_
          have q679 : h622 61 1 = h 61 1 := f624 61 1 (by decide +kernel)
          have q680 : h622 ((h 61 1) + 7) 2 = h ((h 61 1) + 7) 2 := jK 0 f624 (rg_T7_2_0_1 t603) (by first | decide | omega) (by first | decide | omega) (by decide)
          have e681 : rv h622 5 = (h ((h 61 1) + 7) 2) := (congrArg (fun z => svq h622 z 5) q679).trans q680
          have m685 := Tp.fr hT f624 (by decide) (by decide)
          refine x_cI (t := 6) (mj := 100) (n := 1) (rc := 10) (ml := 2) (nr := 0) (np := 191) (as := [x_r 61]) (rest := []) (lo1 := [x_r 61, 147573952589676412928]) (by decide +kernel) (by decide) (by decide +kernel) (x_rb_of (by decide +kernel)) rfl rfl (x_wr (by decide) x_wn) x_wn (by decide) rfl (c100_61 j623  (by first | decide | omega) m685) (fun v682 h686 l683 q684 => ?_)
          obtain ⟨j687, f688, b689, c690, c691, c692, c693, c694, c695, c696, c697, c698⟩ := q684
          have f699 := Fr.trans f629 f688 (by decide)
          have q700 : h622 61 1 = h 61 1 := f624 61 1 (by decide +kernel)
          have q701 : h622 (h 61 1) 7 = h (h 61 1) 7 := jK 0 f624 (rg_T0_7_0_1 t603) (by first | decide | omega) (by first | decide | omega) (by decide)
          have b702 := jB (e := 7) 0 hJ (rg_T0_7_0_1 t603) (by first | decide | omega) (by first | decide | omega)
          have e703 : rv h622 0 = (h (h 61 1) 7) := (congrArg (fun z => svq h622 z 0) q700).trans q701
          have q704 : h686 61 1 = h622 61 1 := f688 61 1 (by decide +kernel)
          have q705 : h622 61 1 = h 61 1 := f624 61 1 (by decide +kernel)
          have b706 := jB (e := 7) 0 j687 (rg_T0_7_0_1 t603) (by first | decide | omega) (by first | decide | omega)
          have e707 : rv h686 0 = (h686 (h 61 1) 7) := (congrArg (fun z => svq h686 z 0) (q704.trans q705)).trans rfl
          have q708 : h622 61 1 = h 61 1 := f624 61 1 (by decide +kernel)
          have q709 : h622 (h 61 1) 8 = h (h 61 1) 8 := jK 0 f624 (rg_T0_8_0_1 t603) (by first | decide | omega) (by first | decide | omega) (by decide)
          have e710 : rv h622 1 = (h (h 61 1) 8) := (congrArg (fun z => svq h622 z 1) q708).trans q709
          have q711 : h686 61 1 = h622 61 1 := f688 61 1 (by decide +kernel)
          have q712 : h622 61 1 = h 61 1 := f624 61 1 (by decide +kernel)
          have e713 : rv h686 1 = (h686 (h 61 1) 8) := (congrArg (fun z => svq h686 z 1) (q711.trans q712)).trans rfl
          have q714 : h622 61 1 = h 61 1 := f624 61 1 (by decide +kernel)
          have q715 : h622 ((h 61 1) + 1) 2 = h ((h 61 1) + 1) 2 := jK 0 f624 (rg_T1_2_0_1 t603) (by first | decide | omega) (by first | decide | omega) (by decide)
          have b716 := jB (e := 2) 0 hJ (rg_T1_2_0_1 t603) (by first | decide | omega) (by first | decide | omega)
          have e717 : rv h622 2 = (h ((h 61 1) + 1) 2) := (congrArg (fun z => svq h622 z 2) q714).trans q715
          have q718 : h686 61 1 = h622 61 1 := f688 61 1 (by decide +kernel)
          have q719 : h622 61 1 = h 61 1 := f624 61 1 (by decide +kernel)
          have b720 := jB (e := 2) 0 j687 (rg_T1_2_0_1 t603) (by first | decide | omega) (by first | decide | omega)
          have e721 : rv h686 2 = (h686 ((h 61 1) + 1) 2) := (congrArg (fun z => svq h686 z 2) (q718.trans q719)).trans rfl
          have q722 : h622 61 1 = h 61 1 := f624 61 1 (by decide +kernel)
          have q723 : h622 ((h 61 1) + 3) 2 = h ((h 61 1) + 3) 2 := jK 0 f624 (rg_T3_2_0_1 t603) (by first | decide | omega) (by first | decide | omega) (by decide)
          have b724 := jB (e := 2) 0 hJ (rg_T3_2_0_1 t603) (by first | decide | omega) (by first | decide | omega)
          have e725 : rv h622 3 = (h ((h 61 1) + 3) 2) := (congrArg (fun z => svq h622 z 3) q722).trans q723
          have q726 : h686 61 1 = h622 61 1 := f688 61 1 (by decide +kernel)
          have q727 : h622 61 1 = h 61 1 := f624 61 1 (by decide +kernel)
          have b728 := jB (e := 2) 0 j687 (rg_T3_2_0_1 t603) (by first | decide | omega) (by first | decide | omega)
          have e729 : rv h686 3 = (h686 ((h 61 1) + 3) 2) := (congrArg (fun z => svq h686 z 3) (q726.trans q727)).trans rfl
          have q730 : h622 61 1 = h 61 1 := f624 61 1 (by decide +kernel)
          have q731 : h622 ((h 61 1) + 5) 2 = h ((h 61 1) + 5) 2 := jK 0 f624 (rg_T5_2_0_1 t603) (by first | decide | omega) (by first | decide | omega) (by decide)
          have b732 := jB (e := 2) 0 hJ (rg_T5_2_0_1 t603) (by first | decide | omega) (by first | decide | omega)
          have e733 : rv h622 4 = (h ((h 61 1) + 5) 2) := (congrArg (fun z => svq h622 z 4) q730).trans q731
          have q734 : h686 61 1 = h622 61 1 := f688 61 1 (by decide +kernel)
          have q735 : h622 61 1 = h 61 1 := f624 61 1 (by decide +kernel)
          have b736 := jB (e := 2) 0 j687 (rg_T5_2_0_1 t603) (by first | decide | omega) (by first | decide | omega)
          have e737 : rv h686 4 = (h686 ((h 61 1) + 5) 2) := (congrArg (fun z => svq h686 z 4) (q734.trans q735)).trans rfl
          have q738 : h622 61 1 = h 61 1 := f624 61 1 (by decide +kernel)
          have q739 : h622 ((h 61 1) + 7) 2 = h ((h 61 1) + 7) 2 := jK 0 f624 (rg_T7_2_0_1 t603) (by first | decide | omega) (by first | decide | omega) (by decide)
          have q740 : h686 61 1 = h622 61 1 := f688 61 1 (by decide +kernel)
          have q741 : h622 61 1 = h 61 1 := f624 61 1 (by decide +kernel)
          have b742 := jB (e := 2) 0 j687 (rg_T7_2_0_1 t603) (by first | decide | omega) (by first | decide | omega)
          have e743 : rv h686 5 = (h686 ((h 61 1) + 7) 2) := (congrArg (fun z => svq h686 z 5) (q740.trans q741)).trans rfl
          have q744 : h622 61 1 = h 61 1 := f624 61 1 (by decide +kernel)
          refine x_ifz (k := 0) (tg := 198) (np := 194) (by decide +kernel) (by decide) l683 (fun q745 => ?_) (fun q746 => ?_)
          · have q745 : v682 = 2147483648 := q745
            refine x_const (np := 199) (x := 9223372039002259456) (a := 2147483648) (by decide +kernel) (by decide) (by decide) ?_
            have e747 : rv h 0 = (h (h 61 1) 7) := (congrArg (fun z => svq h z 0) rfl).trans rfl
            have q748 : h686 61 1 = h622 61 1 := f688 61 1 (by decide +kernel)
            have q749 : h622 61 1 = h 61 1 := f624 61 1 (by decide +kernel)
            have e750 : rv h 1 = (h (h 61 1) 8) := (congrArg (fun z => svq h z 1) rfl).trans rfl
            have q751 : h686 61 1 = h622 61 1 := f688 61 1 (by decide +kernel)
            have q752 : h622 61 1 = h 61 1 := f624 61 1 (by decide +kernel)
            have q753 : h686 61 1 = h622 61 1 := f688 61 1 (by decide +kernel)
            have q754 : h622 61 1 = h 61 1 := f624 61 1 (by decide +kernel)
            have q755 : h686 61 1 = h622 61 1 := f688 61 1 (by decide +kernel)
            have q756 : h622 61 1 = h 61 1 := f624 61 1 (by decide +kernel)
            have e757 : rv h 2 = (h ((h 61 1) + 1) 2) := (congrArg (fun z => svq h z 2) rfl).trans rfl
            have q758 : h686 61 1 = h622 61 1 := f688 61 1 (by decide +kernel)
            have q759 : h622 61 1 = h 61 1 := f624 61 1 (by decide +kernel)
            have e760 : rv h 3 = (h ((h 61 1) + 3) 2) := (congrArg (fun z => svq h z 3) rfl).trans rfl
            have q761 : h686 61 1 = h622 61 1 := f688 61 1 (by decide +kernel)
            have q762 : h622 61 1 = h 61 1 := f624 61 1 (by decide +kernel)
            have e763 : rv h 4 = (h ((h 61 1) + 5) 2) := (congrArg (fun z => svq h z 4) rfl).trans rfl
            have q764 : h686 61 1 = h622 61 1 := f688 61 1 (by decide +kernel)
            have q765 : h622 61 1 = h 61 1 := f624 61 1 (by decide +kernel)
            have e766 : rv h 5 = (h ((h 61 1) + 7) 2) := (congrArg (fun z => svq h z 5) rfl).trans rfl
            have q767 : h686 61 1 = h622 61 1 := f688 61 1 (by decide +kernel)
            have q768 : h622 61 1 = h 61 1 := f624 61 1 (by decide +kernel)
            have w769 : ¬ Wd tB tN 0 (h 1 2) := by rw [show h 1 2 = h 1 2 from rfl]; exact (Is.no c6 (by first | decide | omega))
            have w770 : ¬ Wd tB tN 6 (h 1 2) := by rw [show h 1 2 = h 1 2 from rfl]; exact (Is.no c16 (by first | decide | omega))
            have w771 : ¬ Wd tB tN 8 (h 1 2) := by rw [show h 1 2 = h 1 2 from rfl]; exact (Is.no c25 (by first | decide | omega))
            obtain ⟨w772, e773⟩ := Tk.yes c628 (by first | decide | omega)
            have q774 : h622 61 1 = h 61 1 := f624 61 1 (by decide +kernel)
            have q775 : h622 (h 61 1) 7 = h (h 61 1) 7 := jK 0 f624 (rg_T0_7_0_1 t603) (by first | decide | omega) (by first | decide | omega) (by decide)
            have k776 : seen9 tB tN (rv h 0) (h622 1 2) (rs v682 (h686 1 2)) := by rw [show rv h 0 = rv h622 0 by first | decide | omega]; exact c696
            have m777 : Ot (h 61 1) h h622 := Ot.fr Ot.refl f624 (by decide)
            have m778 : Ot (h 61 1) h h686 := Ot.trans m777 (Ot.cast c697 q744)
            have w779 : ¬ Wd tB tN 0 (h 1 2) := by rw [show h 1 2 = h 1 2 from rfl]; exact (Is.no c6 (by first | decide | omega))
            have w780 : ¬ Wd tB tN 6 (h 1 2) := by rw [show h 1 2 = h 1 2 from rfl]; exact (Is.no c16 (by first | decide | omega))
            have w781 : ¬ Wd tB tN 8 (h 1 2) := by rw [show h 1 2 = h 1 2 from rfl]; exact (Is.no c25 (by first | decide | omega))
            obtain ⟨w782, e783⟩ := Tk.yes c628 (by first | decide | omega)
            have q784 : h622 61 1 = h 61 1 := f624 61 1 (by decide +kernel)
            have q785 : h622 (h 61 1) 7 = h (h 61 1) 7 := jK 0 f624 (rg_T0_7_0_1 t603) (by first | decide | omega) (by first | decide | omega) (by decide)
            have k786 : seenF tB tN (rv h 0) (h622 1 2) (h686 1 2) := by rw [show rv h 0 = rv h622 0 by first | decide | omega]; exact (c698 (by first | decide | omega))
            refine x_retI (np := 200) (x := 0) (by decide +kernel) (by decide) (Or.inr ⟨by decide +kernel, by first | decide | omega, by first | decide | omega⟩) ⟨_, rfl, (by decide), ?_⟩
            exact ⟨j687, f699, (by first | decide | omega), (by first | decide | omega), (by first | decide | omega), (l9_seen w772 rfl (by first | decide | omega) e773 rfl k776 (by first | decide | omega) (by first | decide | omega) (fun z => absurd z (by first | decide | omega))), m778, (fun _ => lF_seen w782 rfl (by first | decide | omega) e783 rfl k786)⟩
          have q746 : ¬ (v682 = 2147483648) := q746
          have b787 := c695 (by first | decide | omega)
          refine x_const (np := 195) (x := 9223372043297226753) (a := 2147483649) (by decide +kernel) (by decide) (by decide) ?_
          refine x_goto (np := 198) (x := 199) (by decide +kernel) ?_
          have e788 : rv h 0 = (h (h 61 1) 7) := (congrArg (fun z => svq h z 0) rfl).trans rfl
          have q789 : h686 61 1 = h622 61 1 := f688 61 1 (by decide +kernel)
          have q790 : h622 61 1 = h 61 1 := f624 61 1 (by decide +kernel)
          have e791 : rv h 1 = (h (h 61 1) 8) := (congrArg (fun z => svq h z 1) rfl).trans rfl
          have q792 : h686 61 1 = h622 61 1 := f688 61 1 (by decide +kernel)
          have q793 : h622 61 1 = h 61 1 := f624 61 1 (by decide +kernel)
          have q794 : h686 61 1 = h622 61 1 := f688 61 1 (by decide +kernel)
          have q795 : h622 61 1 = h 61 1 := f624 61 1 (by decide +kernel)
          have q796 : h686 61 1 = h622 61 1 := f688 61 1 (by decide +kernel)
          have q797 : h622 61 1 = h 61 1 := f624 61 1 (by decide +kernel)
          have e798 : rv h 2 = (h ((h 61 1) + 1) 2) := (congrArg (fun z => svq h z 2) rfl).trans rfl
          have q799 : h686 61 1 = h622 61 1 := f688 61 1 (by decide +kernel)
          have q800 : h622 61 1 = h 61 1 := f624 61 1 (by decide +kernel)
          have e801 : rv h 3 = (h ((h 61 1) + 3) 2) := (congrArg (fun z => svq h z 3) rfl).trans rfl
          have q802 : h686 61 1 = h622 61 1 := f688 61 1 (by decide +kernel)
          have q803 : h622 61 1 = h 61 1 := f624 61 1 (by decide +kernel)
          have e804 : rv h 4 = (h ((h 61 1) + 5) 2) := (congrArg (fun z => svq h z 4) rfl).trans rfl
          have q805 : h686 61 1 = h622 61 1 := f688 61 1 (by decide +kernel)
          have q806 : h622 61 1 = h 61 1 := f624 61 1 (by decide +kernel)
          have e807 : rv h 5 = (h ((h 61 1) + 7) 2) := (congrArg (fun z => svq h z 5) rfl).trans rfl
          have q808 : h686 61 1 = h622 61 1 := f688 61 1 (by decide +kernel)
          have q809 : h622 61 1 = h 61 1 := f624 61 1 (by decide +kernel)
          have w810 : ¬ Wd tB tN 0 (h 1 2) := by rw [show h 1 2 = h 1 2 from rfl]; exact (Is.no c6 (by first | decide | omega))
          have w811 : ¬ Wd tB tN 6 (h 1 2) := by rw [show h 1 2 = h 1 2 from rfl]; exact (Is.no c16 (by first | decide | omega))
          have w812 : ¬ Wd tB tN 8 (h 1 2) := by rw [show h 1 2 = h 1 2 from rfl]; exact (Is.no c25 (by first | decide | omega))
          obtain ⟨w813, e814⟩ := Tk.yes c628 (by first | decide | omega)
          have q815 : h622 61 1 = h 61 1 := f624 61 1 (by decide +kernel)
          have q816 : h622 (h 61 1) 7 = h (h 61 1) 7 := jK 0 f624 (rg_T0_7_0_1 t603) (by first | decide | omega) (by first | decide | omega) (by decide)
          have k817 : seen9 tB tN (rv h 0) (h622 1 2) (rs v682 (h686 1 2)) := by rw [show rv h 0 = rv h622 0 by first | decide | omega]; exact c696
          have m818 : Ot (h 61 1) h h622 := Ot.fr Ot.refl f624 (by decide)
          have m819 : Ot (h 61 1) h h686 := Ot.trans m818 (Ot.cast c697 q744)
          refine x_retI (np := 200) (x := 0) (by decide +kernel) (by decide) (Or.inr ⟨by decide +kernel, by first | decide | omega, by first | decide | omega⟩) ⟨_, rfl, (by decide), ?_⟩
          exact ⟨j687, f699, (by first | decide | omega), (by first | decide | omega), (by first | decide | omega), (l9_seen w813 rfl (by first | decide | omega) e814 rfl k817 (by first | decide | omega) (by first | decide | omega) (fun z => ⟨rfl, by first | decide | omega, by first | decide | omega, by first | decide | omega, by first | decide | omega⟩)), m819, (fun z => absurd z (by first | decide | omega))⟩
        have q615 : ¬ ((2147483652 + 4 * u610) ≤ 2147483688) := q615
        refine x_const (np := 20) (x := 9223372043297226753) (a := 2147483649) (by decide +kernel) (by decide) (by decide) ?_
        refine x_goto (np := 23) (x := 24) (by decide +kernel) ?_
        refine x_retI (np := 25) (x := 0) (by decide +kernel) (by decide) (Or.inr ⟨by decide +kernel, by first | decide | omega, by first | decide | omega⟩) ⟨_, rfl, (by decide), ?_⟩
        refine x_ifz (k := 1) (tg := 198) (np := 175) (by decide +kernel) (by decide) (by decide) (fun q820 => ?_) (fun q821 => ?_)
        · have q820 : 2147483649 ≠ 2147483648 := q820
          refine x_const (np := 199) (x := 9223372039002259456) (a := 2147483648) (by decide +kernel) (by decide) (by decide) ?_
          have b822 := jB (e := 7) 0 hJ (rg_T0_7_0_1 t603) (by first | decide | omega) (by first | decide | omega)
          have e823 : rv h 0 = (h (h 61 1) 7) := (congrArg (fun z => svq h z 0) rfl).trans rfl
          have e824 : rv h 1 = (h (h 61 1) 8) := (congrArg (fun z => svq h z 1) rfl).trans rfl
          have b825 := jB (e := 2) 0 hJ (rg_T1_2_0_1 t603) (by first | decide | omega) (by first | decide | omega)
          have e826 : rv h 2 = (h ((h 61 1) + 1) 2) := (congrArg (fun z => svq h z 2) rfl).trans rfl
          have b827 := jB (e := 2) 0 hJ (rg_T3_2_0_1 t603) (by first | decide | omega) (by first | decide | omega)
          have e828 : rv h 3 = (h ((h 61 1) + 3) 2) := (congrArg (fun z => svq h z 3) rfl).trans rfl
          have b829 := jB (e := 2) 0 hJ (rg_T5_2_0_1 t603) (by first | decide | omega) (by first | decide | omega)
          have e830 : rv h 4 = (h ((h 61 1) + 5) 2) := (congrArg (fun z => svq h z 4) rfl).trans rfl
          have e831 : rv h 5 = (h ((h 61 1) + 7) 2) := (congrArg (fun z => svq h z 5) rfl).trans rfl
          have w832 : ¬ Wd tB tN 0 (h 1 2) := by rw [show h 1 2 = h 1 2 from rfl]; exact (Is.no c6 (by first | decide | omega))
          have w833 : ¬ Wd tB tN 6 (h 1 2) := by rw [show h 1 2 = h 1 2 from rfl]; exact (Is.no c16 (by first | decide | omega))
          have w834 : ¬ Wd tB tN 8 (h 1 2) := by rw [show h 1 2 = h 1 2 from rfl]; exact (Is.no c25 (by first | decide | omega))
          have w835 : ¬ Wd tB tN 0 (h 1 2) := by rw [show h 1 2 = h 1 2 from rfl]; exact (Is.no c6 (by first | decide | omega))
          have w836 : ¬ Wd tB tN 6 (h 1 2) := by rw [show h 1 2 = h 1 2 from rfl]; exact (Is.no c16 (by first | decide | omega))
          have w837 : ¬ Wd tB tN 8 (h 1 2) := by rw [show h 1 2 = h 1 2 from rfl]; exact (Is.no c25 (by first | decide | omega))
          refine x_retI (np := 200) (x := 0) (by decide +kernel) (by decide) (Or.inr ⟨by decide +kernel, by first | decide | omega, by first | decide | omega⟩) ⟨_, rfl, (by decide), ?_⟩
          exact ⟨hJ, hF, (by first | decide | omega), (by first | decide | omega), (by first | decide | omega), (l9_seen0 (Is.yes c34 (by first | decide | omega)) rfl (by first | decide | omega) (by first | decide | omega)), Ot.refl, (fun _ => lF_seen0 (Is.yes c34 (by first | decide | omega)) rfl (by first | decide | omega) rfl)⟩
        have q821 : ¬ (2147483649 ≠ 2147483648) := q821
        exfalso; omega
      have q28 : ¬ (v21 = 2147483648) := q28
      have b838 := c24 (by first | decide | omega)
      refine x_aload (np := 113) (x := 0) (by decide +kernel) rfl (x_nc_le (by decide)) ?_
      have t839 : tw (h 61 1) := hJ.2.2.2.2.1
      refine x_getR (np := 116) (x := 577) (f := 1) (q := (h 61 1)) (by decide +kernel) (by decide) (by decide +kernel) rfl ?_
      have q840 : h (h 61 1) 2 = ((h 61 1) + 5) := tf_0_2 hJ t839
      refine x_getR (np := 119) (x := 514) (f := 2) (q := ((h 61 1) + 5)) (by decide +kernel) (by decide) (tg_0_514_2_1 t839) q840 ?_
      refine x_nI (t := 6) (mj := 66) (n := 1) (rc := 7) (ml := 1) (nr := 0) (np := 122) (as := [x_r ((h 61 1) + 5)]) (rest := []) (lo1 := [x_r ((h 61 1) + 5)]) (by decide +kernel) (by decide) (by decide +kernel) (x_rb_of (tr_5_7 t839)) rfl rfl (x_wr (tn_5 t839) x_wn) x_wn (by decide) rfl ?_
      refine x_aload (np := 1) (x := 0) (by decide +kernel) rfl (x_nc_le (tn_5 t839)) ?_
      have b841 := jB (e := 2) 0 hJ (rg_T5_2_0_1 t839) (by first | decide | omega) (by first | decide | omega)
      refine x_getC (np := 4) (x := 386) (f := 2) (q := (h ((h 61 1) + 5) 2)) (by decide +kernel) (by decide) (tg_5_386_2_0 t839) rfl (fun l842 => ?_)
      refine x_const (np := 5) (x := 9223372043297226753) (a := 2147483649) (by decide +kernel) (by decide) (by decide) ?_
      refine x_iadd (np := 6) (x := 0) (v := (1 + (h ((h 61 1) + 5) 2))) (by decide +kernel) l842 (by decide) (by first | decide | omega) (by first | decide | omega) ?_
      refine x_aload (np := 7) (x := 0) (by decide +kernel) rfl (x_nc_le (tn_5 t839)) ?_
      have b843 := jB (e := 0) 0 hJ (rg_T5_0_0_1 t839) (by first | decide | omega) (by first | decide | omega)
      have q844 : (h ((h 61 1) + 5) 0) = 2147483652 := by first | decide | omega
      refine x_getC (np := 10) (x := 384) (f := 0) (q := 2147483652) (by decide +kernel) (by decide) (tg_5_384_0_0 t839) q844 (fun l845 => ?_)
      obtain ⟨u846, q847⟩ : ∃ z, (h ((h 61 1) + 5) 2) = 2147483648 + z := ⟨(h ((h 61 1) + 5) 2) - 2147483648, by first | decide | omega⟩
      refine x_imul (np := 11) (x := 0) (i := (1 + u846)) (j := 4) (v := (2147483652 + 4 * u846)) (by decide +kernel) (by first | decide | omega) (by first | decide | omega) (by first | decide | omega) (by first | decide | omega) (by first | decide | omega) (by decide) ?_
      refine x_aload (np := 12) (x := 0) (by decide +kernel) rfl (x_nc_le (tn_5 t839)) ?_
      have q849 : h ((h 61 1) + 5) 1 = ((h 61 1) + 6) := tf_5_1 hJ t839
      refine x_getR (np := 15) (x := 385) (f := 1) (q := ((h 61 1) + 6)) (by decide +kernel) (by decide) (tg_5_385_1_1 t839) q849 ?_
      refine x_alen (np := 16) (x := 0) (n := 40) (by decide +kernel) (tn_6 t839) (tl_6 t839).1 (tl_6 t839).2 (by decide) ?_
      show X _ _ _ _ _ _ _ _ [iv_c 2147483688, iv_c (2147483652 + 4 * u846)] _
      refine x_icmp (k := 5) (tg := 23) (np := 19) (by decide +kernel) (by decide) (by first | decide | omega) (by decide) (fun q850 => ?_) (fun q851 => ?_)
      · have q850 : (2147483652 + 4 * u846) ≤ 2147483688 := q850
        refine x_const (np := 24) (x := 9223372039002259456) (a := 2147483648) (by decide +kernel) (by decide) (by decide) ?_
        refine x_retI (np := 25) (x := 0) (by decide +kernel) (by decide) (Or.inr ⟨by decide +kernel, by first | decide | omega, by first | decide | omega⟩) ⟨_, rfl, (by decide), ?_⟩
        refine x_ifz (k := 1) (tg := 148) (np := 125) (by decide +kernel) (by decide) (by decide) (fun q852 => ?_) (fun q853 => ?_)
        · have q852 : 2147483648 ≠ 2147483648 := q852
          exfalso; omega
        have q853 : ¬ (2147483648 ≠ 2147483648) := q853
        refine x_aload (np := 126) (x := 0) (by decide +kernel) rfl (x_nc_le (by decide)) ?_
        have q854 : h 61 0 = 1 := by have z := jB (e := 0) 0 hJ rg_61_0_0_1 (by decide) (by decide); omega
        refine x_getR (np := 129) (x := 576) (f := 0) (q := 1) (by decide +kernel) (by decide) (by decide +kernel) q854 ?_
        refine x_ldcB (i := 8) (idx := 66) (tx := "debt") (by rw [tb_y93]; exact List.mem_of_getElem? (i := 8) rfl) (by decide) (by rw [tb_b93]; decide +kernel) ?_
        refine x_cI (t := 6) (mj := 78) (n := 2) (rc := 8) (ml := 2) (nr := 0) (np := 134) (as := [x_r 1, x_b (8 + 1)]) (rest := []) (lo1 := [x_r 1, x_b (8 + 1)]) (by decide +kernel) (by decide) (by decide +kernel) (x_rb_of (by decide +kernel)) rfl rfl (x_wr (by decide) (x_wB (by decide) x_wn)) x_wn (by decide) rfl (c78_1_S0 hJ  (by decide) hT) (fun v855 h858 l856 q857 => ?_)
        obtain ⟨j859, f860, b861, c862, c863, c864⟩ := q857
        have f865 := Fr.trans hF f860 (by decide)
        have b866 := jB (e := 2) 0 j859 rg_1_2_0_1 (by first | decide | omega) (by first | decide | omega)
        have b867 : iv_tl 8 = 4 := by decide
        refine x_ifz (k := 0) (tg := 148) (np := 137) (by decide +kernel) (by decide) l856 (fun q868 => ?_) (fun q869 => ?_)
        · have q868 : v855 = 2147483648 := q868
          have b870 := c863 (by first | decide | omega)
          refine x_const (np := 149) (x := 9223372039002259456) (a := 2147483648) (by decide +kernel) (by decide) (by decide) ?_
          have b871 := jB (e := 7) 0 hJ (rg_T0_7_0_1 t839) (by first | decide | omega) (by first | decide | omega)
          have e872 : rv h 0 = (h (h 61 1) 7) := (congrArg (fun z => svq h z 0) rfl).trans rfl
          have q873 : h858 61 1 = h 61 1 := f860 61 1 (by decide +kernel)
          have q874 : h858 (h 61 1) 7 = h (h 61 1) 7 := jK 0 f860 (rg_T0_7_0_1 t839) (by first | decide | omega) (by first | decide | omega) (by decide)
          have e875 : rv h858 0 = (h (h 61 1) 7) := (congrArg (fun z => svq h858 z 0) q873).trans q874
          have e876 : rv h 1 = (h (h 61 1) 8) := (congrArg (fun z => svq h z 1) rfl).trans rfl
          have q877 : h858 61 1 = h 61 1 := f860 61 1 (by decide +kernel)
          have q878 : h858 (h 61 1) 8 = h (h 61 1) 8 := jK 0 f860 (rg_T0_8_0_1 t839) (by first | decide | omega) (by first | decide | omega) (by decide)
          have e879 : rv h858 1 = (h (h 61 1) 8) := (congrArg (fun z => svq h858 z 1) q877).trans q878
          have q880 : h858 61 1 = h 61 1 := f860 61 1 (by decide +kernel)
          have q881 : h858 (h 61 1) 7 = h (h 61 1) 7 := jK 0 f860 (rg_T0_7_0_1 t839) (by first | decide | omega) (by first | decide | omega) (by decide)
          have q882 : h858 61 1 = h 61 1 := f860 61 1 (by decide +kernel)
          have q883 : h858 (h 61 1) 8 = h (h 61 1) 8 := jK 0 f860 (rg_T0_8_0_1 t839) (by first | decide | omega) (by first | decide | omega) (by decide)
          have b884 := jB (e := 2) 0 hJ (rg_T1_2_0_1 t839) (by first | decide | omega) (by first | decide | omega)
          have e885 : rv h 2 = (h ((h 61 1) + 1) 2) := (congrArg (fun z => svq h z 2) rfl).trans rfl
          have q886 : h858 61 1 = h 61 1 := f860 61 1 (by decide +kernel)
          have q887 : h858 ((h 61 1) + 1) 2 = h ((h 61 1) + 1) 2 := jK 0 f860 (rg_T1_2_0_1 t839) (by first | decide | omega) (by first | decide | omega) (by decide)
          have e888 : rv h858 2 = (h ((h 61 1) + 1) 2) := (congrArg (fun z => svq h858 z 2) q886).trans q887
          have b889 := jB (e := 2) 0 hJ (rg_T3_2_0_1 t839) (by first | decide | omega) (by first | decide | omega)
          have e890 : rv h 3 = (h ((h 61 1) + 3) 2) := (congrArg (fun z => svq h z 3) rfl).trans rfl
          have q891 : h858 61 1 = h 61 1 := f860 61 1 (by decide +kernel)
          have q892 : h858 ((h 61 1) + 3) 2 = h ((h 61 1) + 3) 2 := jK 0 f860 (rg_T3_2_0_1 t839) (by first | decide | omega) (by first | decide | omega) (by decide)
          have e893 : rv h858 3 = (h ((h 61 1) + 3) 2) := (congrArg (fun z => svq h858 z 3) q891).trans q892
          have e894 : rv h 4 = (h ((h 61 1) + 5) 2) := (congrArg (fun z => svq h z 4) rfl).trans rfl
          have q895 : h858 61 1 = h 61 1 := f860 61 1 (by decide +kernel)
          have q896 : h858 ((h 61 1) + 5) 2 = h ((h 61 1) + 5) 2 := jK 0 f860 (rg_T5_2_0_1 t839) (by first | decide | omega) (by first | decide | omega) (by decide)
          have e897 : rv h858 4 = (h ((h 61 1) + 5) 2) := (congrArg (fun z => svq h858 z 4) q895).trans q896
          have b898 := jB (e := 2) 0 hJ (rg_T7_2_0_1 t839) (by first | decide | omega) (by first | decide | omega)
          have e899 : rv h 5 = (h ((h 61 1) + 7) 2) := (congrArg (fun z => svq h z 5) rfl).trans rfl
          have q900 : h858 61 1 = h 61 1 := f860 61 1 (by decide +kernel)
          have q901 : h858 ((h 61 1) + 7) 2 = h ((h 61 1) + 7) 2 := jK 0 f860 (rg_T7_2_0_1 t839) (by first | decide | omega) (by first | decide | omega) (by decide)
          have e902 : rv h858 5 = (h ((h 61 1) + 7) 2) := (congrArg (fun z => svq h858 z 5) q900).trans q901
          have w903 : ¬ Wd tB tN 0 (h 1 2) := by rw [show h 1 2 = h 1 2 from rfl]; exact (Is.no c6 (by first | decide | omega))
          have w904 : ¬ Wd tB tN 6 (h 1 2) := by rw [show h 1 2 = h 1 2 from rfl]; exact (Is.no c16 (by first | decide | omega))
          obtain ⟨w905, e906⟩ := Tk.no c864 (by first | decide | omega)
          have m907 : Ot (h 61 1) h h858 := Ot.fr Ot.refl f860 (by decide)
          have w908 : ¬ Wd tB tN 0 (h 1 2) := by rw [show h 1 2 = h 1 2 from rfl]; exact (Is.no c6 (by first | decide | omega))
          have w909 : ¬ Wd tB tN 6 (h 1 2) := by rw [show h 1 2 = h 1 2 from rfl]; exact (Is.no c16 (by first | decide | omega))
          obtain ⟨w910, e911⟩ := Tk.no c864 (by first | decide | omega)
          refine x_retI (np := 150) (x := 0) (by decide +kernel) (by decide) (Or.inr ⟨by decide +kernel, by first | decide | omega, by first | decide | omega⟩) ⟨_, rfl, (by decide), ?_⟩
          exact ⟨j859, f865, (by first | decide | omega), (by first | decide | omega), (by first | decide | omega), (absurd (Is.yes c25 (by first | decide | omega)) w905), m907, (fun _ => absurd (Is.yes c25 (by first | decide | omega)) w910)⟩
        have q869 : ¬ (v855 = 2147483648) := q869
        have b912 := c862 (by first | decide | omega)
        refine x_aload (np := 138) (x := 0) (by decide +kernel) rfl (x_nc_le (by decide)) ?_
        have q913 : h858 61 1 = h 61 1 := f860 61 1 (by decide +kernel)
        have q914 : h858 ((h 61 1) + 5) 2 = h ((h 61 1) + 5) 2 := jK 0 f860 (rg_T5_2_0_1 t839) (by first | decide | omega) (by first | decide | omega) (by decide)
        have e915 : rv h858 4 = (h ((h 61 1) + 5) 2) := (congrArg (fun z => svq h858 z 4) q913).trans q914
        have m919 := Tp.fr hT f860 (by decide) (by decide)
        refine x_cI (t := 6) (mj := 99) (n := 1) (rc := 10) (ml := 3) (nr := 0) (np := 141) (as := [x_r 61]) (rest := []) (lo1 := [x_r 61, 147573952589676412928, 147573952589676412928]) (by decide +kernel) (by decide) (by decide +kernel) (x_rb_of (by decide +kernel)) rfl rfl (x_wr (by decide) x_wn) x_wn (by decide) rfl (c99_61 j859  (by first | decide | omega) m919) (fun v916 h920 l917 q918 => ?_)
        obtain ⟨j921, f922, b923, c924, c925, c926, c927, c928, c929, c930, c931, c932⟩ := q918
        have f933 := Fr.trans f865 f922 (by decide)
        have q934 : h858 61 1 = h 61 1 := f860 61 1 (by decide +kernel)
        have q935 : h858 (h 61 1) 7 = h (h 61 1) 7 := jK 0 f860 (rg_T0_7_0_1 t839) (by first | decide | omega) (by first | decide | omega) (by decide)
        have b936 := jB (e := 7) 0 hJ (rg_T0_7_0_1 t839) (by first | decide | omega) (by first | decide | omega)
        have e937 : rv h858 0 = (h (h 61 1) 7) := (congrArg (fun z => svq h858 z 0) q934).trans q935
        have q938 : h920 61 1 = h858 61 1 := f922 61 1 (by decide +kernel)
        have q939 : h858 61 1 = h 61 1 := f860 61 1 (by decide +kernel)
        have b940 := jB (e := 7) 0 j921 (rg_T0_7_0_1 t839) (by first | decide | omega) (by first | decide | omega)
        have e941 : rv h920 0 = (h920 (h 61 1) 7) := (congrArg (fun z => svq h920 z 0) (q938.trans q939)).trans rfl
        have q942 : h858 61 1 = h 61 1 := f860 61 1 (by decide +kernel)
        have q943 : h858 (h 61 1) 8 = h (h 61 1) 8 := jK 0 f860 (rg_T0_8_0_1 t839) (by first | decide | omega) (by first | decide | omega) (by decide)
        have e944 : rv h858 1 = (h (h 61 1) 8) := (congrArg (fun z => svq h858 z 1) q942).trans q943
        have q945 : h920 61 1 = h858 61 1 := f922 61 1 (by decide +kernel)
        have q946 : h858 61 1 = h 61 1 := f860 61 1 (by decide +kernel)
        have e947 : rv h920 1 = (h920 (h 61 1) 8) := (congrArg (fun z => svq h920 z 1) (q945.trans q946)).trans rfl
        have q948 : h858 61 1 = h 61 1 := f860 61 1 (by decide +kernel)
        have q949 : h858 ((h 61 1) + 1) 2 = h ((h 61 1) + 1) 2 := jK 0 f860 (rg_T1_2_0_1 t839) (by first | decide | omega) (by first | decide | omega) (by decide)
        have b950 := jB (e := 2) 0 hJ (rg_T1_2_0_1 t839) (by first | decide | omega) (by first | decide | omega)
        have e951 : rv h858 2 = (h ((h 61 1) + 1) 2) := (congrArg (fun z => svq h858 z 2) q948).trans q949
        have q952 : h920 61 1 = h858 61 1 := f922 61 1 (by decide +kernel)
        have q953 : h858 61 1 = h 61 1 := f860 61 1 (by decide +kernel)
        have b954 := jB (e := 2) 0 j921 (rg_T1_2_0_1 t839) (by first | decide | omega) (by first | decide | omega)
        have e955 : rv h920 2 = (h920 ((h 61 1) + 1) 2) := (congrArg (fun z => svq h920 z 2) (q952.trans q953)).trans rfl
        have q956 : h858 61 1 = h 61 1 := f860 61 1 (by decide +kernel)
        have q957 : h858 ((h 61 1) + 3) 2 = h ((h 61 1) + 3) 2 := jK 0 f860 (rg_T3_2_0_1 t839) (by first | decide | omega) (by first | decide | omega) (by decide)
        have b958 := jB (e := 2) 0 hJ (rg_T3_2_0_1 t839) (by first | decide | omega) (by first | decide | omega)
        have e959 : rv h858 3 = (h ((h 61 1) + 3) 2) := (congrArg (fun z => svq h858 z 3) q956).trans q957
        have q960 : h920 61 1 = h858 61 1 := f922 61 1 (by decide +kernel)
        have q961 : h858 61 1 = h 61 1 := f860 61 1 (by decide +kernel)
        have b962 := jB (e := 2) 0 j921 (rg_T3_2_0_1 t839) (by first | decide | omega) (by first | decide | omega)
        have e963 : rv h920 3 = (h920 ((h 61 1) + 3) 2) := (congrArg (fun z => svq h920 z 3) (q960.trans q961)).trans rfl
        have q964 : h858 61 1 = h 61 1 := f860 61 1 (by decide +kernel)
        have q965 : h858 ((h 61 1) + 5) 2 = h ((h 61 1) + 5) 2 := jK 0 f860 (rg_T5_2_0_1 t839) (by first | decide | omega) (by first | decide | omega) (by decide)
        have q966 : h920 61 1 = h858 61 1 := f922 61 1 (by decide +kernel)
        have q967 : h858 61 1 = h 61 1 := f860 61 1 (by decide +kernel)
        have b968 := jB (e := 2) 0 j921 (rg_T5_2_0_1 t839) (by first | decide | omega) (by first | decide | omega)
        have e969 : rv h920 4 = (h920 ((h 61 1) + 5) 2) := (congrArg (fun z => svq h920 z 4) (q966.trans q967)).trans rfl
        have q970 : h858 61 1 = h 61 1 := f860 61 1 (by decide +kernel)
        have q971 : h858 ((h 61 1) + 7) 2 = h ((h 61 1) + 7) 2 := jK 0 f860 (rg_T7_2_0_1 t839) (by first | decide | omega) (by first | decide | omega) (by decide)
        have b972 := jB (e := 2) 0 hJ (rg_T7_2_0_1 t839) (by first | decide | omega) (by first | decide | omega)
        have e973 : rv h858 5 = (h ((h 61 1) + 7) 2) := (congrArg (fun z => svq h858 z 5) q970).trans q971
        have q974 : h920 61 1 = h858 61 1 := f922 61 1 (by decide +kernel)
        have q975 : h858 61 1 = h 61 1 := f860 61 1 (by decide +kernel)
        have b976 := jB (e := 2) 0 j921 (rg_T7_2_0_1 t839) (by first | decide | omega) (by first | decide | omega)
        have e977 : rv h920 5 = (h920 ((h 61 1) + 7) 2) := (congrArg (fun z => svq h920 z 5) (q974.trans q975)).trans rfl
        have q978 : h858 61 1 = h 61 1 := f860 61 1 (by decide +kernel)
        refine x_ifz (k := 0) (tg := 148) (np := 144) (by decide +kernel) (by decide) l917 (fun q979 => ?_) (fun q980 => ?_)
        · have q979 : v916 = 2147483648 := q979
          refine x_const (np := 149) (x := 9223372039002259456) (a := 2147483648) (by decide +kernel) (by decide) (by decide) ?_
          have e981 : rv h 0 = (h (h 61 1) 7) := (congrArg (fun z => svq h z 0) rfl).trans rfl
          have q982 : h920 61 1 = h858 61 1 := f922 61 1 (by decide +kernel)
          have q983 : h858 61 1 = h 61 1 := f860 61 1 (by decide +kernel)
          have e984 : rv h 1 = (h (h 61 1) 8) := (congrArg (fun z => svq h z 1) rfl).trans rfl
          have q985 : h920 61 1 = h858 61 1 := f922 61 1 (by decide +kernel)
          have q986 : h858 61 1 = h 61 1 := f860 61 1 (by decide +kernel)
          have q987 : h920 61 1 = h858 61 1 := f922 61 1 (by decide +kernel)
          have q988 : h858 61 1 = h 61 1 := f860 61 1 (by decide +kernel)
          have q989 : h920 61 1 = h858 61 1 := f922 61 1 (by decide +kernel)
          have q990 : h858 61 1 = h 61 1 := f860 61 1 (by decide +kernel)
          have e991 : rv h 2 = (h ((h 61 1) + 1) 2) := (congrArg (fun z => svq h z 2) rfl).trans rfl
          have q992 : h920 61 1 = h858 61 1 := f922 61 1 (by decide +kernel)
          have q993 : h858 61 1 = h 61 1 := f860 61 1 (by decide +kernel)
          have e994 : rv h 3 = (h ((h 61 1) + 3) 2) := (congrArg (fun z => svq h z 3) rfl).trans rfl
          have q995 : h920 61 1 = h858 61 1 := f922 61 1 (by decide +kernel)
          have q996 : h858 61 1 = h 61 1 := f860 61 1 (by decide +kernel)
          have e997 : rv h 4 = (h ((h 61 1) + 5) 2) := (congrArg (fun z => svq h z 4) rfl).trans rfl
          have q998 : h920 61 1 = h858 61 1 := f922 61 1 (by decide +kernel)
          have q999 : h858 61 1 = h 61 1 := f860 61 1 (by decide +kernel)
          have e1000 : rv h 5 = (h ((h 61 1) + 7) 2) := (congrArg (fun z => svq h z 5) rfl).trans rfl
          have q1001 : h920 61 1 = h858 61 1 := f922 61 1 (by decide +kernel)
          have q1002 : h858 61 1 = h 61 1 := f860 61 1 (by decide +kernel)
          have w1003 : ¬ Wd tB tN 0 (h 1 2) := by rw [show h 1 2 = h 1 2 from rfl]; exact (Is.no c6 (by first | decide | omega))
          have w1004 : ¬ Wd tB tN 6 (h 1 2) := by rw [show h 1 2 = h 1 2 from rfl]; exact (Is.no c16 (by first | decide | omega))
          obtain ⟨w1005, e1006⟩ := Tk.yes c864 (by first | decide | omega)
          have q1007 : h858 61 1 = h 61 1 := f860 61 1 (by decide +kernel)
          have q1008 : h858 (h 61 1) 7 = h (h 61 1) 7 := jK 0 f860 (rg_T0_7_0_1 t839) (by first | decide | omega) (by first | decide | omega) (by decide)
          have k1009 : debt9 tB tN (rv h 0) (h858 1 2) (rs v916 (h920 1 2)) := by rw [show rv h 0 = rv h858 0 by first | decide | omega]; exact c930
          have m1010 : Ot (h 61 1) h h858 := Ot.fr Ot.refl f860 (by decide)
          have m1011 : Ot (h 61 1) h h920 := Ot.trans m1010 (Ot.cast c931 q978)
          have w1012 : ¬ Wd tB tN 0 (h 1 2) := by rw [show h 1 2 = h 1 2 from rfl]; exact (Is.no c6 (by first | decide | omega))
          have w1013 : ¬ Wd tB tN 6 (h 1 2) := by rw [show h 1 2 = h 1 2 from rfl]; exact (Is.no c16 (by first | decide | omega))
          obtain ⟨w1014, e1015⟩ := Tk.yes c864 (by first | decide | omega)
          have q1016 : h858 61 1 = h 61 1 := f860 61 1 (by decide +kernel)
          have q1017 : h858 (h 61 1) 7 = h (h 61 1) 7 := jK 0 f860 (rg_T0_7_0_1 t839) (by first | decide | omega) (by first | decide | omega) (by decide)
          have k1018 : debtF tB tN (rv h 0) (h858 1 2) (h920 1 2) := by rw [show rv h 0 = rv h858 0 by first | decide | omega]; exact (c932 (by first | decide | omega))
          refine x_retI (np := 150) (x := 0) (by decide +kernel) (by decide) (Or.inr ⟨by decide +kernel, by first | decide | omega, by first | decide | omega⟩) ⟨_, rfl, (by decide), ?_⟩
          exact ⟨j921, f933, (by first | decide | omega), (by first | decide | omega), (by first | decide | omega), (l9_debt w1005 rfl (by first | decide | omega) e1006 rfl k1009 (by first | decide | omega) (by first | decide | omega) (fun z => absurd z (by first | decide | omega))), m1011, (fun _ => lF_debt w1014 rfl (by first | decide | omega) e1015 rfl k1018)⟩
        have q980 : ¬ (v916 = 2147483648) := q980
        have b1019 := c928 (by first | decide | omega)
        refine x_const (np := 145) (x := 9223372043297226753) (a := 2147483649) (by decide +kernel) (by decide) (by decide) ?_
        refine x_goto (np := 148) (x := 149) (by decide +kernel) ?_
        have e1020 : rv h 0 = (h (h 61 1) 7) := (congrArg (fun z => svq h z 0) rfl).trans rfl
        have q1021 : h920 61 1 = h858 61 1 := f922 61 1 (by decide +kernel)
        have q1022 : h858 61 1 = h 61 1 := f860 61 1 (by decide +kernel)
        have e1023 : rv h 1 = (h (h 61 1) 8) := (congrArg (fun z => svq h z 1) rfl).trans rfl
        have q1024 : h920 61 1 = h858 61 1 := f922 61 1 (by decide +kernel)
        have q1025 : h858 61 1 = h 61 1 := f860 61 1 (by decide +kernel)
        have q1026 : h920 61 1 = h858 61 1 := f922 61 1 (by decide +kernel)
        have q1027 : h858 61 1 = h 61 1 := f860 61 1 (by decide +kernel)
        have q1028 : h920 61 1 = h858 61 1 := f922 61 1 (by decide +kernel)
        have q1029 : h858 61 1 = h 61 1 := f860 61 1 (by decide +kernel)
        have e1030 : rv h 2 = (h ((h 61 1) + 1) 2) := (congrArg (fun z => svq h z 2) rfl).trans rfl
        have q1031 : h920 61 1 = h858 61 1 := f922 61 1 (by decide +kernel)
        have q1032 : h858 61 1 = h 61 1 := f860 61 1 (by decide +kernel)
        have e1033 : rv h 3 = (h ((h 61 1) + 3) 2) := (congrArg (fun z => svq h z 3) rfl).trans rfl
        have q1034 : h920 61 1 = h858 61 1 := f922 61 1 (by decide +kernel)
        have q1035 : h858 61 1 = h 61 1 := f860 61 1 (by decide +kernel)
        have e1036 : rv h 4 = (h ((h 61 1) + 5) 2) := (congrArg (fun z => svq h z 4) rfl).trans rfl
        have q1037 : h920 61 1 = h858 61 1 := f922 61 1 (by decide +kernel)
        have q1038 : h858 61 1 = h 61 1 := f860 61 1 (by decide +kernel)
        have e1039 : rv h 5 = (h ((h 61 1) + 7) 2) := (congrArg (fun z => svq h z 5) rfl).trans rfl
        have q1040 : h920 61 1 = h858 61 1 := f922 61 1 (by decide +kernel)
        have q1041 : h858 61 1 = h 61 1 := f860 61 1 (by decide +kernel)
        have w1042 : ¬ Wd tB tN 0 (h 1 2) := by rw [show h 1 2 = h 1 2 from rfl]; exact (Is.no c6 (by first | decide | omega))
        have w1043 : ¬ Wd tB tN 6 (h 1 2) := by rw [show h 1 2 = h 1 2 from rfl]; exact (Is.no c16 (by first | decide | omega))
        obtain ⟨w1044, e1045⟩ := Tk.yes c864 (by first | decide | omega)
        have q1046 : h858 61 1 = h 61 1 := f860 61 1 (by decide +kernel)
        have q1047 : h858 (h 61 1) 7 = h (h 61 1) 7 := jK 0 f860 (rg_T0_7_0_1 t839) (by first | decide | omega) (by first | decide | omega) (by decide)
        have k1048 : debt9 tB tN (rv h 0) (h858 1 2) (rs v916 (h920 1 2)) := by rw [show rv h 0 = rv h858 0 by first | decide | omega]; exact c930
        have m1049 : Ot (h 61 1) h h858 := Ot.fr Ot.refl f860 (by decide)
        have m1050 : Ot (h 61 1) h h920 := Ot.trans m1049 (Ot.cast c931 q978)
        refine x_retI (np := 150) (x := 0) (by decide +kernel) (by decide) (Or.inr ⟨by decide +kernel, by first | decide | omega, by first | decide | omega⟩) ⟨_, rfl, (by decide), ?_⟩
        exact ⟨j921, f933, (by first | decide | omega), (by first | decide | omega), (by first | decide | omega), (l9_debt w1044 rfl (by first | decide | omega) e1045 rfl k1048 (by first | decide | omega) (by first | decide | omega) (fun z => ⟨rfl, by first | decide | omega, by first | decide | omega, by first | decide | omega, by first | decide | omega⟩)), m1050, (fun z => absurd z (by first | decide | omega))⟩
      have q851 : ¬ ((2147483652 + 4 * u846) ≤ 2147483688) := q851
      refine x_const (np := 20) (x := 9223372043297226753) (a := 2147483649) (by decide +kernel) (by decide) (by decide) ?_
      refine x_goto (np := 23) (x := 24) (by decide +kernel) ?_
      refine x_retI (np := 25) (x := 0) (by decide +kernel) (by decide) (Or.inr ⟨by decide +kernel, by first | decide | omega, by first | decide | omega⟩) ⟨_, rfl, (by decide), ?_⟩
      refine x_ifz (k := 1) (tg := 148) (np := 125) (by decide +kernel) (by decide) (by decide) (fun q1051 => ?_) (fun q1052 => ?_)
      · have q1051 : 2147483649 ≠ 2147483648 := q1051
        refine x_const (np := 149) (x := 9223372039002259456) (a := 2147483648) (by decide +kernel) (by decide) (by decide) ?_
        have b1053 := jB (e := 7) 0 hJ (rg_T0_7_0_1 t839) (by first | decide | omega) (by first | decide | omega)
        have e1054 : rv h 0 = (h (h 61 1) 7) := (congrArg (fun z => svq h z 0) rfl).trans rfl
        have e1055 : rv h 1 = (h (h 61 1) 8) := (congrArg (fun z => svq h z 1) rfl).trans rfl
        have b1056 := jB (e := 2) 0 hJ (rg_T1_2_0_1 t839) (by first | decide | omega) (by first | decide | omega)
        have e1057 : rv h 2 = (h ((h 61 1) + 1) 2) := (congrArg (fun z => svq h z 2) rfl).trans rfl
        have b1058 := jB (e := 2) 0 hJ (rg_T3_2_0_1 t839) (by first | decide | omega) (by first | decide | omega)
        have e1059 : rv h 3 = (h ((h 61 1) + 3) 2) := (congrArg (fun z => svq h z 3) rfl).trans rfl
        have e1060 : rv h 4 = (h ((h 61 1) + 5) 2) := (congrArg (fun z => svq h z 4) rfl).trans rfl
        have b1061 := jB (e := 2) 0 hJ (rg_T7_2_0_1 t839) (by first | decide | omega) (by first | decide | omega)
        have e1062 : rv h 5 = (h ((h 61 1) + 7) 2) := (congrArg (fun z => svq h z 5) rfl).trans rfl
        have w1063 : ¬ Wd tB tN 0 (h 1 2) := by rw [show h 1 2 = h 1 2 from rfl]; exact (Is.no c6 (by first | decide | omega))
        have w1064 : ¬ Wd tB tN 6 (h 1 2) := by rw [show h 1 2 = h 1 2 from rfl]; exact (Is.no c16 (by first | decide | omega))
        have w1065 : ¬ Wd tB tN 0 (h 1 2) := by rw [show h 1 2 = h 1 2 from rfl]; exact (Is.no c6 (by first | decide | omega))
        have w1066 : ¬ Wd tB tN 6 (h 1 2) := by rw [show h 1 2 = h 1 2 from rfl]; exact (Is.no c16 (by first | decide | omega))
        refine x_retI (np := 150) (x := 0) (by decide +kernel) (by decide) (Or.inr ⟨by decide +kernel, by first | decide | omega, by first | decide | omega⟩) ⟨_, rfl, (by decide), ?_⟩
        exact ⟨hJ, hF, (by first | decide | omega), (by first | decide | omega), (by first | decide | omega), (l9_debt0 (Is.yes c25 (by first | decide | omega)) rfl (by first | decide | omega) (by first | decide | omega)), Ot.refl, (fun _ => lF_debt0 (Is.yes c25 (by first | decide | omega)) rfl (by first | decide | omega) rfl)⟩
      have q1052 : ¬ (2147483649 ≠ 2147483648) := q1052
      exfalso; omega
    have q19 : ¬ (v12 = 2147483648) := q19
    have b1067 := c15 (by first | decide | omega)
    refine x_aload (np := 63) (x := 0) (by decide +kernel) rfl (x_nc_le (by decide)) ?_
    have t1068 : tw (h 61 1) := hJ.2.2.2.2.1
    refine x_getR (np := 66) (x := 577) (f := 1) (q := (h 61 1)) (by decide +kernel) (by decide) (by decide +kernel) rfl ?_
    have q1069 : h (h 61 1) 1 = ((h 61 1) + 3) := tf_0_1 hJ t1068
    refine x_getR (np := 69) (x := 513) (f := 1) (q := ((h 61 1) + 3)) (by decide +kernel) (by decide) (tg_0_513_1_1 t1068) q1069 ?_
    refine x_nI (t := 6) (mj := 66) (n := 1) (rc := 7) (ml := 1) (nr := 0) (np := 72) (as := [x_r ((h 61 1) + 3)]) (rest := []) (lo1 := [x_r ((h 61 1) + 3)]) (by decide +kernel) (by decide) (by decide +kernel) (x_rb_of (tr_3_7 t1068)) rfl rfl (x_wr (tn_3 t1068) x_wn) x_wn (by decide) rfl ?_
    refine x_aload (np := 1) (x := 0) (by decide +kernel) rfl (x_nc_le (tn_3 t1068)) ?_
    have b1070 := jB (e := 2) 0 hJ (rg_T3_2_0_1 t1068) (by first | decide | omega) (by first | decide | omega)
    refine x_getC (np := 4) (x := 386) (f := 2) (q := (h ((h 61 1) + 3) 2)) (by decide +kernel) (by decide) (tg_3_386_2_0 t1068) rfl (fun l1071 => ?_)
    refine x_const (np := 5) (x := 9223372043297226753) (a := 2147483649) (by decide +kernel) (by decide) (by decide) ?_
    refine x_iadd (np := 6) (x := 0) (v := (1 + (h ((h 61 1) + 3) 2))) (by decide +kernel) l1071 (by decide) (by first | decide | omega) (by first | decide | omega) ?_
    refine x_aload (np := 7) (x := 0) (by decide +kernel) rfl (x_nc_le (tn_3 t1068)) ?_
    have b1072 := jB (e := 0) 0 hJ (rg_T3_0_0_1 t1068) (by first | decide | omega) (by first | decide | omega)
    have q1073 : (h ((h 61 1) + 3) 0) = 2147483652 := by first | decide | omega
    refine x_getC (np := 10) (x := 384) (f := 0) (q := 2147483652) (by decide +kernel) (by decide) (tg_3_384_0_0 t1068) q1073 (fun l1074 => ?_)
    obtain ⟨u1075, q1076⟩ : ∃ z, (h ((h 61 1) + 3) 2) = 2147483648 + z := ⟨(h ((h 61 1) + 3) 2) - 2147483648, by first | decide | omega⟩
    refine x_imul (np := 11) (x := 0) (i := (1 + u1075)) (j := 4) (v := (2147483652 + 4 * u1075)) (by decide +kernel) (by first | decide | omega) (by first | decide | omega) (by first | decide | omega) (by first | decide | omega) (by first | decide | omega) (by decide) ?_
    refine x_aload (np := 12) (x := 0) (by decide +kernel) rfl (x_nc_le (tn_3 t1068)) ?_
    have q1078 : h ((h 61 1) + 3) 1 = ((h 61 1) + 4) := tf_3_1 hJ t1068
    refine x_getR (np := 15) (x := 385) (f := 1) (q := ((h 61 1) + 4)) (by decide +kernel) (by decide) (tg_3_385_1_1 t1068) q1078 ?_
    refine x_alen (np := 16) (x := 0) (n := 40) (by decide +kernel) (tn_4 t1068) (tl_4 t1068).1 (tl_4 t1068).2 (by decide) ?_
    show X _ _ _ _ _ _ _ _ [iv_c 2147483688, iv_c (2147483652 + 4 * u1075)] _
    refine x_icmp (k := 5) (tg := 23) (np := 19) (by decide +kernel) (by decide) (by first | decide | omega) (by decide) (fun q1079 => ?_) (fun q1080 => ?_)
    · have q1079 : (2147483652 + 4 * u1075) ≤ 2147483688 := q1079
      refine x_const (np := 24) (x := 9223372039002259456) (a := 2147483648) (by decide +kernel) (by decide) (by decide) ?_
      refine x_retI (np := 25) (x := 0) (by decide +kernel) (by decide) (Or.inr ⟨by decide +kernel, by first | decide | omega, by first | decide | omega⟩) ⟨_, rfl, (by decide), ?_⟩
      refine x_ifz (k := 1) (tg := 98) (np := 75) (by decide +kernel) (by decide) (by decide) (fun q1081 => ?_) (fun q1082 => ?_)
      · have q1081 : 2147483648 ≠ 2147483648 := q1081
        exfalso; omega
      have q1082 : ¬ (2147483648 ≠ 2147483648) := q1082
      refine x_aload (np := 76) (x := 0) (by decide +kernel) rfl (x_nc_le (by decide)) ?_
      have q1083 : h 61 0 = 1 := by have z := jB (e := 0) 0 hJ rg_61_0_0_1 (by decide) (by decide); omega
      refine x_getR (np := 79) (x := 576) (f := 0) (q := 1) (by decide +kernel) (by decide) (by decide +kernel) q1083 ?_
      refine x_ldcB (i := 6) (idx := 58) (tx := "letter") (by rw [tb_y93]; exact List.mem_of_getElem? (i := 6) rfl) (by decide) (by rw [tb_b93]; decide +kernel) ?_
      refine x_cI (t := 6) (mj := 78) (n := 2) (rc := 8) (ml := 2) (nr := 0) (np := 84) (as := [x_r 1, x_b (6 + 1)]) (rest := []) (lo1 := [x_r 1, x_b (6 + 1)]) (by decide +kernel) (by decide) (by decide +kernel) (x_rb_of (by decide +kernel)) rfl rfl (x_wr (by decide) (x_wB (by decide) x_wn)) x_wn (by decide) rfl (c78_1_S0 hJ  (by decide) hT) (fun v1084 h1087 l1085 q1086 => ?_)
      obtain ⟨j1088, f1089, b1090, c1091, c1092, c1093⟩ := q1086
      have f1094 := Fr.trans hF f1089 (by decide)
      have b1095 := jB (e := 2) 0 j1088 rg_1_2_0_1 (by first | decide | omega) (by first | decide | omega)
      have b1096 : iv_tl 6 = 6 := by decide
      refine x_ifz (k := 0) (tg := 98) (np := 87) (by decide +kernel) (by decide) l1085 (fun q1097 => ?_) (fun q1098 => ?_)
      · have q1097 : v1084 = 2147483648 := q1097
        have b1099 := c1092 (by first | decide | omega)
        refine x_const (np := 99) (x := 9223372039002259456) (a := 2147483648) (by decide +kernel) (by decide) (by decide) ?_
        have b1100 := jB (e := 7) 0 hJ (rg_T0_7_0_1 t1068) (by first | decide | omega) (by first | decide | omega)
        have e1101 : rv h 0 = (h (h 61 1) 7) := (congrArg (fun z => svq h z 0) rfl).trans rfl
        have q1102 : h1087 61 1 = h 61 1 := f1089 61 1 (by decide +kernel)
        have q1103 : h1087 (h 61 1) 7 = h (h 61 1) 7 := jK 0 f1089 (rg_T0_7_0_1 t1068) (by first | decide | omega) (by first | decide | omega) (by decide)
        have e1104 : rv h1087 0 = (h (h 61 1) 7) := (congrArg (fun z => svq h1087 z 0) q1102).trans q1103
        have e1105 : rv h 1 = (h (h 61 1) 8) := (congrArg (fun z => svq h z 1) rfl).trans rfl
        have q1106 : h1087 61 1 = h 61 1 := f1089 61 1 (by decide +kernel)
        have q1107 : h1087 (h 61 1) 8 = h (h 61 1) 8 := jK 0 f1089 (rg_T0_8_0_1 t1068) (by first | decide | omega) (by first | decide | omega) (by decide)
        have e1108 : rv h1087 1 = (h (h 61 1) 8) := (congrArg (fun z => svq h1087 z 1) q1106).trans q1107
        have q1109 : h1087 61 1 = h 61 1 := f1089 61 1 (by decide +kernel)
        have q1110 : h1087 (h 61 1) 7 = h (h 61 1) 7 := jK 0 f1089 (rg_T0_7_0_1 t1068) (by first | decide | omega) (by first | decide | omega) (by decide)
        have q1111 : h1087 61 1 = h 61 1 := f1089 61 1 (by decide +kernel)
        have q1112 : h1087 (h 61 1) 8 = h (h 61 1) 8 := jK 0 f1089 (rg_T0_8_0_1 t1068) (by first | decide | omega) (by first | decide | omega) (by decide)
        have b1113 := jB (e := 2) 0 hJ (rg_T1_2_0_1 t1068) (by first | decide | omega) (by first | decide | omega)
        have e1114 : rv h 2 = (h ((h 61 1) + 1) 2) := (congrArg (fun z => svq h z 2) rfl).trans rfl
        have q1115 : h1087 61 1 = h 61 1 := f1089 61 1 (by decide +kernel)
        have q1116 : h1087 ((h 61 1) + 1) 2 = h ((h 61 1) + 1) 2 := jK 0 f1089 (rg_T1_2_0_1 t1068) (by first | decide | omega) (by first | decide | omega) (by decide)
        have e1117 : rv h1087 2 = (h ((h 61 1) + 1) 2) := (congrArg (fun z => svq h1087 z 2) q1115).trans q1116
        have e1118 : rv h 3 = (h ((h 61 1) + 3) 2) := (congrArg (fun z => svq h z 3) rfl).trans rfl
        have q1119 : h1087 61 1 = h 61 1 := f1089 61 1 (by decide +kernel)
        have q1120 : h1087 ((h 61 1) + 3) 2 = h ((h 61 1) + 3) 2 := jK 0 f1089 (rg_T3_2_0_1 t1068) (by first | decide | omega) (by first | decide | omega) (by decide)
        have e1121 : rv h1087 3 = (h ((h 61 1) + 3) 2) := (congrArg (fun z => svq h1087 z 3) q1119).trans q1120
        have b1122 := jB (e := 2) 0 hJ (rg_T5_2_0_1 t1068) (by first | decide | omega) (by first | decide | omega)
        have e1123 : rv h 4 = (h ((h 61 1) + 5) 2) := (congrArg (fun z => svq h z 4) rfl).trans rfl
        have q1124 : h1087 61 1 = h 61 1 := f1089 61 1 (by decide +kernel)
        have q1125 : h1087 ((h 61 1) + 5) 2 = h ((h 61 1) + 5) 2 := jK 0 f1089 (rg_T5_2_0_1 t1068) (by first | decide | omega) (by first | decide | omega) (by decide)
        have e1126 : rv h1087 4 = (h ((h 61 1) + 5) 2) := (congrArg (fun z => svq h1087 z 4) q1124).trans q1125
        have b1127 := jB (e := 2) 0 hJ (rg_T7_2_0_1 t1068) (by first | decide | omega) (by first | decide | omega)
        have e1128 : rv h 5 = (h ((h 61 1) + 7) 2) := (congrArg (fun z => svq h z 5) rfl).trans rfl
        have q1129 : h1087 61 1 = h 61 1 := f1089 61 1 (by decide +kernel)
        have q1130 : h1087 ((h 61 1) + 7) 2 = h ((h 61 1) + 7) 2 := jK 0 f1089 (rg_T7_2_0_1 t1068) (by first | decide | omega) (by first | decide | omega) (by decide)
        have e1131 : rv h1087 5 = (h ((h 61 1) + 7) 2) := (congrArg (fun z => svq h1087 z 5) q1129).trans q1130
        have w1132 : ¬ Wd tB tN 0 (h 1 2) := by rw [show h 1 2 = h 1 2 from rfl]; exact (Is.no c6 (by first | decide | omega))
        obtain ⟨w1133, e1134⟩ := Tk.no c1093 (by first | decide | omega)
        have m1135 : Ot (h 61 1) h h1087 := Ot.fr Ot.refl f1089 (by decide)
        have w1136 : ¬ Wd tB tN 0 (h 1 2) := by rw [show h 1 2 = h 1 2 from rfl]; exact (Is.no c6 (by first | decide | omega))
        obtain ⟨w1137, e1138⟩ := Tk.no c1093 (by first | decide | omega)
        refine x_retI (np := 100) (x := 0) (by decide +kernel) (by decide) (Or.inr ⟨by decide +kernel, by first | decide | omega, by first | decide | omega⟩) ⟨_, rfl, (by decide), ?_⟩
        exact ⟨j1088, f1094, (by first | decide | omega), (by first | decide | omega), (by first | decide | omega), (absurd (Is.yes c16 (by first | decide | omega)) w1133), m1135, (fun _ => absurd (Is.yes c16 (by first | decide | omega)) w1137)⟩
      have q1098 : ¬ (v1084 = 2147483648) := q1098
      have b1139 := c1091 (by first | decide | omega)
      refine x_aload (np := 88) (x := 0) (by decide +kernel) rfl (x_nc_le (by decide)) ?_
      have q1140 : h1087 61 1 = h 61 1 := f1089 61 1 (by decide +kernel)
      have q1141 : h1087 ((h 61 1) + 3) 2 = h ((h 61 1) + 3) 2 := jK 0 f1089 (rg_T3_2_0_1 t1068) (by first | decide | omega) (by first | decide | omega) (by decide)
      have e1142 : rv h1087 3 = (h ((h 61 1) + 3) 2) := (congrArg (fun z => svq h1087 z 3) q1140).trans q1141
      have m1146 := Tp.fr hT f1089 (by decide) (by decide)
      refine x_cI (t := 6) (mj := 98) (n := 1) (rc := 10) (ml := 2) (nr := 0) (np := 91) (as := [x_r 61]) (rest := []) (lo1 := [x_r 61, 147573952589676412928]) (by decide +kernel) (by decide) (by decide +kernel) (x_rb_of (by decide +kernel)) rfl rfl (x_wr (by decide) x_wn) x_wn (by decide) rfl (c98_61 j1088  (by first | decide | omega) m1146) (fun v1143 h1147 l1144 q1145 => ?_)
      obtain ⟨j1148, f1149, b1150, c1151, c1152, c1153, c1154, c1155, c1156, c1157, c1158, c1159⟩ := q1145
      have f1160 := Fr.trans f1094 f1149 (by decide)
      have q1161 : h1087 61 1 = h 61 1 := f1089 61 1 (by decide +kernel)
      have q1162 : h1087 (h 61 1) 7 = h (h 61 1) 7 := jK 0 f1089 (rg_T0_7_0_1 t1068) (by first | decide | omega) (by first | decide | omega) (by decide)
      have b1163 := jB (e := 7) 0 hJ (rg_T0_7_0_1 t1068) (by first | decide | omega) (by first | decide | omega)
      have e1164 : rv h1087 0 = (h (h 61 1) 7) := (congrArg (fun z => svq h1087 z 0) q1161).trans q1162
      have q1165 : h1147 61 1 = h1087 61 1 := f1149 61 1 (by decide +kernel)
      have q1166 : h1087 61 1 = h 61 1 := f1089 61 1 (by decide +kernel)
      have b1167 := jB (e := 7) 0 j1148 (rg_T0_7_0_1 t1068) (by first | decide | omega) (by first | decide | omega)
      have e1168 : rv h1147 0 = (h1147 (h 61 1) 7) := (congrArg (fun z => svq h1147 z 0) (q1165.trans q1166)).trans rfl
      have q1169 : h1087 61 1 = h 61 1 := f1089 61 1 (by decide +kernel)
      have q1170 : h1087 (h 61 1) 8 = h (h 61 1) 8 := jK 0 f1089 (rg_T0_8_0_1 t1068) (by first | decide | omega) (by first | decide | omega) (by decide)
      have e1171 : rv h1087 1 = (h (h 61 1) 8) := (congrArg (fun z => svq h1087 z 1) q1169).trans q1170
      have q1172 : h1147 61 1 = h1087 61 1 := f1149 61 1 (by decide +kernel)
      have q1173 : h1087 61 1 = h 61 1 := f1089 61 1 (by decide +kernel)
      have e1174 : rv h1147 1 = (h1147 (h 61 1) 8) := (congrArg (fun z => svq h1147 z 1) (q1172.trans q1173)).trans rfl
      have q1175 : h1087 61 1 = h 61 1 := f1089 61 1 (by decide +kernel)
      have q1176 : h1087 ((h 61 1) + 1) 2 = h ((h 61 1) + 1) 2 := jK 0 f1089 (rg_T1_2_0_1 t1068) (by first | decide | omega) (by first | decide | omega) (by decide)
      have b1177 := jB (e := 2) 0 hJ (rg_T1_2_0_1 t1068) (by first | decide | omega) (by first | decide | omega)
      have e1178 : rv h1087 2 = (h ((h 61 1) + 1) 2) := (congrArg (fun z => svq h1087 z 2) q1175).trans q1176
      have q1179 : h1147 61 1 = h1087 61 1 := f1149 61 1 (by decide +kernel)
      have q1180 : h1087 61 1 = h 61 1 := f1089 61 1 (by decide +kernel)
      have b1181 := jB (e := 2) 0 j1148 (rg_T1_2_0_1 t1068) (by first | decide | omega) (by first | decide | omega)
      have e1182 : rv h1147 2 = (h1147 ((h 61 1) + 1) 2) := (congrArg (fun z => svq h1147 z 2) (q1179.trans q1180)).trans rfl
      have q1183 : h1087 61 1 = h 61 1 := f1089 61 1 (by decide +kernel)
      have q1184 : h1087 ((h 61 1) + 3) 2 = h ((h 61 1) + 3) 2 := jK 0 f1089 (rg_T3_2_0_1 t1068) (by first | decide | omega) (by first | decide | omega) (by decide)
      have q1185 : h1147 61 1 = h1087 61 1 := f1149 61 1 (by decide +kernel)
      have q1186 : h1087 61 1 = h 61 1 := f1089 61 1 (by decide +kernel)
      have b1187 := jB (e := 2) 0 j1148 (rg_T3_2_0_1 t1068) (by first | decide | omega) (by first | decide | omega)
      have e1188 : rv h1147 3 = (h1147 ((h 61 1) + 3) 2) := (congrArg (fun z => svq h1147 z 3) (q1185.trans q1186)).trans rfl
      have q1189 : h1087 61 1 = h 61 1 := f1089 61 1 (by decide +kernel)
      have q1190 : h1087 ((h 61 1) + 5) 2 = h ((h 61 1) + 5) 2 := jK 0 f1089 (rg_T5_2_0_1 t1068) (by first | decide | omega) (by first | decide | omega) (by decide)
      have b1191 := jB (e := 2) 0 hJ (rg_T5_2_0_1 t1068) (by first | decide | omega) (by first | decide | omega)
      have e1192 : rv h1087 4 = (h ((h 61 1) + 5) 2) := (congrArg (fun z => svq h1087 z 4) q1189).trans q1190
      have q1193 : h1147 61 1 = h1087 61 1 := f1149 61 1 (by decide +kernel)
      have q1194 : h1087 61 1 = h 61 1 := f1089 61 1 (by decide +kernel)
      have b1195 := jB (e := 2) 0 j1148 (rg_T5_2_0_1 t1068) (by first | decide | omega) (by first | decide | omega)
      have e1196 : rv h1147 4 = (h1147 ((h 61 1) + 5) 2) := (congrArg (fun z => svq h1147 z 4) (q1193.trans q1194)).trans rfl
      have q1197 : h1087 61 1 = h 61 1 := f1089 61 1 (by decide +kernel)
      have q1198 : h1087 ((h 61 1) + 7) 2 = h ((h 61 1) + 7) 2 := jK 0 f1089 (rg_T7_2_0_1 t1068) (by first | decide | omega) (by first | decide | omega) (by decide)
      have b1199 := jB (e := 2) 0 hJ (rg_T7_2_0_1 t1068) (by first | decide | omega) (by first | decide | omega)
      have e1200 : rv h1087 5 = (h ((h 61 1) + 7) 2) := (congrArg (fun z => svq h1087 z 5) q1197).trans q1198
      have q1201 : h1147 61 1 = h1087 61 1 := f1149 61 1 (by decide +kernel)
      have q1202 : h1087 61 1 = h 61 1 := f1089 61 1 (by decide +kernel)
      have b1203 := jB (e := 2) 0 j1148 (rg_T7_2_0_1 t1068) (by first | decide | omega) (by first | decide | omega)
      have e1204 : rv h1147 5 = (h1147 ((h 61 1) + 7) 2) := (congrArg (fun z => svq h1147 z 5) (q1201.trans q1202)).trans rfl
      have q1205 : h1087 61 1 = h 61 1 := f1089 61 1 (by decide +kernel)
      refine x_ifz (k := 0) (tg := 98) (np := 94) (by decide +kernel) (by decide) l1144 (fun q1206 => ?_) (fun q1207 => ?_)
      · have q1206 : v1143 = 2147483648 := q1206
        refine x_const (np := 99) (x := 9223372039002259456) (a := 2147483648) (by decide +kernel) (by decide) (by decide) ?_
        have e1208 : rv h 0 = (h (h 61 1) 7) := (congrArg (fun z => svq h z 0) rfl).trans rfl
        have q1209 : h1147 61 1 = h1087 61 1 := f1149 61 1 (by decide +kernel)
        have q1210 : h1087 61 1 = h 61 1 := f1089 61 1 (by decide +kernel)
        have e1211 : rv h 1 = (h (h 61 1) 8) := (congrArg (fun z => svq h z 1) rfl).trans rfl
        have q1212 : h1147 61 1 = h1087 61 1 := f1149 61 1 (by decide +kernel)
        have q1213 : h1087 61 1 = h 61 1 := f1089 61 1 (by decide +kernel)
        have q1214 : h1147 61 1 = h1087 61 1 := f1149 61 1 (by decide +kernel)
        have q1215 : h1087 61 1 = h 61 1 := f1089 61 1 (by decide +kernel)
        have q1216 : h1147 61 1 = h1087 61 1 := f1149 61 1 (by decide +kernel)
        have q1217 : h1087 61 1 = h 61 1 := f1089 61 1 (by decide +kernel)
        have e1218 : rv h 2 = (h ((h 61 1) + 1) 2) := (congrArg (fun z => svq h z 2) rfl).trans rfl
        have q1219 : h1147 61 1 = h1087 61 1 := f1149 61 1 (by decide +kernel)
        have q1220 : h1087 61 1 = h 61 1 := f1089 61 1 (by decide +kernel)
        have e1221 : rv h 3 = (h ((h 61 1) + 3) 2) := (congrArg (fun z => svq h z 3) rfl).trans rfl
        have q1222 : h1147 61 1 = h1087 61 1 := f1149 61 1 (by decide +kernel)
        have q1223 : h1087 61 1 = h 61 1 := f1089 61 1 (by decide +kernel)
        have e1224 : rv h 4 = (h ((h 61 1) + 5) 2) := (congrArg (fun z => svq h z 4) rfl).trans rfl
        have q1225 : h1147 61 1 = h1087 61 1 := f1149 61 1 (by decide +kernel)
        have q1226 : h1087 61 1 = h 61 1 := f1089 61 1 (by decide +kernel)
        have e1227 : rv h 5 = (h ((h 61 1) + 7) 2) := (congrArg (fun z => svq h z 5) rfl).trans rfl
        have q1228 : h1147 61 1 = h1087 61 1 := f1149 61 1 (by decide +kernel)
        have q1229 : h1087 61 1 = h 61 1 := f1089 61 1 (by decide +kernel)
        have w1230 : ¬ Wd tB tN 0 (h 1 2) := by rw [show h 1 2 = h 1 2 from rfl]; exact (Is.no c6 (by first | decide | omega))
        obtain ⟨w1231, e1232⟩ := Tk.yes c1093 (by first | decide | omega)
        have q1233 : h1087 61 1 = h 61 1 := f1089 61 1 (by decide +kernel)
        have q1234 : h1087 (h 61 1) 7 = h (h 61 1) 7 := jK 0 f1089 (rg_T0_7_0_1 t1068) (by first | decide | omega) (by first | decide | omega) (by decide)
        have k1235 : letter9 tB tN (rv h 0) (h1087 1 2) (rs v1143 (h1147 1 2)) := by rw [show rv h 0 = rv h1087 0 by first | decide | omega]; exact c1157
        have m1236 : Ot (h 61 1) h h1087 := Ot.fr Ot.refl f1089 (by decide)
        have m1237 : Ot (h 61 1) h h1147 := Ot.trans m1236 (Ot.cast c1158 q1205)
        have w1238 : ¬ Wd tB tN 0 (h 1 2) := by rw [show h 1 2 = h 1 2 from rfl]; exact (Is.no c6 (by first | decide | omega))
        obtain ⟨w1239, e1240⟩ := Tk.yes c1093 (by first | decide | omega)
        have q1241 : h1087 61 1 = h 61 1 := f1089 61 1 (by decide +kernel)
        have q1242 : h1087 (h 61 1) 7 = h (h 61 1) 7 := jK 0 f1089 (rg_T0_7_0_1 t1068) (by first | decide | omega) (by first | decide | omega) (by decide)
        have k1243 : letterF tB tN (rv h 0) (h1087 1 2) (h1147 1 2) := by rw [show rv h 0 = rv h1087 0 by first | decide | omega]; exact (c1159 (by first | decide | omega))
        refine x_retI (np := 100) (x := 0) (by decide +kernel) (by decide) (Or.inr ⟨by decide +kernel, by first | decide | omega, by first | decide | omega⟩) ⟨_, rfl, (by decide), ?_⟩
        exact ⟨j1148, f1160, (by first | decide | omega), (by first | decide | omega), (by first | decide | omega), (l9_letter w1231 rfl (by first | decide | omega) e1232 rfl k1235 (by first | decide | omega) (by first | decide | omega) (fun z => absurd z (by first | decide | omega))), m1237, (fun _ => lF_letter w1239 rfl (by first | decide | omega) e1240 rfl k1243)⟩
      have q1207 : ¬ (v1143 = 2147483648) := q1207
      have b1244 := c1154 (by first | decide | omega)
      refine x_const (np := 95) (x := 9223372043297226753) (a := 2147483649) (by decide +kernel) (by decide) (by decide) ?_
      refine x_goto (np := 98) (x := 99) (by decide +kernel) ?_
      have e1245 : rv h 0 = (h (h 61 1) 7) := (congrArg (fun z => svq h z 0) rfl).trans rfl
      have q1246 : h1147 61 1 = h1087 61 1 := f1149 61 1 (by decide +kernel)
      have q1247 : h1087 61 1 = h 61 1 := f1089 61 1 (by decide +kernel)
      have e1248 : rv h 1 = (h (h 61 1) 8) := (congrArg (fun z => svq h z 1) rfl).trans rfl
      have q1249 : h1147 61 1 = h1087 61 1 := f1149 61 1 (by decide +kernel)
      have q1250 : h1087 61 1 = h 61 1 := f1089 61 1 (by decide +kernel)
      have q1251 : h1147 61 1 = h1087 61 1 := f1149 61 1 (by decide +kernel)
      have q1252 : h1087 61 1 = h 61 1 := f1089 61 1 (by decide +kernel)
      have q1253 : h1147 61 1 = h1087 61 1 := f1149 61 1 (by decide +kernel)
      have q1254 : h1087 61 1 = h 61 1 := f1089 61 1 (by decide +kernel)
      have e1255 : rv h 2 = (h ((h 61 1) + 1) 2) := (congrArg (fun z => svq h z 2) rfl).trans rfl
      have q1256 : h1147 61 1 = h1087 61 1 := f1149 61 1 (by decide +kernel)
      have q1257 : h1087 61 1 = h 61 1 := f1089 61 1 (by decide +kernel)
      have e1258 : rv h 3 = (h ((h 61 1) + 3) 2) := (congrArg (fun z => svq h z 3) rfl).trans rfl
      have q1259 : h1147 61 1 = h1087 61 1 := f1149 61 1 (by decide +kernel)
      have q1260 : h1087 61 1 = h 61 1 := f1089 61 1 (by decide +kernel)
      have e1261 : rv h 4 = (h ((h 61 1) + 5) 2) := (congrArg (fun z => svq h z 4) rfl).trans rfl
      have q1262 : h1147 61 1 = h1087 61 1 := f1149 61 1 (by decide +kernel)
      have q1263 : h1087 61 1 = h 61 1 := f1089 61 1 (by decide +kernel)
      have e1264 : rv h 5 = (h ((h 61 1) + 7) 2) := (congrArg (fun z => svq h z 5) rfl).trans rfl
      have q1265 : h1147 61 1 = h1087 61 1 := f1149 61 1 (by decide +kernel)
      have q1266 : h1087 61 1 = h 61 1 := f1089 61 1 (by decide +kernel)
      have w1267 : ¬ Wd tB tN 0 (h 1 2) := by rw [show h 1 2 = h 1 2 from rfl]; exact (Is.no c6 (by first | decide | omega))
      obtain ⟨w1268, e1269⟩ := Tk.yes c1093 (by first | decide | omega)
      have q1270 : h1087 61 1 = h 61 1 := f1089 61 1 (by decide +kernel)
      have q1271 : h1087 (h 61 1) 7 = h (h 61 1) 7 := jK 0 f1089 (rg_T0_7_0_1 t1068) (by first | decide | omega) (by first | decide | omega) (by decide)
      have k1272 : letter9 tB tN (rv h 0) (h1087 1 2) (rs v1143 (h1147 1 2)) := by rw [show rv h 0 = rv h1087 0 by first | decide | omega]; exact c1157
      have m1273 : Ot (h 61 1) h h1087 := Ot.fr Ot.refl f1089 (by decide)
      have m1274 : Ot (h 61 1) h h1147 := Ot.trans m1273 (Ot.cast c1158 q1205)
      refine x_retI (np := 100) (x := 0) (by decide +kernel) (by decide) (Or.inr ⟨by decide +kernel, by first | decide | omega, by first | decide | omega⟩) ⟨_, rfl, (by decide), ?_⟩
      exact ⟨j1148, f1160, (by first | decide | omega), (by first | decide | omega), (by first | decide | omega), (l9_letter w1268 rfl (by first | decide | omega) e1269 rfl k1272 (by first | decide | omega) (by first | decide | omega) (fun z => ⟨rfl, by first | decide | omega, by first | decide | omega, by first | decide | omega, by first | decide | omega⟩)), m1274, (fun z => absurd z (by first | decide | omega))⟩
    have q1080 : ¬ ((2147483652 + 4 * u1075) ≤ 2147483688) := q1080
    refine x_const (np := 20) (x := 9223372043297226753) (a := 2147483649) (by decide +kernel) (by decide) (by decide) ?_
    refine x_goto (np := 23) (x := 24) (by decide +kernel) ?_
    refine x_retI (np := 25) (x := 0) (by decide +kernel) (by decide) (Or.inr ⟨by decide +kernel, by first | decide | omega, by first | decide | omega⟩) ⟨_, rfl, (by decide), ?_⟩
    refine x_ifz (k := 1) (tg := 98) (np := 75) (by decide +kernel) (by decide) (by decide) (fun q1275 => ?_) (fun q1276 => ?_)
    · have q1275 : 2147483649 ≠ 2147483648 := q1275
      refine x_const (np := 99) (x := 9223372039002259456) (a := 2147483648) (by decide +kernel) (by decide) (by decide) ?_
      have b1277 := jB (e := 7) 0 hJ (rg_T0_7_0_1 t1068) (by first | decide | omega) (by first | decide | omega)
      have e1278 : rv h 0 = (h (h 61 1) 7) := (congrArg (fun z => svq h z 0) rfl).trans rfl
      have e1279 : rv h 1 = (h (h 61 1) 8) := (congrArg (fun z => svq h z 1) rfl).trans rfl
      have b1280 := jB (e := 2) 0 hJ (rg_T1_2_0_1 t1068) (by first | decide | omega) (by first | decide | omega)
      have e1281 : rv h 2 = (h ((h 61 1) + 1) 2) := (congrArg (fun z => svq h z 2) rfl).trans rfl
      have e1282 : rv h 3 = (h ((h 61 1) + 3) 2) := (congrArg (fun z => svq h z 3) rfl).trans rfl
      have b1283 := jB (e := 2) 0 hJ (rg_T5_2_0_1 t1068) (by first | decide | omega) (by first | decide | omega)
      have e1284 : rv h 4 = (h ((h 61 1) + 5) 2) := (congrArg (fun z => svq h z 4) rfl).trans rfl
      have b1285 := jB (e := 2) 0 hJ (rg_T7_2_0_1 t1068) (by first | decide | omega) (by first | decide | omega)
      have e1286 : rv h 5 = (h ((h 61 1) + 7) 2) := (congrArg (fun z => svq h z 5) rfl).trans rfl
      have w1287 : ¬ Wd tB tN 0 (h 1 2) := by rw [show h 1 2 = h 1 2 from rfl]; exact (Is.no c6 (by first | decide | omega))
      have w1288 : ¬ Wd tB tN 0 (h 1 2) := by rw [show h 1 2 = h 1 2 from rfl]; exact (Is.no c6 (by first | decide | omega))
      refine x_retI (np := 100) (x := 0) (by decide +kernel) (by decide) (Or.inr ⟨by decide +kernel, by first | decide | omega, by first | decide | omega⟩) ⟨_, rfl, (by decide), ?_⟩
      exact ⟨hJ, hF, (by first | decide | omega), (by first | decide | omega), (by first | decide | omega), (l9_letter0 (Is.yes c16 (by first | decide | omega)) rfl (by first | decide | omega) (by first | decide | omega)), Ot.refl, (fun _ => lF_letter0 (Is.yes c16 (by first | decide | omega)) rfl (by first | decide | omega) rfl)⟩
    have q1276 : ¬ (2147483649 ≠ 2147483648) := q1276
    exfalso; omega
  have q10 : ¬ (v2 = 2147483648) := q10
  have b1289 := c5 (by first | decide | omega)
  refine x_aload (np := 13) (x := 0) (by decide +kernel) rfl (x_nc_le (by decide)) ?_
  have t1290 : tw (h 61 1) := hJ.2.2.2.2.1
  refine x_getR (np := 16) (x := 577) (f := 1) (q := (h 61 1)) (by decide +kernel) (by decide) (by decide +kernel) rfl ?_
  have q1291 : h (h 61 1) 0 = ((h 61 1) + 1) := tf_0_0 hJ t1290
  refine x_getR (np := 19) (x := 512) (f := 0) (q := ((h 61 1) + 1)) (by decide +kernel) (by decide) (tg_0_512_0_1 t1290) q1291 ?_
  refine x_nI (t := 6) (mj := 66) (n := 1) (rc := 7) (ml := 1) (nr := 0) (np := 22) (as := [x_r ((h 61 1) + 1)]) (rest := []) (lo1 := [x_r ((h 61 1) + 1)]) (by decide +kernel) (by decide) (by decide +kernel) (x_rb_of (tr_1_7 t1290)) rfl rfl (x_wr (tn_1 t1290) x_wn) x_wn (by decide) rfl ?_
  refine x_aload (np := 1) (x := 0) (by decide +kernel) rfl (x_nc_le (tn_1 t1290)) ?_
  have b1292 := jB (e := 2) 0 hJ (rg_T1_2_0_1 t1290) (by first | decide | omega) (by first | decide | omega)
  refine x_getC (np := 4) (x := 386) (f := 2) (q := (h ((h 61 1) + 1) 2)) (by decide +kernel) (by decide) (tg_1_386_2_0 t1290) rfl (fun l1293 => ?_)
  refine x_const (np := 5) (x := 9223372043297226753) (a := 2147483649) (by decide +kernel) (by decide) (by decide) ?_
  refine x_iadd (np := 6) (x := 0) (v := (1 + (h ((h 61 1) + 1) 2))) (by decide +kernel) l1293 (by decide) (by first | decide | omega) (by first | decide | omega) ?_
  refine x_aload (np := 7) (x := 0) (by decide +kernel) rfl (x_nc_le (tn_1 t1290)) ?_
  have b1294 := jB (e := 0) 0 hJ (rg_T1_0_0_1 t1290) (by first | decide | omega) (by first | decide | omega)
  have q1295 : (h ((h 61 1) + 1) 0) = 2147483655 := by first | decide | omega
  refine x_getC (np := 10) (x := 384) (f := 0) (q := 2147483655) (by decide +kernel) (by decide) (tg_1_384_0_0 t1290) q1295 (fun l1296 => ?_)
  obtain ⟨u1297, q1298⟩ : ∃ z, (h ((h 61 1) + 1) 2) = 2147483648 + z := ⟨(h ((h 61 1) + 1) 2) - 2147483648, by first | decide | omega⟩
  refine x_imul (np := 11) (x := 0) (i := (1 + u1297)) (j := 7) (v := (2147483655 + 7 * u1297)) (by decide +kernel) (by first | decide | omega) (by first | decide | omega) (by first | decide | omega) (by first | decide | omega) (by first | decide | omega) (by decide) ?_
  refine x_aload (np := 12) (x := 0) (by decide +kernel) rfl (x_nc_le (tn_1 t1290)) ?_
  have q1300 : h ((h 61 1) + 1) 1 = ((h 61 1) + 2) := tf_1_1 hJ t1290
  refine x_getR (np := 15) (x := 385) (f := 1) (q := ((h 61 1) + 2)) (by decide +kernel) (by decide) (tg_1_385_1_1 t1290) q1300 ?_
  refine x_alen (np := 16) (x := 0) (n := 140) (by decide +kernel) (tn_2 t1290) (tl_2 t1290).1 (tl_2 t1290).2 (by decide) ?_
  show X _ _ _ _ _ _ _ _ [iv_c 2147483788, iv_c (2147483655 + 7 * u1297)] _
  refine x_icmp (k := 5) (tg := 23) (np := 19) (by decide +kernel) (by decide) (by first | decide | omega) (by decide) (fun q1301 => ?_) (fun q1302 => ?_)
  · have q1301 : (2147483655 + 7 * u1297) ≤ 2147483788 := q1301
    refine x_const (np := 24) (x := 9223372039002259456) (a := 2147483648) (by decide +kernel) (by decide) (by decide) ?_
    refine x_retI (np := 25) (x := 0) (by decide +kernel) (by decide) (Or.inr ⟨by decide +kernel, by first | decide | omega, by first | decide | omega⟩) ⟨_, rfl, (by decide), ?_⟩
    refine x_ifz (k := 1) (tg := 48) (np := 25) (by decide +kernel) (by decide) (by decide) (fun q1303 => ?_) (fun q1304 => ?_)
    · have q1303 : 2147483648 ≠ 2147483648 := q1303
      exfalso; omega
    have q1304 : ¬ (2147483648 ≠ 2147483648) := q1304
    refine x_aload (np := 26) (x := 0) (by decide +kernel) rfl (x_nc_le (by decide)) ?_
    have q1305 : h 61 0 = 1 := by have z := jB (e := 0) 0 hJ rg_61_0_0_1 (by decide) (by decide); omega
    refine x_getR (np := 29) (x := 576) (f := 0) (q := 1) (by decide +kernel) (by decide) (by decide +kernel) q1305 ?_
    refine x_ldcB (i := 0) (idx := 35) (tx := "lend") (by rw [tb_y93]; exact List.mem_of_getElem? (i := 0) rfl) (by decide) (by rw [tb_b93]; decide +kernel) ?_
    refine x_cI (t := 6) (mj := 78) (n := 2) (rc := 8) (ml := 2) (nr := 0) (np := 34) (as := [x_r 1, x_b (0 + 1)]) (rest := []) (lo1 := [x_r 1, x_b (0 + 1)]) (by decide +kernel) (by decide) (by decide +kernel) (x_rb_of (by decide +kernel)) rfl rfl (x_wr (by decide) (x_wB (by decide) x_wn)) x_wn (by decide) rfl (c78_1_S0 hJ  (by decide) hT) (fun v1306 h1309 l1307 q1308 => ?_)
    obtain ⟨j1310, f1311, b1312, c1313, c1314, c1315⟩ := q1308
    have f1316 := Fr.trans hF f1311 (by decide)
    have b1317 := jB (e := 2) 0 j1310 rg_1_2_0_1 (by first | decide | omega) (by first | decide | omega)
    have b1318 : iv_tl 0 = 4 := by decide
    refine x_ifz (k := 0) (tg := 48) (np := 37) (by decide +kernel) (by decide) l1307 (fun q1319 => ?_) (fun q1320 => ?_)
    · have q1319 : v1306 = 2147483648 := q1319
      have b1321 := c1314 (by first | decide | omega)
      refine x_const (np := 49) (x := 9223372039002259456) (a := 2147483648) (by decide +kernel) (by decide) (by decide) ?_
      have b1322 := jB (e := 7) 0 hJ (rg_T0_7_0_1 t1290) (by first | decide | omega) (by first | decide | omega)
      have e1323 : rv h 0 = (h (h 61 1) 7) := (congrArg (fun z => svq h z 0) rfl).trans rfl
      have q1324 : h1309 61 1 = h 61 1 := f1311 61 1 (by decide +kernel)
      have q1325 : h1309 (h 61 1) 7 = h (h 61 1) 7 := jK 0 f1311 (rg_T0_7_0_1 t1290) (by first | decide | omega) (by first | decide | omega) (by decide)
      have e1326 : rv h1309 0 = (h (h 61 1) 7) := (congrArg (fun z => svq h1309 z 0) q1324).trans q1325
      have e1327 : rv h 1 = (h (h 61 1) 8) := (congrArg (fun z => svq h z 1) rfl).trans rfl
      have q1328 : h1309 61 1 = h 61 1 := f1311 61 1 (by decide +kernel)
      have q1329 : h1309 (h 61 1) 8 = h (h 61 1) 8 := jK 0 f1311 (rg_T0_8_0_1 t1290) (by first | decide | omega) (by first | decide | omega) (by decide)
      have e1330 : rv h1309 1 = (h (h 61 1) 8) := (congrArg (fun z => svq h1309 z 1) q1328).trans q1329
      have q1331 : h1309 61 1 = h 61 1 := f1311 61 1 (by decide +kernel)
      have q1332 : h1309 (h 61 1) 7 = h (h 61 1) 7 := jK 0 f1311 (rg_T0_7_0_1 t1290) (by first | decide | omega) (by first | decide | omega) (by decide)
      have q1333 : h1309 61 1 = h 61 1 := f1311 61 1 (by decide +kernel)
      have q1334 : h1309 (h 61 1) 8 = h (h 61 1) 8 := jK 0 f1311 (rg_T0_8_0_1 t1290) (by first | decide | omega) (by first | decide | omega) (by decide)
      have e1335 : rv h 2 = (h ((h 61 1) + 1) 2) := (congrArg (fun z => svq h z 2) rfl).trans rfl
      have q1336 : h1309 61 1 = h 61 1 := f1311 61 1 (by decide +kernel)
      have q1337 : h1309 ((h 61 1) + 1) 2 = h ((h 61 1) + 1) 2 := jK 0 f1311 (rg_T1_2_0_1 t1290) (by first | decide | omega) (by first | decide | omega) (by decide)
      have e1338 : rv h1309 2 = (h ((h 61 1) + 1) 2) := (congrArg (fun z => svq h1309 z 2) q1336).trans q1337
      have b1339 := jB (e := 2) 0 hJ (rg_T3_2_0_1 t1290) (by first | decide | omega) (by first | decide | omega)
      have e1340 : rv h 3 = (h ((h 61 1) + 3) 2) := (congrArg (fun z => svq h z 3) rfl).trans rfl
      have q1341 : h1309 61 1 = h 61 1 := f1311 61 1 (by decide +kernel)
      have q1342 : h1309 ((h 61 1) + 3) 2 = h ((h 61 1) + 3) 2 := jK 0 f1311 (rg_T3_2_0_1 t1290) (by first | decide | omega) (by first | decide | omega) (by decide)
      have e1343 : rv h1309 3 = (h ((h 61 1) + 3) 2) := (congrArg (fun z => svq h1309 z 3) q1341).trans q1342
      have b1344 := jB (e := 2) 0 hJ (rg_T5_2_0_1 t1290) (by first | decide | omega) (by first | decide | omega)
      have e1345 : rv h 4 = (h ((h 61 1) + 5) 2) := (congrArg (fun z => svq h z 4) rfl).trans rfl
      have q1346 : h1309 61 1 = h 61 1 := f1311 61 1 (by decide +kernel)
      have q1347 : h1309 ((h 61 1) + 5) 2 = h ((h 61 1) + 5) 2 := jK 0 f1311 (rg_T5_2_0_1 t1290) (by first | decide | omega) (by first | decide | omega) (by decide)
      have e1348 : rv h1309 4 = (h ((h 61 1) + 5) 2) := (congrArg (fun z => svq h1309 z 4) q1346).trans q1347
      have b1349 := jB (e := 2) 0 hJ (rg_T7_2_0_1 t1290) (by first | decide | omega) (by first | decide | omega)
      have e1350 : rv h 5 = (h ((h 61 1) + 7) 2) := (congrArg (fun z => svq h z 5) rfl).trans rfl
      have q1351 : h1309 61 1 = h 61 1 := f1311 61 1 (by decide +kernel)
      have q1352 : h1309 ((h 61 1) + 7) 2 = h ((h 61 1) + 7) 2 := jK 0 f1311 (rg_T7_2_0_1 t1290) (by first | decide | omega) (by first | decide | omega) (by decide)
      have e1353 : rv h1309 5 = (h ((h 61 1) + 7) 2) := (congrArg (fun z => svq h1309 z 5) q1351).trans q1352
      obtain ⟨w1354, e1355⟩ := Tk.no c1315 (by first | decide | omega)
      have m1356 : Ot (h 61 1) h h1309 := Ot.fr Ot.refl f1311 (by decide)
      obtain ⟨w1357, e1358⟩ := Tk.no c1315 (by first | decide | omega)
      refine x_retI (np := 50) (x := 0) (by decide +kernel) (by decide) (Or.inr ⟨by decide +kernel, by first | decide | omega, by first | decide | omega⟩) ⟨_, rfl, (by decide), ?_⟩
      exact ⟨j1310, f1316, (by first | decide | omega), (by first | decide | omega), (by first | decide | omega), (absurd (Is.yes c6 (by first | decide | omega)) w1354), m1356, (fun _ => absurd (Is.yes c6 (by first | decide | omega)) w1357)⟩
    have q1320 : ¬ (v1306 = 2147483648) := q1320
    have b1359 := c1313 (by first | decide | omega)
    refine x_aload (np := 38) (x := 0) (by decide +kernel) rfl (x_nc_le (by decide)) ?_
    have q1360 : h1309 61 1 = h 61 1 := f1311 61 1 (by decide +kernel)
    have q1361 : h1309 ((h 61 1) + 1) 2 = h ((h 61 1) + 1) 2 := jK 0 f1311 (rg_T1_2_0_1 t1290) (by first | decide | omega) (by first | decide | omega) (by decide)
    have e1362 : rv h1309 2 = (h ((h 61 1) + 1) 2) := (congrArg (fun z => svq h1309 z 2) q1360).trans q1361
    have m1366 := Tp.fr hT f1311 (by decide) (by decide)
    refine x_cI (t := 6) (mj := 94) (n := 1) (rc := 10) (ml := 2) (nr := 0) (np := 41) (as := [x_r 61]) (rest := []) (lo1 := [x_r 61, 147573952589676412928]) (by decide +kernel) (by decide) (by decide +kernel) (x_rb_of (by decide +kernel)) rfl rfl (x_wr (by decide) x_wn) x_wn (by decide) rfl (c94_61 j1310  (by first | decide | omega) m1366) (fun v1363 h1367 l1364 q1365 => ?_)
    obtain ⟨j1368, f1369, b1370, c1371, c1372, c1373, c1374, c1375, c1376, c1377, c1378, c1379⟩ := q1365
    have f1380 := Fr.trans f1316 f1369 (by decide)
    have q1381 : h1309 61 1 = h 61 1 := f1311 61 1 (by decide +kernel)
    have q1382 : h1309 (h 61 1) 7 = h (h 61 1) 7 := jK 0 f1311 (rg_T0_7_0_1 t1290) (by first | decide | omega) (by first | decide | omega) (by decide)
    have b1383 := jB (e := 7) 0 hJ (rg_T0_7_0_1 t1290) (by first | decide | omega) (by first | decide | omega)
    have e1384 : rv h1309 0 = (h (h 61 1) 7) := (congrArg (fun z => svq h1309 z 0) q1381).trans q1382
    have q1385 : h1367 61 1 = h1309 61 1 := f1369 61 1 (by decide +kernel)
    have q1386 : h1309 61 1 = h 61 1 := f1311 61 1 (by decide +kernel)
    have b1387 := jB (e := 7) 0 j1368 (rg_T0_7_0_1 t1290) (by first | decide | omega) (by first | decide | omega)
    have e1388 : rv h1367 0 = (h1367 (h 61 1) 7) := (congrArg (fun z => svq h1367 z 0) (q1385.trans q1386)).trans rfl
    have q1389 : h1309 61 1 = h 61 1 := f1311 61 1 (by decide +kernel)
    have q1390 : h1309 (h 61 1) 8 = h (h 61 1) 8 := jK 0 f1311 (rg_T0_8_0_1 t1290) (by first | decide | omega) (by first | decide | omega) (by decide)
    have e1391 : rv h1309 1 = (h (h 61 1) 8) := (congrArg (fun z => svq h1309 z 1) q1389).trans q1390
    have q1392 : h1367 61 1 = h1309 61 1 := f1369 61 1 (by decide +kernel)
    have q1393 : h1309 61 1 = h 61 1 := f1311 61 1 (by decide +kernel)
    have e1394 : rv h1367 1 = (h1367 (h 61 1) 8) := (congrArg (fun z => svq h1367 z 1) (q1392.trans q1393)).trans rfl
    have q1395 : h1309 61 1 = h 61 1 := f1311 61 1 (by decide +kernel)
    have q1396 : h1309 ((h 61 1) + 1) 2 = h ((h 61 1) + 1) 2 := jK 0 f1311 (rg_T1_2_0_1 t1290) (by first | decide | omega) (by first | decide | omega) (by decide)
    have q1397 : h1367 61 1 = h1309 61 1 := f1369 61 1 (by decide +kernel)
    have q1398 : h1309 61 1 = h 61 1 := f1311 61 1 (by decide +kernel)
    have b1399 := jB (e := 2) 0 j1368 (rg_T1_2_0_1 t1290) (by first | decide | omega) (by first | decide | omega)
    have e1400 : rv h1367 2 = (h1367 ((h 61 1) + 1) 2) := (congrArg (fun z => svq h1367 z 2) (q1397.trans q1398)).trans rfl
    have q1401 : h1309 61 1 = h 61 1 := f1311 61 1 (by decide +kernel)
    have q1402 : h1309 ((h 61 1) + 3) 2 = h ((h 61 1) + 3) 2 := jK 0 f1311 (rg_T3_2_0_1 t1290) (by first | decide | omega) (by first | decide | omega) (by decide)
    have b1403 := jB (e := 2) 0 hJ (rg_T3_2_0_1 t1290) (by first | decide | omega) (by first | decide | omega)
    have e1404 : rv h1309 3 = (h ((h 61 1) + 3) 2) := (congrArg (fun z => svq h1309 z 3) q1401).trans q1402
    have q1405 : h1367 61 1 = h1309 61 1 := f1369 61 1 (by decide +kernel)
    have q1406 : h1309 61 1 = h 61 1 := f1311 61 1 (by decide +kernel)
    have b1407 := jB (e := 2) 0 j1368 (rg_T3_2_0_1 t1290) (by first | decide | omega) (by first | decide | omega)
    have e1408 : rv h1367 3 = (h1367 ((h 61 1) + 3) 2) := (congrArg (fun z => svq h1367 z 3) (q1405.trans q1406)).trans rfl
    have q1409 : h1309 61 1 = h 61 1 := f1311 61 1 (by decide +kernel)
    have q1410 : h1309 ((h 61 1) + 5) 2 = h ((h 61 1) + 5) 2 := jK 0 f1311 (rg_T5_2_0_1 t1290) (by first | decide | omega) (by first | decide | omega) (by decide)
    have b1411 := jB (e := 2) 0 hJ (rg_T5_2_0_1 t1290) (by first | decide | omega) (by first | decide | omega)
    have e1412 : rv h1309 4 = (h ((h 61 1) + 5) 2) := (congrArg (fun z => svq h1309 z 4) q1409).trans q1410
    have q1413 : h1367 61 1 = h1309 61 1 := f1369 61 1 (by decide +kernel)
    have q1414 : h1309 61 1 = h 61 1 := f1311 61 1 (by decide +kernel)
    have b1415 := jB (e := 2) 0 j1368 (rg_T5_2_0_1 t1290) (by first | decide | omega) (by first | decide | omega)
    have e1416 : rv h1367 4 = (h1367 ((h 61 1) + 5) 2) := (congrArg (fun z => svq h1367 z 4) (q1413.trans q1414)).trans rfl
    have q1417 : h1309 61 1 = h 61 1 := f1311 61 1 (by decide +kernel)
    have q1418 : h1309 ((h 61 1) + 7) 2 = h ((h 61 1) + 7) 2 := jK 0 f1311 (rg_T7_2_0_1 t1290) (by first | decide | omega) (by first | decide | omega) (by decide)
    have b1419 := jB (e := 2) 0 hJ (rg_T7_2_0_1 t1290) (by first | decide | omega) (by first | decide | omega)
    have e1420 : rv h1309 5 = (h ((h 61 1) + 7) 2) := (congrArg (fun z => svq h1309 z 5) q1417).trans q1418
    have q1421 : h1367 61 1 = h1309 61 1 := f1369 61 1 (by decide +kernel)
    have q1422 : h1309 61 1 = h 61 1 := f1311 61 1 (by decide +kernel)
    have b1423 := jB (e := 2) 0 j1368 (rg_T7_2_0_1 t1290) (by first | decide | omega) (by first | decide | omega)
    have e1424 : rv h1367 5 = (h1367 ((h 61 1) + 7) 2) := (congrArg (fun z => svq h1367 z 5) (q1421.trans q1422)).trans rfl
    have q1425 : h1309 61 1 = h 61 1 := f1311 61 1 (by decide +kernel)
    refine x_ifz (k := 0) (tg := 48) (np := 44) (by decide +kernel) (by decide) l1364 (fun q1426 => ?_) (fun q1427 => ?_)
    · have q1426 : v1363 = 2147483648 := q1426
      refine x_const (np := 49) (x := 9223372039002259456) (a := 2147483648) (by decide +kernel) (by decide) (by decide) ?_
      have e1428 : rv h 0 = (h (h 61 1) 7) := (congrArg (fun z => svq h z 0) rfl).trans rfl
      have q1429 : h1367 61 1 = h1309 61 1 := f1369 61 1 (by decide +kernel)
      have q1430 : h1309 61 1 = h 61 1 := f1311 61 1 (by decide +kernel)
      have e1431 : rv h 1 = (h (h 61 1) 8) := (congrArg (fun z => svq h z 1) rfl).trans rfl
      have q1432 : h1367 61 1 = h1309 61 1 := f1369 61 1 (by decide +kernel)
      have q1433 : h1309 61 1 = h 61 1 := f1311 61 1 (by decide +kernel)
      have q1434 : h1367 61 1 = h1309 61 1 := f1369 61 1 (by decide +kernel)
      have q1435 : h1309 61 1 = h 61 1 := f1311 61 1 (by decide +kernel)
      have q1436 : h1367 61 1 = h1309 61 1 := f1369 61 1 (by decide +kernel)
      have q1437 : h1309 61 1 = h 61 1 := f1311 61 1 (by decide +kernel)
      have e1438 : rv h 2 = (h ((h 61 1) + 1) 2) := (congrArg (fun z => svq h z 2) rfl).trans rfl
      have q1439 : h1367 61 1 = h1309 61 1 := f1369 61 1 (by decide +kernel)
      have q1440 : h1309 61 1 = h 61 1 := f1311 61 1 (by decide +kernel)
      have e1441 : rv h 3 = (h ((h 61 1) + 3) 2) := (congrArg (fun z => svq h z 3) rfl).trans rfl
      have q1442 : h1367 61 1 = h1309 61 1 := f1369 61 1 (by decide +kernel)
      have q1443 : h1309 61 1 = h 61 1 := f1311 61 1 (by decide +kernel)
      have e1444 : rv h 4 = (h ((h 61 1) + 5) 2) := (congrArg (fun z => svq h z 4) rfl).trans rfl
      have q1445 : h1367 61 1 = h1309 61 1 := f1369 61 1 (by decide +kernel)
      have q1446 : h1309 61 1 = h 61 1 := f1311 61 1 (by decide +kernel)
      have e1447 : rv h 5 = (h ((h 61 1) + 7) 2) := (congrArg (fun z => svq h z 5) rfl).trans rfl
      have q1448 : h1367 61 1 = h1309 61 1 := f1369 61 1 (by decide +kernel)
      have q1449 : h1309 61 1 = h 61 1 := f1311 61 1 (by decide +kernel)
      obtain ⟨w1450, e1451⟩ := Tk.yes c1315 (by first | decide | omega)
      have q1452 : h1309 61 1 = h 61 1 := f1311 61 1 (by decide +kernel)
      have q1453 : h1309 (h 61 1) 7 = h (h 61 1) 7 := jK 0 f1311 (rg_T0_7_0_1 t1290) (by first | decide | omega) (by first | decide | omega) (by decide)
      have k1454 : loan9 tB tN (rv h 0) (h1309 1 2) (rs v1363 (h1367 1 2)) := by rw [show rv h 0 = rv h1309 0 by first | decide | omega]; exact c1377
      have m1455 : Ot (h 61 1) h h1309 := Ot.fr Ot.refl f1311 (by decide)
      have m1456 : Ot (h 61 1) h h1367 := Ot.trans m1455 (Ot.cast c1378 q1425)
      obtain ⟨w1457, e1458⟩ := Tk.yes c1315 (by first | decide | omega)
      have q1459 : h1309 61 1 = h 61 1 := f1311 61 1 (by decide +kernel)
      have q1460 : h1309 (h 61 1) 7 = h (h 61 1) 7 := jK 0 f1311 (rg_T0_7_0_1 t1290) (by first | decide | omega) (by first | decide | omega) (by decide)
      have k1461 : loanF tB tN (rv h 0) (h1309 1 2) (h1367 1 2) := by rw [show rv h 0 = rv h1309 0 by first | decide | omega]; exact (c1379 (by first | decide | omega))
      refine x_retI (np := 50) (x := 0) (by decide +kernel) (by decide) (Or.inr ⟨by decide +kernel, by first | decide | omega, by first | decide | omega⟩) ⟨_, rfl, (by decide), ?_⟩
      exact ⟨j1368, f1380, (by first | decide | omega), (by first | decide | omega), (by first | decide | omega), (l9_lend w1450 rfl (by first | decide | omega) e1451 rfl k1454 (by first | decide | omega) (by first | decide | omega) (fun z => absurd z (by first | decide | omega))), m1456, (fun _ => lF_lend w1457 rfl (by first | decide | omega) e1458 rfl k1461)⟩
    have q1427 : ¬ (v1363 = 2147483648) := q1427
    have b1462 := c1373 (by first | decide | omega)
    refine x_const (np := 45) (x := 9223372043297226753) (a := 2147483649) (by decide +kernel) (by decide) (by decide) ?_
    refine x_goto (np := 48) (x := 49) (by decide +kernel) ?_
    have e1463 : rv h 0 = (h (h 61 1) 7) := (congrArg (fun z => svq h z 0) rfl).trans rfl
    have q1464 : h1367 61 1 = h1309 61 1 := f1369 61 1 (by decide +kernel)
    have q1465 : h1309 61 1 = h 61 1 := f1311 61 1 (by decide +kernel)
    have e1466 : rv h 1 = (h (h 61 1) 8) := (congrArg (fun z => svq h z 1) rfl).trans rfl
    have q1467 : h1367 61 1 = h1309 61 1 := f1369 61 1 (by decide +kernel)
    have q1468 : h1309 61 1 = h 61 1 := f1311 61 1 (by decide +kernel)
    have q1469 : h1367 61 1 = h1309 61 1 := f1369 61 1 (by decide +kernel)
    have q1470 : h1309 61 1 = h 61 1 := f1311 61 1 (by decide +kernel)
    have q1471 : h1367 61 1 = h1309 61 1 := f1369 61 1 (by decide +kernel)
    have q1472 : h1309 61 1 = h 61 1 := f1311 61 1 (by decide +kernel)
    have e1473 : rv h 2 = (h ((h 61 1) + 1) 2) := (congrArg (fun z => svq h z 2) rfl).trans rfl
    have q1474 : h1367 61 1 = h1309 61 1 := f1369 61 1 (by decide +kernel)
    have q1475 : h1309 61 1 = h 61 1 := f1311 61 1 (by decide +kernel)
    have e1476 : rv h 3 = (h ((h 61 1) + 3) 2) := (congrArg (fun z => svq h z 3) rfl).trans rfl
    have q1477 : h1367 61 1 = h1309 61 1 := f1369 61 1 (by decide +kernel)
    have q1478 : h1309 61 1 = h 61 1 := f1311 61 1 (by decide +kernel)
    have e1479 : rv h 4 = (h ((h 61 1) + 5) 2) := (congrArg (fun z => svq h z 4) rfl).trans rfl
    have q1480 : h1367 61 1 = h1309 61 1 := f1369 61 1 (by decide +kernel)
    have q1481 : h1309 61 1 = h 61 1 := f1311 61 1 (by decide +kernel)
    have e1482 : rv h 5 = (h ((h 61 1) + 7) 2) := (congrArg (fun z => svq h z 5) rfl).trans rfl
    have q1483 : h1367 61 1 = h1309 61 1 := f1369 61 1 (by decide +kernel)
    have q1484 : h1309 61 1 = h 61 1 := f1311 61 1 (by decide +kernel)
    obtain ⟨w1485, e1486⟩ := Tk.yes c1315 (by first | decide | omega)
    have q1487 : h1309 61 1 = h 61 1 := f1311 61 1 (by decide +kernel)
    have q1488 : h1309 (h 61 1) 7 = h (h 61 1) 7 := jK 0 f1311 (rg_T0_7_0_1 t1290) (by first | decide | omega) (by first | decide | omega) (by decide)
    have k1489 : loan9 tB tN (rv h 0) (h1309 1 2) (rs v1363 (h1367 1 2)) := by rw [show rv h 0 = rv h1309 0 by first | decide | omega]; exact c1377
    have m1490 : Ot (h 61 1) h h1309 := Ot.fr Ot.refl f1311 (by decide)
    have m1491 : Ot (h 61 1) h h1367 := Ot.trans m1490 (Ot.cast c1378 q1425)
    refine x_retI (np := 50) (x := 0) (by decide +kernel) (by decide) (Or.inr ⟨by decide +kernel, by first | decide | omega, by first | decide | omega⟩) ⟨_, rfl, (by decide), ?_⟩
    exact ⟨j1368, f1380, (by first | decide | omega), (by first | decide | omega), (by first | decide | omega), (l9_lend w1485 rfl (by first | decide | omega) e1486 rfl k1489 (by first | decide | omega) (by first | decide | omega) (fun z => ⟨rfl, by first | decide | omega, by first | decide | omega, by first | decide | omega, by first | decide | omega⟩)), m1491, (fun z => absurd z (by first | decide | omega))⟩
  have q1302 : ¬ ((2147483655 + 7 * u1297) ≤ 2147483788) := q1302
  refine x_const (np := 20) (x := 9223372043297226753) (a := 2147483649) (by decide +kernel) (by decide) (by decide) ?_
  refine x_goto (np := 23) (x := 24) (by decide +kernel) ?_
  refine x_retI (np := 25) (x := 0) (by decide +kernel) (by decide) (Or.inr ⟨by decide +kernel, by first | decide | omega, by first | decide | omega⟩) ⟨_, rfl, (by decide), ?_⟩
  refine x_ifz (k := 1) (tg := 48) (np := 25) (by decide +kernel) (by decide) (by decide) (fun q1492 => ?_) (fun q1493 => ?_)
  · have q1492 : 2147483649 ≠ 2147483648 := q1492
    refine x_const (np := 49) (x := 9223372039002259456) (a := 2147483648) (by decide +kernel) (by decide) (by decide) ?_
    have b1494 := jB (e := 7) 0 hJ (rg_T0_7_0_1 t1290) (by first | decide | omega) (by first | decide | omega)
    have e1495 : rv h 0 = (h (h 61 1) 7) := (congrArg (fun z => svq h z 0) rfl).trans rfl
    have e1496 : rv h 1 = (h (h 61 1) 8) := (congrArg (fun z => svq h z 1) rfl).trans rfl
    have e1497 : rv h 2 = (h ((h 61 1) + 1) 2) := (congrArg (fun z => svq h z 2) rfl).trans rfl
    have b1498 := jB (e := 2) 0 hJ (rg_T3_2_0_1 t1290) (by first | decide | omega) (by first | decide | omega)
    have e1499 : rv h 3 = (h ((h 61 1) + 3) 2) := (congrArg (fun z => svq h z 3) rfl).trans rfl
    have b1500 := jB (e := 2) 0 hJ (rg_T5_2_0_1 t1290) (by first | decide | omega) (by first | decide | omega)
    have e1501 : rv h 4 = (h ((h 61 1) + 5) 2) := (congrArg (fun z => svq h z 4) rfl).trans rfl
    have b1502 := jB (e := 2) 0 hJ (rg_T7_2_0_1 t1290) (by first | decide | omega) (by first | decide | omega)
    have e1503 : rv h 5 = (h ((h 61 1) + 7) 2) := (congrArg (fun z => svq h z 5) rfl).trans rfl
    refine x_retI (np := 50) (x := 0) (by decide +kernel) (by decide) (Or.inr ⟨by decide +kernel, by first | decide | omega, by first | decide | omega⟩) ⟨_, rfl, (by decide), ?_⟩
    exact ⟨hJ, hF, (by first | decide | omega), (by first | decide | omega), (by first | decide | omega), (l9_lend0 (Is.yes c6 (by first | decide | omega)) rfl (by first | decide | omega) (by first | decide | omega)), Ot.refl, (fun _ => lF_lend0 (Is.yes c6 (by first | decide | omega)) rfl (by first | decide | omega) rfl)⟩
  have q1493 : ¬ (2147483649 ≠ 2147483648) := q1493
  exfalso; omega
set_option maxHeartbeats 0 in
/-- LentNames$Tape.isSign(C)Z -/
theorem c75_1 {sc : Nat × Nat} {d a1 : Nat} {h : xh} {tB : Nat → Nat} {tN : Nat} (hJ : J h) (ba1 : 2147483648 ≤ a1 ∧ a1 ≤ 2147483775) (hT : Tp tB tN h) : X sc 75 (d + 1) (xI fun r h' => h' = h ∧ (2147483648 ≤ r ∧ r ≤ 2147483649) ∧ (r = 2147483649 → h 1 2 + 1 ≤ 2147484048) ∧ Is (Sg tB tN a1 (h 1 2)) r) 0 0 0 [x_r 1, iv_c a1] [] h := by
  have la1 : a1 < 4294967296 := by first | decide | omega
  refine x_aload (np := 1) (x := 0) (by decide +kernel) rfl (x_nc_le (by decide)) ?_
  refine x_aload (np := 2) (x := 0) (by decide +kernel) rfl (x_nc_le (by decide)) ?_
  have b1 := jB (e := 2) 0 hJ rg_1_2_0_1 (by first | decide | omega) (by first | decide | omega)
  refine x_getC (np := 5) (x := 450) (f := 2) (q := (h 1 2)) (by decide +kernel) (by decide) (by decide +kernel) rfl (fun l2 => ?_)
  refine x_nI (t := 6) (mj := 81) (n := 2) (rc := 8) (ml := 2) (nr := 0) (np := 8) (as := [x_r 1, iv_c (h 1 2)]) (rest := []) (lo1 := [x_r 1, iv_c (h 1 2)]) (by decide +kernel) (by decide) (by decide +kernel) (x_rb_of (by decide +kernel)) rfl rfl (x_wr (by decide) (x_wi l2 x_wn)) x_wn (by decide) rfl ?_
  refine x_iload (np := 1) (x := 1) (by decide +kernel) rfl l2 ?_
  refine x_aload (np := 2) (x := 0) (by decide +kernel) rfl (x_nc_le (by decide)) ?_
  have b3 := jB (e := 1) 0 hJ rg_1_1_0_1 (by first | decide | omega) (by first | decide | omega)
  refine x_getC (np := 5) (x := 449) (f := 1) (q := (h 1 1)) (by decide +kernel) (by decide) (by decide +kernel) rfl (fun l4 => ?_)
  refine x_icmp (k := 3) (tg := 17) (np := 8) (by decide +kernel) (by decide) l2 l4 (fun q5 => ?_) (fun q6 => ?_)
  · have q5 : (h 1 1) ≤ (h 1 2) := q5
    refine x_const (np := 18) (x := 9223372034707292159) (a := 2147483647) (by decide +kernel) (by decide) (by decide) ?_
    refine x_retI (np := 19) (x := 0) (by decide +kernel) (by decide) (Or.inl (by decide +kernel)) ⟨_, rfl, (by decide), ?_⟩
    refine x_iload (np := 9) (x := 1) (by decide +kernel) rfl la1 ?_
    refine x_icmp (k := 1) (tg := 16) (np := 12) (by decide +kernel) (by decide) (by decide) la1 (fun q7 => ?_) (fun q8 => ?_)
    · have q7 : 2147483647 ≠ a1 := q7
      refine x_const (np := 17) (x := 9223372039002259456) (a := 2147483648) (by decide +kernel) (by decide) (by decide) ?_
      have z9 := hT.1
      refine x_retI (np := 18) (x := 0) (by decide +kernel) (by decide) (Or.inr ⟨by decide +kernel, by first | decide | omega, by first | decide | omega⟩) ⟨_, rfl, (by decide), ?_⟩
      exact ⟨rfl, (by first | decide | omega), (fun z => by first | decide | omega), (Is.mk0 (by first | decide | omega) (fun z => by have z1 := z.1; have z2 := z.2; omega))⟩
    have q8 : ¬ (2147483647 ≠ a1) := q8
    exfalso; omega
  have q6 : ¬ ((h 1 1) ≤ (h 1 2)) := q6
  refine x_aload (np := 9) (x := 0) (by decide +kernel) rfl (x_nc_le (by decide)) ?_
  have q10 : h 1 0 = 2 := by have z := jB (e := 0) 0 hJ rg_1_0_0_1 (by decide) (by decide); omega
  refine x_getR (np := 12) (x := 448) (f := 0) (q := 2) (by decide +kernel) (by decide) (by decide +kernel) q10 ?_
  refine x_iload (np := 13) (x := 1) (by decide +kernel) rfl l2 ?_
  obtain ⟨u11, q12⟩ : ∃ z, (h 1 2) = 2147483648 + z := ⟨(h 1 2) - 2147483648, by first | decide | omega⟩
  refine x_aldC (np := 14) (x := 0) (n := 400) (i := u11) (q := (h 2 u11)) (by decide +kernel) (by decide +kernel) (by first | decide | omega) (by first | decide | omega) (by decide) rfl (fun l13 => ?_)
  refine x_goto (np := 17) (x := 18) (by decide +kernel) ?_
  refine x_retI (np := 19) (x := 0) (by decide +kernel) l13 (Or.inl (by decide +kernel)) ⟨_, rfl, l13, ?_⟩
  refine x_iload (np := 9) (x := 1) (by decide +kernel) rfl la1 ?_
  refine x_icmp (k := 1) (tg := 16) (np := 12) (by decide +kernel) (by decide) l13 la1 (fun q14 => ?_) (fun q15 => ?_)
  · have q14 : (h 2 u11) ≠ a1 := q14
    refine x_const (np := 17) (x := 9223372039002259456) (a := 2147483648) (by decide +kernel) (by decide) (by decide) ?_
    have z16 := hT.1
    have z17 := Tp.at (p := (h 1 2)) (u := u11) hT (by first | decide | omega) (by first | decide | omega)
    refine x_retI (np := 18) (x := 0) (by decide +kernel) (by decide) (Or.inr ⟨by decide +kernel, by first | decide | omega, by first | decide | omega⟩) ⟨_, rfl, (by decide), ?_⟩
    exact ⟨rfl, (by first | decide | omega), (fun z => by first | decide | omega), (Is.mk0 (by first | decide | omega) (fun z => by have z1 := z.1; have z2 := z.2; omega))⟩
  have q15 : ¬ ((h 2 u11) ≠ a1) := q15
  refine x_const (np := 13) (x := 9223372043297226753) (a := 2147483649) (by decide +kernel) (by decide) (by decide) ?_
  refine x_goto (np := 16) (x := 17) (by decide +kernel) ?_
  have z18 := hT.1
  have z19 := Tp.at (p := (h 1 2)) (u := u11) hT (by first | decide | omega) (by first | decide | omega)
  refine x_retI (np := 18) (x := 0) (by decide +kernel) (by decide) (Or.inr ⟨by decide +kernel, by first | decide | omega, by first | decide | omega⟩) ⟨_, rfl, (by decide), ?_⟩
  exact ⟨rfl, (by first | decide | omega), (fun z => by first | decide | omega), (Is.mk1 (by first | decide | omega) ⟨by first | decide | omega, by first | decide | omega⟩)⟩
set_option maxHeartbeats 0 in
/-- LentNames$Tape.takesSign(C)Z -/
theorem c76_1 {sc : Nat × Nat} {d a1 : Nat} {h : xh} {tB : Nat → Nat} {tN : Nat} (hJ : J h) (ba1 : 2147483648 ≤ a1 ∧ a1 ≤ 2147483775) (hT : Tp tB tN h) : X sc 76 (d + 2) (xI fun r h' => J h' ∧ Fr 33 h h' ∧ (2147483648 ≤ r ∧ r ≤ 2147483649) ∧ (r = 2147483649 → h 1 2 + 1 ≤ h' 1 2) ∧ (r = 2147483648 → h' 1 2 = h 1 2) ∧ Tk (Sg tB tN a1 (h 1 2)) tB tN (h 1 2) 1 r (h' 1 2)) 0 0 0 [x_r 1, iv_c a1] [] h := by
  have la1 : a1 < 4294967296 := by first | decide | omega
  have hF := Fr.refl 33 h
  refine x_aload (np := 1) (x := 0) (by decide +kernel) rfl (x_nc_le (by decide)) ?_
  refine x_iload (np := 2) (x := 1) (by decide +kernel) rfl la1 ?_
  refine x_cP (t := 6) (mj := 75) (n := 2) (rc := 8) (ml := 2) (nr := 0) (np := 5) (as := [x_r 1, iv_c a1]) (rest := []) (lo1 := [x_r 1, iv_c a1]) (by decide +kernel) (by decide) (by decide +kernel) (x_rb_of (by decide +kernel)) rfl rfl (x_wr (by decide) (x_wi la1 x_wn)) x_wn (by decide) rfl (c75_1 hJ  (by first | decide | omega) hT) (fun v1 l2 q3 => ?_)
  obtain ⟨b6, c4, c5⟩ := q3
  have b7 := jB (e := 1) 0 hJ rg_1_1_0_1 (by first | decide | omega) (by first | decide | omega)
  have b8 := jB (e := 2) 0 hJ rg_1_2_0_1 (by first | decide | omega) (by first | decide | omega)
  refine x_ifz (k := 1) (tg := 10) (np := 8) (by decide +kernel) (by decide) l2 (fun q9 => ?_) (fun q10 => ?_)
  · have q9 : v1 ≠ 2147483648 := q9
    have b11 := c4 (by first | decide | omega)
    refine x_aload (np := 11) (x := 0) (by decide +kernel) rfl (x_nc_le (by decide)) ?_
    refine x_aload (np := 12) (x := 0) (by decide +kernel) rfl (x_nc_le (by decide)) ?_
    refine x_getC (np := 15) (x := 450) (f := 2) (q := (h 1 2)) (by decide +kernel) (by decide) (by decide +kernel) rfl (fun l12 => ?_)
    refine x_const (np := 16) (x := 9223372043297226753) (a := 2147483649) (by decide +kernel) (by decide) (by decide) ?_
    refine x_iadd (np := 17) (x := 0) (v := (1 + (h 1 2))) (by decide +kernel) l12 (by decide) (by first | decide | omega) (by first | decide | omega) ?_
    refine x_cV (t := 6) (mj := 80) (n := 2) (rc := 8) (ml := 2) (nr := 0) (np := 20) (as := [x_r 1, iv_c (1 + (h 1 2))]) (rest := []) (lo1 := [x_r 1, iv_c (1 + (h 1 2))]) (by decide +kernel) (by decide) (by decide +kernel) (x_rb_of (by decide +kernel)) rfl rfl (x_wr (by decide) (x_wi (by first | decide | omega) x_wn)) x_wn (by decide) rfl (c80_1 hJ  (by first | decide | omega) hT) (fun h16 q15 => ?_)
    obtain ⟨j17, f18, c21, c22⟩ := q15
    have f23 := Fr.trans hF f18 (by decide)
    have b24 := jB (e := 2) 0 j17 rg_1_2_0_1 (by first | decide | omega) (by first | decide | omega)
    refine x_const (np := 21) (x := 9223372043297226753) (a := 2147483649) (by decide +kernel) (by decide) (by decide) ?_
    refine x_retI (np := 22) (x := 0) (by decide +kernel) (by decide) (Or.inr ⟨by decide +kernel, by first | decide | omega, by first | decide | omega⟩) ⟨_, rfl, (by decide), ?_⟩
    exact ⟨j17, f23, (by first | decide | omega), (fun z => by first | decide | omega), (fun z => by first | decide | omega), (Tk.mk1 (by first | decide | omega) (Is.yes c5 (by first | decide | omega)) c22 (by first | decide | omega))⟩
  have q10 : ¬ (v1 ≠ 2147483648) := q10
  refine x_const (np := 9) (x := 9223372039002259456) (a := 2147483648) (by decide +kernel) (by decide) (by decide) ?_
  refine x_retI (np := 10) (x := 0) (by decide +kernel) (by decide) (Or.inr ⟨by decide +kernel, by first | decide | omega, by first | decide | omega⟩) ⟨_, rfl, (by decide), ?_⟩
  exact ⟨hJ, hF, (by first | decide | omega), (fun z => by first | decide | omega), (fun z => by first | decide | omega), (Tk.mk0 (by first | decide | omega) (Is.no c5 (by first | decide | omega)) rfl)⟩
set_option maxHeartbeats 0 in
/-- LentNames$TownReader.reads(LLentNames$Town;)Z -/
theorem c92_61_T0 {sc : Nat × Nat} {d ra1 : Nat} {h : xh} {tB : Nat → Nat} {tN : Nat} (hJ : J h) (ta1 : tw ra1) (hT : Tp tB tN h) : X sc 92 (d + 9) (xI fun r h' => J h' ∧ Fr 281474976727201 h h' ∧ (2147483648 ≤ r ∧ r ≤ 2147483649) ∧ (h' ra1 7 = h ra1 7) ∧ (h' ra1 8 = h ra1 8) ∧ Tt tB tN (h ra1 7) (h (ra1 + 1) 2) (h (ra1 + 3) 2) (h (ra1 + 5) 2) (h (ra1 + 7) 2) (rs4 r (h' (ra1 + 1) 2) (h' (ra1 + 3) 2) (h' (ra1 + 5) 2) (h' (ra1 + 7) 2)) ∧ Ot ra1 h h' ∧ (r = 2147483648 → TF tB tN (h ra1 7) (h (ra1 + 1) 2) (h (ra1 + 3) 2) (h (ra1 + 5) 2) (h (ra1 + 7) 2) (h' 1 2))) 0 0 0 [x_r 61, x_r ra1, 147573952589676412928] [] h := by
  have hF := Fr.refl 281474976727201 h
  refine x_aload (np := 1) (x := 0) (by decide +kernel) rfl (x_nc_le (by decide)) ?_
  refine x_aload (np := 2) (x := 1) (by decide +kernel) rfl (x_nc_le (tn_0 ta1)) ?_
  refine x_putR (np := 5) (x := 8769) (f := 1) (by decide +kernel) (by decide +kernel) (tn_0 ta1) (by decide) ?_
  have j2 := J_upW (k := 61) (i := 1) hJ ta1 (by decide)
  have f4 := Fr.up (k := 61) (i := 1) (v := ra1) hF (by decide +kernel)
  generalize e3 : x_up h 61 1 ra1 = h1 at j2 f4 ⊢
  refine x_aload (np := 6) (x := 0) (by decide +kernel) rfl (x_nc_le (by decide)) ?_
  have q5 : h1 61 0 = 1 := by have z := jB (e := 0) 0 j2 rg_61_0_0_1 (by decide) (by decide); omega
  refine x_getR (np := 9) (x := 576) (f := 0) (q := 1) (by decide +kernel) (by decide) (by decide +kernel) q5 ?_
  refine x_nV (t := 6) (mj := 73) (n := 1) (rc := 8) (ml := 1) (nr := 0) (np := 12) (as := [x_r 1]) (rest := []) (lo1 := [x_r 1]) (by decide +kernel) (by decide) (by decide +kernel) (x_rb_of (by decide +kernel)) rfl rfl (x_wr (by decide) x_wn) x_wn (by decide) rfl ?_
  refine x_aload (np := 1) (x := 0) (by decide +kernel) rfl (x_nc_le (by decide)) ?_
  refine x_const (np := 2) (x := 9223372039002259456) (a := 2147483648) (by decide +kernel) (by decide) (by decide) ?_
  have m9 : Tp tB tN h1 := by rw [← e3]; exact Tp.oth hT (by decide) (by decide)
  refine x_cV (t := 6) (mj := 80) (n := 2) (rc := 8) (ml := 2) (nr := 0) (np := 5) (as := [x_r 1, iv_c 2147483648]) (rest := []) (lo1 := [x_r 1, iv_c 2147483648]) (by decide +kernel) (by decide) (by decide +kernel) (x_rb_of (by decide +kernel)) rfl rfl (x_wr (by decide) (x_wi (by decide) x_wn)) x_wn (by decide) rfl (c80_1 j2  (by first | decide | omega) m9) (fun h10 q8 => ?_)
  obtain ⟨j11, f12, c15, c16⟩ := q8
  have f17 := Fr.trans f4 f12 (by decide)
  have b18 := jB (e := 2) 0 j11 rg_1_2_0_1 (by first | decide | omega) (by first | decide | omega)
  refine x_retV (np := 6) (x := 0) (by decide +kernel) (by decide +kernel) ⟨rfl, ?_⟩
  refine x_aload (np := 13) (x := 0) (by decide +kernel) rfl (x_nc_le (by decide)) ?_
  have q19 : h10 61 0 = 1 := by have z := jB (e := 0) 0 j11 rg_61_0_0_1 (by decide) (by decide); omega
  refine x_getR (np := 16) (x := 576) (f := 0) (q := 1) (by decide +kernel) (by decide) (by decide +kernel) q19 ?_
  refine x_nI (t := 6) (mj := 74) (n := 1) (rc := 8) (ml := 1) (nr := 0) (np := 19) (as := [x_r 1]) (rest := []) (lo1 := [x_r 1]) (by decide +kernel) (by decide) (by decide +kernel) (x_rb_of (by decide +kernel)) rfl rfl (x_wr (by decide) x_wn) x_wn (by decide) rfl ?_
  refine x_aload (np := 1) (x := 0) (by decide +kernel) rfl (x_nc_le (by decide)) ?_
  refine x_getC (np := 4) (x := 450) (f := 2) (q := (h10 1 2)) (by decide +kernel) (by decide) (by decide +kernel) rfl (fun l20 => ?_)
  refine x_aload (np := 5) (x := 0) (by decide +kernel) rfl (x_nc_le (by decide)) ?_
  have q21 : h10 1 1 = h1 1 1 := jK 0 f12 rg_1_1_0_1 (by first | decide | omega) (by first | decide | omega) (by decide)
  have q22 : h1 1 1 = h 1 1 := by rw [← e3]; exact x_up_k (by decide)
  have b23 := jB (e := 1) 0 hJ rg_1_1_0_1 (by first | decide | omega) (by first | decide | omega)
  refine x_getC (np := 8) (x := 449) (f := 1) (q := (h 1 1)) (by decide +kernel) (by decide) (by decide +kernel) (q21.trans q22) (fun l24 => ?_)
  refine x_icmp (k := 2) (tg := 15) (np := 11) (by decide +kernel) (by decide) l20 l24 (fun q25 => ?_) (fun q26 => ?_)
  · have q25 : (h10 1 2) < (h 1 1) := q25
    refine x_const (np := 16) (x := 9223372039002259456) (a := 2147483648) (by decide +kernel) (by decide) (by decide) ?_
    refine x_retI (np := 17) (x := 0) (by decide +kernel) (by decide) (Or.inr ⟨by decide +kernel, by first | decide | omega, by first | decide | omega⟩) ⟨_, rfl, (by decide), ?_⟩
    refine x_ifz (k := 0) (tg := 24) (np := 22) (by decide +kernel) (by decide) (by decide) (fun q27 => ?_) (fun q28 => ?_)
    · have q27 : 2147483648 = 2147483648 := q27
      refine x_const (np := 25) (x := 9223372039002259456) (a := 2147483648) (by decide +kernel) (by decide) (by decide) ?_
      refine x_istore (np := 26) (x := 2) (lo' := [x_r 61, x_r ra1, iv_c 2147483648]) (by decide +kernel) (by decide) (Nat.le_of_ble_eq_true rfl) rfl ?_
      have p1449 : ∀ (n : Nat) (v1444 : Nat) (h1446 : xh), 4294967296 - v1444 < n → (2147483648 ≤ v1444 ∧ v1444 ≤ 2147483662) → rv h1446 0 = h ra1 7 → rv h1446 1 = h ra1 8 → J h1446 → Fr 281474976710817 h10 h1446 → Tl tB tN (h ra1 7) (h (ra1 + 1) 2) (h (ra1 + 3) 2) (h (ra1 + 5) 2) (h (ra1 + 7) 2) (2147483662 - v1444) (rv h1446 2) (rv h1446 3) (rv h1446 4) (rv h1446 5) (h1446 1 2) → Ot ra1 h h1446 → TlF tB tN (h ra1 7) (h (ra1 + 1) 2) (h (ra1 + 3) 2) (h (ra1 + 5) 2) (h (ra1 + 7) 2) (2147483662 - v1444) (rv h1446 2) (rv h1446 3) (rv h1446 4) (rv h1446 5) (h1446 1 2) → X sc 92 (d + 9) (xI fun r h' => J h' ∧ Fr 281474976727201 h h' ∧ (2147483648 ≤ r ∧ r ≤ 2147483649) ∧ (h' ra1 7 = h ra1 7) ∧ (h' ra1 8 = h ra1 8) ∧ Tt tB tN (h ra1 7) (h (ra1 + 1) 2) (h (ra1 + 3) 2) (h (ra1 + 5) 2) (h (ra1 + 7) 2) (rs4 r (h' (ra1 + 1) 2) (h' (ra1 + 3) 2) (h' (ra1 + 5) 2) (h' (ra1 + 7) 2)) ∧ Ot ra1 h h' ∧ (r = 2147483648 → TF tB tN (h ra1 7) (h (ra1 + 1) 2) (h (ra1 + 3) 2) (h (ra1 + 5) 2) (h (ra1 + 7) 2) (h' 1 2))) 0 0 26 [x_r 61, x_r ra1, iv_c v1444] [] h1446 := by
        intro n
        induction n with
        | zero => intro v1444 h1446 q1455; exact absurd q1455 (Nat.not_lt_zero _)
        | succ n i1456 =>
          intro v1444 h1446 q1455 b1445 b1450 b1451 j1448 f1447 m1452 m1453 m1454
          have f1457 := Fr.trans f17 f1447 (by decide)
          have b1458 := jB (e := 2) 0 j1448 rg_1_2_0_1 (by first | decide | omega) (by first | decide | omega)
          have q1459 : h1446 61 1 = h10 61 1 := f1447 61 1 (by decide +kernel)
          have q1460 : h10 61 1 = h1 61 1 := f12 61 1 (by decide +kernel)
          have q1461 : h1 61 1 = ra1 := by rw [← e3]; exact x_up_at
          have b1462 := jB (e := 7) 0 j1448 (rg_T0_7_0_1 ta1) (by first | decide | omega) (by first | decide | omega)
          have e1463 : rv h1446 0 = (h1446 ra1 7) := (congrArg (fun z => svq h1446 z 0) ((q1459.trans q1460).trans q1461)).trans rfl
          have q1464 : h1446 61 1 = h10 61 1 := f1447 61 1 (by decide +kernel)
          have q1465 : h10 61 1 = h1 61 1 := f12 61 1 (by decide +kernel)
          have q1466 : h1 61 1 = ra1 := by rw [← e3]; exact x_up_at
          have e1467 : rv h1446 1 = (h1446 ra1 8) := (congrArg (fun z => svq h1446 z 1) ((q1464.trans q1465).trans q1466)).trans rfl
          have q1468 : h1446 61 1 = h10 61 1 := f1447 61 1 (by decide +kernel)
          have q1469 : h10 61 1 = h1 61 1 := f12 61 1 (by decide +kernel)
          have q1470 : h1 61 1 = ra1 := by rw [← e3]; exact x_up_at
          have b1471 := jB (e := 2) 0 j1448 (rg_T1_2_0_1 ta1) (by first | decide | omega) (by first | decide | omega)
          have e1472 : rv h1446 2 = (h1446 (ra1 + 1) 2) := (congrArg (fun z => svq h1446 z 2) ((q1468.trans q1469).trans q1470)).trans rfl
          have q1473 : h1446 61 1 = h10 61 1 := f1447 61 1 (by decide +kernel)
          have q1474 : h10 61 1 = h1 61 1 := f12 61 1 (by decide +kernel)
          have q1475 : h1 61 1 = ra1 := by rw [← e3]; exact x_up_at
          have b1476 := jB (e := 2) 0 j1448 (rg_T3_2_0_1 ta1) (by first | decide | omega) (by first | decide | omega)
          have e1477 : rv h1446 3 = (h1446 (ra1 + 3) 2) := (congrArg (fun z => svq h1446 z 3) ((q1473.trans q1474).trans q1475)).trans rfl
          have q1478 : h1446 61 1 = h10 61 1 := f1447 61 1 (by decide +kernel)
          have q1479 : h10 61 1 = h1 61 1 := f12 61 1 (by decide +kernel)
          have q1480 : h1 61 1 = ra1 := by rw [← e3]; exact x_up_at
          have b1481 := jB (e := 2) 0 j1448 (rg_T5_2_0_1 ta1) (by first | decide | omega) (by first | decide | omega)
          have e1482 : rv h1446 4 = (h1446 (ra1 + 5) 2) := (congrArg (fun z => svq h1446 z 4) ((q1478.trans q1479).trans q1480)).trans rfl
          have q1483 : h1446 61 1 = h10 61 1 := f1447 61 1 (by decide +kernel)
          have q1484 : h10 61 1 = h1 61 1 := f12 61 1 (by decide +kernel)
          have q1485 : h1 61 1 = ra1 := by rw [← e3]; exact x_up_at
          have b1486 := jB (e := 2) 0 j1448 (rg_T7_2_0_1 ta1) (by first | decide | omega) (by first | decide | omega)
          have e1487 : rv h1446 5 = (h1446 (ra1 + 7) 2) := (congrArg (fun z => svq h1446 z 5) ((q1483.trans q1484).trans q1485)).trans rfl
          have b1488 := jB (e := 7) 0 hJ (rg_T0_7_0_1 ta1) (by first | decide | omega) (by first | decide | omega)
          refine x_iload (np := 27) (x := 2) (by decide +kernel) rfl (by first | decide | omega) ?_
          refine x_const (np := 29) (x := 9223372099131801614) (a := 2147483662) (by decide +kernel) (by decide) (by decide) ?_
          refine x_icmp (k := 3) (tg := 73) (np := 32) (by decide +kernel) (by decide) (by first | decide | omega) (by decide) (fun q1489 => ?_) (fun q1490 => ?_)
          · have q1489 : 2147483662 ≤ v1444 := q1489
            refine x_const (np := 74) (x := 9223372039002259456) (a := 2147483648) (by decide +kernel) (by decide) (by decide) ?_
            have b1491 := jB (e := 2) 0 hJ (rg_T1_2_0_1 ta1) (by first | decide | omega) (by first | decide | omega)
            have b1492 := jB (e := 2) 0 hJ (rg_T3_2_0_1 ta1) (by first | decide | omega) (by first | decide | omega)
            have b1493 := jB (e := 2) 0 hJ (rg_T5_2_0_1 ta1) (by first | decide | omega) (by first | decide | omega)
            have b1494 := jB (e := 2) 0 hJ (rg_T7_2_0_1 ta1) (by first | decide | omega) (by first | decide | omega)
            refine x_retI (np := 75) (x := 0) (by decide +kernel) (by decide) (Or.inr ⟨by decide +kernel, by first | decide | omega, by first | decide | omega⟩) ⟨_, rfl, (by decide), ?_⟩
            exact ⟨j1448, f1457, (by first | decide | omega), (by first | decide | omega), (by first | decide | omega), (Tt.n0 (by first | decide | omega) (Tl.full m1452 (by first | decide | omega))), m1453, (fun _ => TlF.full m1454 (by first | decide | omega) rfl)⟩
          have q1490 : ¬ (2147483662 ≤ v1444) := q1490
          refine x_aload (np := 33) (x := 0) (by decide +kernel) rfl (x_nc_le (by decide)) ?_
          have m1499 := Tp.fr m9 f12 (by decide) (by decide)
          have m1498 := Tp.fr m1499 f1447 (by decide) (by decide)
          refine x_cI (t := 6) (mj := 93) (n := 1) (rc := 10) (ml := 1) (nr := 0) (np := 36) (as := [x_r 61]) (rest := []) (lo1 := [x_r 61]) (by decide +kernel) (by decide) (by decide +kernel) (x_rb_of (by decide +kernel)) rfl rfl (x_wr (by decide) x_wn) x_wn (by decide) rfl (c93_61 j1448  m1498) (fun v1495 h1500 l1496 q1497 => ?_)
          obtain ⟨j1501, f1502, b1503, c1504, c1505, c1506, c1507, c1508⟩ := q1497
          have f1509 := Fr.trans f1457 f1502 (by decide)
          have f1510 := Fr.trans f1447 f1502 (by decide)
          have q1511 : h1446 61 1 = h10 61 1 := f1447 61 1 (by decide +kernel)
          have q1512 : h10 61 1 = h1 61 1 := f12 61 1 (by decide +kernel)
          have q1513 : h1 61 1 = ra1 := by rw [← e3]; exact x_up_at
          have q1514 : h1500 61 1 = h1446 61 1 := f1502 61 1 (by decide +kernel)
          have q1515 : h1446 61 1 = h10 61 1 := f1447 61 1 (by decide +kernel)
          have q1516 : h10 61 1 = h1 61 1 := f12 61 1 (by decide +kernel)
          have q1517 : h1 61 1 = ra1 := by rw [← e3]; exact x_up_at
          have b1518 := jB (e := 7) 0 j1501 (rg_T0_7_0_1 ta1) (by first | decide | omega) (by first | decide | omega)
          have e1519 : rv h1500 0 = (h1500 ra1 7) := (congrArg (fun z => svq h1500 z 0) (((q1514.trans q1515).trans q1516).trans q1517)).trans rfl
          have q1520 : h1446 61 1 = h10 61 1 := f1447 61 1 (by decide +kernel)
          have q1521 : h10 61 1 = h1 61 1 := f12 61 1 (by decide +kernel)
          have q1522 : h1 61 1 = ra1 := by rw [← e3]; exact x_up_at
          have q1523 : h1500 61 1 = h1446 61 1 := f1502 61 1 (by decide +kernel)
          have q1524 : h1446 61 1 = h10 61 1 := f1447 61 1 (by decide +kernel)
          have q1525 : h10 61 1 = h1 61 1 := f12 61 1 (by decide +kernel)
          have q1526 : h1 61 1 = ra1 := by rw [← e3]; exact x_up_at
          have e1527 : rv h1500 1 = (h1500 ra1 8) := (congrArg (fun z => svq h1500 z 1) (((q1523.trans q1524).trans q1525).trans q1526)).trans rfl
          have q1528 : h1446 61 1 = h10 61 1 := f1447 61 1 (by decide +kernel)
          have q1529 : h10 61 1 = h1 61 1 := f12 61 1 (by decide +kernel)
          have q1530 : h1 61 1 = ra1 := by rw [← e3]; exact x_up_at
          refine x_ifz (k := 1) (tg := 41) (np := 39) (by decide +kernel) (by decide) l1496 (fun q1531 => ?_) (fun q1532 => ?_)
          · have q1531 : v1495 ≠ 2147483648 := q1531
            refine x_aload (np := 42) (x := 0) (by decide +kernel) rfl (x_nc_le (by decide)) ?_
            have q1533 : h1500 61 0 = 1 := by have z := jB (e := 0) 0 j1501 rg_61_0_0_1 (by decide) (by decide); omega
            refine x_getR (np := 45) (x := 576) (f := 0) (q := 1) (by decide +kernel) (by decide) (by decide +kernel) q1533 ?_
            refine x_nI (t := 6) (mj := 74) (n := 1) (rc := 8) (ml := 1) (nr := 0) (np := 48) (as := [x_r 1]) (rest := []) (lo1 := [x_r 1]) (by decide +kernel) (by decide) (by decide +kernel) (x_rb_of (by decide +kernel)) rfl rfl (x_wr (by decide) x_wn) x_wn (by decide) rfl ?_
            refine x_aload (np := 1) (x := 0) (by decide +kernel) rfl (x_nc_le (by decide)) ?_
            have b1534 := jB (e := 2) 0 j1501 rg_1_2_0_1 (by first | decide | omega) (by first | decide | omega)
            refine x_getC (np := 4) (x := 450) (f := 2) (q := (h1500 1 2)) (by decide +kernel) (by decide) (by decide +kernel) rfl (fun l1535 => ?_)
            refine x_aload (np := 5) (x := 0) (by decide +kernel) rfl (x_nc_le (by decide)) ?_
            have q1536 : h1500 1 1 = h1446 1 1 := jK 0 f1502 rg_1_1_0_1 (by first | decide | omega) (by first | decide | omega) (by decide)
            have q1537 : h1446 1 1 = h10 1 1 := jK 0 f1447 rg_1_1_0_1 (by first | decide | omega) (by first | decide | omega) (by decide)
            have q1538 : h10 1 1 = h1 1 1 := jK 0 f12 rg_1_1_0_1 (by first | decide | omega) (by first | decide | omega) (by decide)
            have q1539 : h1 1 1 = h 1 1 := by rw [← e3]; exact x_up_k (by decide)
            refine x_getC (np := 8) (x := 449) (f := 1) (q := (h 1 1)) (by decide +kernel) (by decide) (by decide +kernel) (((q1536.trans q1537).trans q1538).trans q1539) (fun l1540 => ?_)
            refine x_icmp (k := 2) (tg := 15) (np := 11) (by decide +kernel) (by decide) l1535 l24 (fun q1541 => ?_) (fun q1542 => ?_)
            · have q1541 : (h1500 1 2) < (h 1 1) := q1541
              refine x_const (np := 16) (x := 9223372039002259456) (a := 2147483648) (by decide +kernel) (by decide) (by decide) ?_
              refine x_retI (np := 17) (x := 0) (by decide +kernel) (by decide) (Or.inr ⟨by decide +kernel, by first | decide | omega, by first | decide | omega⟩) ⟨_, rfl, (by decide), ?_⟩
              refine x_ifz (k := 0) (tg := 53) (np := 51) (by decide +kernel) (by decide) (by decide) (fun q1543 => ?_) (fun q1544 => ?_)
              · have q1543 : 2147483648 = 2147483648 := q1543
                refine x_aload (np := 54) (x := 0) (by decide +kernel) rfl (x_nc_le (by decide)) ?_
                have q1545 : h1500 61 0 = 1 := by have z := jB (e := 0) 0 j1501 rg_61_0_0_1 (by decide) (by decide); omega
                refine x_getR (np := 57) (x := 576) (f := 0) (q := 1) (by decide +kernel) (by decide) (by decide +kernel) q1545 ?_
                refine x_const (np := 59) (x := 9223372292405329979) (a := 2147483707) (by decide +kernel) (by decide) (by decide) ?_
                have m1549 := Tp.fr m1498 f1502 (by decide) (by decide)
                refine x_cI (t := 6) (mj := 76) (n := 2) (rc := 8) (ml := 2) (nr := 0) (np := 62) (as := [x_r 1, iv_c 2147483707]) (rest := []) (lo1 := [x_r 1, iv_c 2147483707]) (by decide +kernel) (by decide) (by decide +kernel) (x_rb_of (by decide +kernel)) rfl rfl (x_wr (by decide) (x_wi (by decide) x_wn)) x_wn (by decide) rfl (c76_1 j1501  (by first | decide | omega) m1549) (fun v1546 h1550 l1547 q1548 => ?_)
                obtain ⟨j1551, f1552, b1553, c1554, c1555, c1556⟩ := q1548
                have f1557 := Fr.trans f1509 f1552 (by decide)
                have f1558 := Fr.trans f1510 f1552 (by decide)
                have b1559 := jB (e := 2) 0 j1551 rg_1_2_0_1 (by first | decide | omega) (by first | decide | omega)
                refine x_ifz (k := 1) (tg := 67) (np := 65) (by decide +kernel) (by decide) l1547 (fun q1560 => ?_) (fun q1561 => ?_)
                · have q1560 : v1546 ≠ 2147483648 := q1560
                  have b1562 := c1554 (by first | decide | omega)
                  refine x_iinc (np := 70) (i := 2) (j := 2147483649) (v := (1 + v1444)) (lo' := [x_r 61, x_r ra1, iv_c (1 + v1444)]) (by decide +kernel) (by decide) (by decide) rfl (by first | decide | omega) (by first | decide | omega) (by first | decide | omega) rfl ?_
                  refine x_goto (np := 73) (x := 26) (by decide +kernel) ?_
                  have q1563 : h1550 61 1 = h1500 61 1 := f1552 61 1 (by decide +kernel)
                  have q1564 : h1500 61 1 = h1446 61 1 := f1502 61 1 (by decide +kernel)
                  have q1565 : h1446 61 1 = h10 61 1 := f1447 61 1 (by decide +kernel)
                  have q1566 : h10 61 1 = h1 61 1 := f12 61 1 (by decide +kernel)
                  have q1567 : h1 61 1 = ra1 := by rw [← e3]; exact x_up_at
                  have q1568 : h1550 ra1 7 = h1500 ra1 7 := jK 0 f1552 (rg_T0_7_0_1 ta1) (by first | decide | omega) (by first | decide | omega) (by decide)
                  have e1569 : rv h1550 0 = (h1500 ra1 7) := (congrArg (fun z => svq h1550 z 0) ((((q1563.trans q1564).trans q1565).trans q1566).trans q1567)).trans q1568
                  have q1570 : h1550 61 1 = h1500 61 1 := f1552 61 1 (by decide +kernel)
                  have q1571 : h1500 61 1 = h1446 61 1 := f1502 61 1 (by decide +kernel)
                  have q1572 : h1446 61 1 = h10 61 1 := f1447 61 1 (by decide +kernel)
                  have q1573 : h10 61 1 = h1 61 1 := f12 61 1 (by decide +kernel)
                  have q1574 : h1 61 1 = ra1 := by rw [← e3]; exact x_up_at
                  have q1575 : h1550 ra1 8 = h1500 ra1 8 := jK 0 f1552 (rg_T0_8_0_1 ta1) (by first | decide | omega) (by first | decide | omega) (by decide)
                  have e1576 : rv h1550 1 = (h1500 ra1 8) := (congrArg (fun z => svq h1550 z 1) ((((q1570.trans q1571).trans q1572).trans q1573).trans q1574)).trans q1575
                  obtain ⟨w1577, e1578⟩ := Tk.yes c1556 (by first | decide | omega)
                  have q1580 : h1446 61 1 = h10 61 1 := f1447 61 1 (by decide +kernel)
                  have q1581 : h10 61 1 = h1 61 1 := f12 61 1 (by decide +kernel)
                  have q1582 : h1 61 1 = ra1 := by rw [← e3]; exact x_up_at
                  have q1583 : h1446 61 1 = h10 61 1 := f1447 61 1 (by decide +kernel)
                  have q1584 : h10 61 1 = h1 61 1 := f12 61 1 (by decide +kernel)
                  have q1585 : h1 61 1 = ra1 := by rw [← e3]; exact x_up_at
                  have q1586 : h1446 61 1 = h10 61 1 := f1447 61 1 (by decide +kernel)
                  have q1587 : h10 61 1 = h1 61 1 := f12 61 1 (by decide +kernel)
                  have q1588 : h1 61 1 = ra1 := by rw [← e3]; exact x_up_at
                  have q1589 : h1446 61 1 = h10 61 1 := f1447 61 1 (by decide +kernel)
                  have q1590 : h10 61 1 = h1 61 1 := f12 61 1 (by decide +kernel)
                  have q1591 : h1 61 1 = ra1 := by rw [← e3]; exact x_up_at
                  have q1592 : h1446 61 1 = h10 61 1 := f1447 61 1 (by decide +kernel)
                  have q1593 : h10 61 1 = h1 61 1 := f12 61 1 (by decide +kernel)
                  have q1594 : h1 61 1 = ra1 := by rw [← e3]; exact x_up_at
                  have q1595 : h1446 61 1 = h10 61 1 := f1447 61 1 (by decide +kernel)
                  have q1596 : h10 61 1 = h1 61 1 := f12 61 1 (by decide +kernel)
                  have q1597 : h1 61 1 = ra1 := by rw [← e3]; exact x_up_at
                  have q1598 : h1446 61 1 = h10 61 1 := f1447 61 1 (by decide +kernel)
                  have q1599 : h10 61 1 = h1 61 1 := f12 61 1 (by decide +kernel)
                  have q1600 : h1 61 1 = ra1 := by rw [← e3]; exact x_up_at
                  have q1601 : h1446 61 1 = h10 61 1 := f1447 61 1 (by decide +kernel)
                  have q1602 : h10 61 1 = h1 61 1 := f12 61 1 (by decide +kernel)
                  have q1603 : h1 61 1 = ra1 := by rw [← e3]; exact x_up_at
                  have q1604 : h1446 61 1 = h10 61 1 := f1447 61 1 (by decide +kernel)
                  have q1605 : h10 61 1 = h1 61 1 := f12 61 1 (by decide +kernel)
                  have q1606 : h1 61 1 = ra1 := by rw [← e3]; exact x_up_at
                  have k1579 := l9_pe (pe' := h ra1 7) (l1 := rv h1446 2) (t1 := rv h1446 3) (d1 := rv h1446 4) (s1 := rv h1446 5) c1506 (by first | decide | omega) (by first | decide | omega) (by first | decide | omega) (by first | decide | omega) (by first | decide | omega)
                  have q1608 : h1550 61 1 = h1500 61 1 := f1552 61 1 (by decide +kernel)
                  have q1609 : h1500 61 1 = h1446 61 1 := f1502 61 1 (by decide +kernel)
                  have q1610 : h1446 61 1 = h10 61 1 := f1447 61 1 (by decide +kernel)
                  have q1611 : h10 61 1 = h1 61 1 := f12 61 1 (by decide +kernel)
                  have q1612 : h1 61 1 = ra1 := by rw [← e3]; exact x_up_at
                  have q1613 : h1550 (ra1 + 1) 2 = h1500 (ra1 + 1) 2 := jK 0 f1552 (rg_T1_2_0_1 ta1) (by first | decide | omega) (by first | decide | omega) (by decide)
                  have b1614 := jB (e := 2) 0 j1501 (rg_T1_2_0_1 ta1) (by first | decide | omega) (by first | decide | omega)
                  have e1615 : rv h1550 2 = (h1500 (ra1 + 1) 2) := (congrArg (fun z => svq h1550 z 2) ((((q1608.trans q1609).trans q1610).trans q1611).trans q1612)).trans q1613
                  have q1616 : h1500 61 1 = h1446 61 1 := f1502 61 1 (by decide +kernel)
                  have q1617 : h1446 61 1 = h10 61 1 := f1447 61 1 (by decide +kernel)
                  have q1618 : h10 61 1 = h1 61 1 := f12 61 1 (by decide +kernel)
                  have q1619 : h1 61 1 = ra1 := by rw [← e3]; exact x_up_at
                  have e1620 : rv h1500 2 = (h1500 (ra1 + 1) 2) := (congrArg (fun z => svq h1500 z 2) (((q1616.trans q1617).trans q1618).trans q1619)).trans rfl
                  have q1621 : h1550 61 1 = h1500 61 1 := f1552 61 1 (by decide +kernel)
                  have q1622 : h1500 61 1 = h1446 61 1 := f1502 61 1 (by decide +kernel)
                  have q1623 : h1446 61 1 = h10 61 1 := f1447 61 1 (by decide +kernel)
                  have q1624 : h10 61 1 = h1 61 1 := f12 61 1 (by decide +kernel)
                  have q1625 : h1 61 1 = ra1 := by rw [← e3]; exact x_up_at
                  have q1626 : h1550 (ra1 + 3) 2 = h1500 (ra1 + 3) 2 := jK 0 f1552 (rg_T3_2_0_1 ta1) (by first | decide | omega) (by first | decide | omega) (by decide)
                  have b1627 := jB (e := 2) 0 j1501 (rg_T3_2_0_1 ta1) (by first | decide | omega) (by first | decide | omega)
                  have e1628 : rv h1550 3 = (h1500 (ra1 + 3) 2) := (congrArg (fun z => svq h1550 z 3) ((((q1621.trans q1622).trans q1623).trans q1624).trans q1625)).trans q1626
                  have q1629 : h1500 61 1 = h1446 61 1 := f1502 61 1 (by decide +kernel)
                  have q1630 : h1446 61 1 = h10 61 1 := f1447 61 1 (by decide +kernel)
                  have q1631 : h10 61 1 = h1 61 1 := f12 61 1 (by decide +kernel)
                  have q1632 : h1 61 1 = ra1 := by rw [← e3]; exact x_up_at
                  have e1633 : rv h1500 3 = (h1500 (ra1 + 3) 2) := (congrArg (fun z => svq h1500 z 3) (((q1629.trans q1630).trans q1631).trans q1632)).trans rfl
                  have q1634 : h1550 61 1 = h1500 61 1 := f1552 61 1 (by decide +kernel)
                  have q1635 : h1500 61 1 = h1446 61 1 := f1502 61 1 (by decide +kernel)
                  have q1636 : h1446 61 1 = h10 61 1 := f1447 61 1 (by decide +kernel)
                  have q1637 : h10 61 1 = h1 61 1 := f12 61 1 (by decide +kernel)
                  have q1638 : h1 61 1 = ra1 := by rw [← e3]; exact x_up_at
                  have q1639 : h1550 (ra1 + 5) 2 = h1500 (ra1 + 5) 2 := jK 0 f1552 (rg_T5_2_0_1 ta1) (by first | decide | omega) (by first | decide | omega) (by decide)
                  have b1640 := jB (e := 2) 0 j1501 (rg_T5_2_0_1 ta1) (by first | decide | omega) (by first | decide | omega)
                  have e1641 : rv h1550 4 = (h1500 (ra1 + 5) 2) := (congrArg (fun z => svq h1550 z 4) ((((q1634.trans q1635).trans q1636).trans q1637).trans q1638)).trans q1639
                  have q1642 : h1500 61 1 = h1446 61 1 := f1502 61 1 (by decide +kernel)
                  have q1643 : h1446 61 1 = h10 61 1 := f1447 61 1 (by decide +kernel)
                  have q1644 : h10 61 1 = h1 61 1 := f12 61 1 (by decide +kernel)
                  have q1645 : h1 61 1 = ra1 := by rw [← e3]; exact x_up_at
                  have e1646 : rv h1500 4 = (h1500 (ra1 + 5) 2) := (congrArg (fun z => svq h1500 z 4) (((q1642.trans q1643).trans q1644).trans q1645)).trans rfl
                  have q1647 : h1550 61 1 = h1500 61 1 := f1552 61 1 (by decide +kernel)
                  have q1648 : h1500 61 1 = h1446 61 1 := f1502 61 1 (by decide +kernel)
                  have q1649 : h1446 61 1 = h10 61 1 := f1447 61 1 (by decide +kernel)
                  have q1650 : h10 61 1 = h1 61 1 := f12 61 1 (by decide +kernel)
                  have q1651 : h1 61 1 = ra1 := by rw [← e3]; exact x_up_at
                  have q1652 : h1550 (ra1 + 7) 2 = h1500 (ra1 + 7) 2 := jK 0 f1552 (rg_T7_2_0_1 ta1) (by first | decide | omega) (by first | decide | omega) (by decide)
                  have b1653 := jB (e := 2) 0 j1501 (rg_T7_2_0_1 ta1) (by first | decide | omega) (by first | decide | omega)
                  have e1654 : rv h1550 5 = (h1500 (ra1 + 7) 2) := (congrArg (fun z => svq h1550 z 5) ((((q1647.trans q1648).trans q1649).trans q1650).trans q1651)).trans q1652
                  have q1655 : h1500 61 1 = h1446 61 1 := f1502 61 1 (by decide +kernel)
                  have q1656 : h1446 61 1 = h10 61 1 := f1447 61 1 (by decide +kernel)
                  have q1657 : h10 61 1 = h1 61 1 := f12 61 1 (by decide +kernel)
                  have q1658 : h1 61 1 = ra1 := by rw [← e3]; exact x_up_at
                  have e1659 : rv h1500 5 = (h1500 (ra1 + 7) 2) := (congrArg (fun z => svq h1500 z 5) (((q1655.trans q1656).trans q1657).trans q1658)).trans rfl
                  have m1607 : Tl tB tN (h ra1 7) (h (ra1 + 1) 2) (h (ra1 + 3) 2) (h (ra1 + 5) 2) (h (ra1 + 7) 2) (2147483662 - (1 + v1444)) (rv h1550 2) (rv h1550 3) (rv h1550 4) (rv h1550 5) (h1550 1 2) := by
                    rw [show rv h1550 2 = rv h1500 2 by first | decide | omega, show rv h1550 3 = rv h1500 3 by first | decide | omega, show rv h1550 4 = rv h1500 4 by first | decide | omega, show rv h1550 5 = rv h1500 5 by first | decide | omega]
                    exact Tl.go (m' := 2147483662 - (1 + v1444)) m1452 (by first | decide | omega) k1579 rfl (by first | decide | omega) w1577 rfl e1578 rfl
                  have m1660 : Ot ra1 h h1500 := Ot.trans m1453 (Ot.cast c1507 ((q1528.trans q1529).trans q1530))
                  have m1661 : Ot ra1 h h1550 := Ot.fr m1660 f1552 (by decide)
                  obtain ⟨w1662, e1663⟩ := Tk.yes c1556 (by first | decide | omega)
                  have q1665 : h1446 61 1 = h10 61 1 := f1447 61 1 (by decide +kernel)
                  have q1666 : h10 61 1 = h1 61 1 := f12 61 1 (by decide +kernel)
                  have q1667 : h1 61 1 = ra1 := by rw [← e3]; exact x_up_at
                  have q1668 : h1446 61 1 = h10 61 1 := f1447 61 1 (by decide +kernel)
                  have q1669 : h10 61 1 = h1 61 1 := f12 61 1 (by decide +kernel)
                  have q1670 : h1 61 1 = ra1 := by rw [← e3]; exact x_up_at
                  have q1671 : h1446 61 1 = h10 61 1 := f1447 61 1 (by decide +kernel)
                  have q1672 : h10 61 1 = h1 61 1 := f12 61 1 (by decide +kernel)
                  have q1673 : h1 61 1 = ra1 := by rw [← e3]; exact x_up_at
                  have q1674 : h1446 61 1 = h10 61 1 := f1447 61 1 (by decide +kernel)
                  have q1675 : h10 61 1 = h1 61 1 := f12 61 1 (by decide +kernel)
                  have q1676 : h1 61 1 = ra1 := by rw [← e3]; exact x_up_at
                  have q1677 : h1446 61 1 = h10 61 1 := f1447 61 1 (by decide +kernel)
                  have q1678 : h10 61 1 = h1 61 1 := f12 61 1 (by decide +kernel)
                  have q1679 : h1 61 1 = ra1 := by rw [← e3]; exact x_up_at
                  have q1680 : h1446 61 1 = h10 61 1 := f1447 61 1 (by decide +kernel)
                  have q1681 : h10 61 1 = h1 61 1 := f12 61 1 (by decide +kernel)
                  have q1682 : h1 61 1 = ra1 := by rw [← e3]; exact x_up_at
                  have q1683 : h1446 61 1 = h10 61 1 := f1447 61 1 (by decide +kernel)
                  have q1684 : h10 61 1 = h1 61 1 := f12 61 1 (by decide +kernel)
                  have q1685 : h1 61 1 = ra1 := by rw [← e3]; exact x_up_at
                  have q1686 : h1446 61 1 = h10 61 1 := f1447 61 1 (by decide +kernel)
                  have q1687 : h10 61 1 = h1 61 1 := f12 61 1 (by decide +kernel)
                  have q1688 : h1 61 1 = ra1 := by rw [← e3]; exact x_up_at
                  have q1689 : h1446 61 1 = h10 61 1 := f1447 61 1 (by decide +kernel)
                  have q1690 : h10 61 1 = h1 61 1 := f12 61 1 (by decide +kernel)
                  have q1691 : h1 61 1 = ra1 := by rw [← e3]; exact x_up_at
                  have k1664 := l9_pe (pe' := h ra1 7) (l1 := rv h1446 2) (t1 := rv h1446 3) (d1 := rv h1446 4) (s1 := rv h1446 5) c1506 (by first | decide | omega) (by first | decide | omega) (by first | decide | omega) (by first | decide | omega) (by first | decide | omega)
                  have q1693 : h1550 61 1 = h1500 61 1 := f1552 61 1 (by decide +kernel)
                  have q1694 : h1500 61 1 = h1446 61 1 := f1502 61 1 (by decide +kernel)
                  have q1695 : h1446 61 1 = h10 61 1 := f1447 61 1 (by decide +kernel)
                  have q1696 : h10 61 1 = h1 61 1 := f12 61 1 (by decide +kernel)
                  have q1697 : h1 61 1 = ra1 := by rw [← e3]; exact x_up_at
                  have q1698 : h1550 (ra1 + 1) 2 = h1500 (ra1 + 1) 2 := jK 0 f1552 (rg_T1_2_0_1 ta1) (by first | decide | omega) (by first | decide | omega) (by decide)
                  have q1699 : h1500 61 1 = h1446 61 1 := f1502 61 1 (by decide +kernel)
                  have q1700 : h1446 61 1 = h10 61 1 := f1447 61 1 (by decide +kernel)
                  have q1701 : h10 61 1 = h1 61 1 := f12 61 1 (by decide +kernel)
                  have q1702 : h1 61 1 = ra1 := by rw [← e3]; exact x_up_at
                  have q1703 : h1550 61 1 = h1500 61 1 := f1552 61 1 (by decide +kernel)
                  have q1704 : h1500 61 1 = h1446 61 1 := f1502 61 1 (by decide +kernel)
                  have q1705 : h1446 61 1 = h10 61 1 := f1447 61 1 (by decide +kernel)
                  have q1706 : h10 61 1 = h1 61 1 := f12 61 1 (by decide +kernel)
                  have q1707 : h1 61 1 = ra1 := by rw [← e3]; exact x_up_at
                  have q1708 : h1550 (ra1 + 3) 2 = h1500 (ra1 + 3) 2 := jK 0 f1552 (rg_T3_2_0_1 ta1) (by first | decide | omega) (by first | decide | omega) (by decide)
                  have q1709 : h1500 61 1 = h1446 61 1 := f1502 61 1 (by decide +kernel)
                  have q1710 : h1446 61 1 = h10 61 1 := f1447 61 1 (by decide +kernel)
                  have q1711 : h10 61 1 = h1 61 1 := f12 61 1 (by decide +kernel)
                  have q1712 : h1 61 1 = ra1 := by rw [← e3]; exact x_up_at
                  have q1713 : h1550 61 1 = h1500 61 1 := f1552 61 1 (by decide +kernel)
                  have q1714 : h1500 61 1 = h1446 61 1 := f1502 61 1 (by decide +kernel)
                  have q1715 : h1446 61 1 = h10 61 1 := f1447 61 1 (by decide +kernel)
                  have q1716 : h10 61 1 = h1 61 1 := f12 61 1 (by decide +kernel)
                  have q1717 : h1 61 1 = ra1 := by rw [← e3]; exact x_up_at
                  have q1718 : h1550 (ra1 + 5) 2 = h1500 (ra1 + 5) 2 := jK 0 f1552 (rg_T5_2_0_1 ta1) (by first | decide | omega) (by first | decide | omega) (by decide)
                  have q1719 : h1500 61 1 = h1446 61 1 := f1502 61 1 (by decide +kernel)
                  have q1720 : h1446 61 1 = h10 61 1 := f1447 61 1 (by decide +kernel)
                  have q1721 : h10 61 1 = h1 61 1 := f12 61 1 (by decide +kernel)
                  have q1722 : h1 61 1 = ra1 := by rw [← e3]; exact x_up_at
                  have q1723 : h1550 61 1 = h1500 61 1 := f1552 61 1 (by decide +kernel)
                  have q1724 : h1500 61 1 = h1446 61 1 := f1502 61 1 (by decide +kernel)
                  have q1725 : h1446 61 1 = h10 61 1 := f1447 61 1 (by decide +kernel)
                  have q1726 : h10 61 1 = h1 61 1 := f12 61 1 (by decide +kernel)
                  have q1727 : h1 61 1 = ra1 := by rw [← e3]; exact x_up_at
                  have q1728 : h1550 (ra1 + 7) 2 = h1500 (ra1 + 7) 2 := jK 0 f1552 (rg_T7_2_0_1 ta1) (by first | decide | omega) (by first | decide | omega) (by decide)
                  have q1729 : h1500 61 1 = h1446 61 1 := f1502 61 1 (by decide +kernel)
                  have q1730 : h1446 61 1 = h10 61 1 := f1447 61 1 (by decide +kernel)
                  have q1731 : h10 61 1 = h1 61 1 := f12 61 1 (by decide +kernel)
                  have q1732 : h1 61 1 = ra1 := by rw [← e3]; exact x_up_at
                  have m1692 : TlF tB tN (h ra1 7) (h (ra1 + 1) 2) (h (ra1 + 3) 2) (h (ra1 + 5) 2) (h (ra1 + 7) 2) (2147483662 - (1 + v1444)) (rv h1550 2) (rv h1550 3) (rv h1550 4) (rv h1550 5) (h1550 1 2) := by
                    rw [show rv h1550 2 = rv h1500 2 by first | decide | omega, show rv h1550 3 = rv h1500 3 by first | decide | omega, show rv h1550 4 = rv h1500 4 by first | decide | omega, show rv h1550 5 = rv h1500 5 by first | decide | omega]
                    exact TlF.go (m' := 2147483662 - (1 + v1444)) m1454 (by first | decide | omega) k1664 rfl (by first | decide | omega) w1662 rfl e1663 rfl
                  exact i1456 (1 + v1444) h1550 (by first | decide | omega) (by first | decide | omega) (by first | decide | omega) (by first | decide | omega) j1551 f1558 m1607 m1661 m1692
                have q1561 : ¬ (v1546 ≠ 2147483648) := q1561
                have b1733 := c1555 (by first | decide | omega)
                refine x_const (np := 66) (x := 9223372039002259456) (a := 2147483648) (by decide +kernel) (by decide) (by decide) ?_
                have q1734 : h1550 ra1 7 = h1500 ra1 7 := jK 0 f1552 (rg_T0_7_0_1 ta1) (by first | decide | omega) (by first | decide | omega) (by decide)
                have q1735 : h1550 ra1 8 = h1500 ra1 8 := jK 0 f1552 (rg_T0_8_0_1 ta1) (by first | decide | omega) (by first | decide | omega) (by decide)
                have m1736 : Ot ra1 h h1500 := Ot.trans m1453 (Ot.cast c1507 ((q1528.trans q1529).trans q1530))
                have m1737 : Ot ra1 h h1550 := Ot.fr m1736 f1552 (by decide)
                have q1738 : h1550 (ra1 + 1) 2 = h1500 (ra1 + 1) 2 := jK 0 f1552 (rg_T1_2_0_1 ta1) (by first | decide | omega) (by first | decide | omega) (by decide)
                have b1739 := jB (e := 2) 0 j1501 (rg_T1_2_0_1 ta1) (by first | decide | omega) (by first | decide | omega)
                have b1740 := jB (e := 2) 0 hJ (rg_T1_2_0_1 ta1) (by first | decide | omega) (by first | decide | omega)
                have q1741 : h1550 (ra1 + 3) 2 = h1500 (ra1 + 3) 2 := jK 0 f1552 (rg_T3_2_0_1 ta1) (by first | decide | omega) (by first | decide | omega) (by decide)
                have b1742 := jB (e := 2) 0 j1501 (rg_T3_2_0_1 ta1) (by first | decide | omega) (by first | decide | omega)
                have b1743 := jB (e := 2) 0 hJ (rg_T3_2_0_1 ta1) (by first | decide | omega) (by first | decide | omega)
                have q1744 : h1550 (ra1 + 5) 2 = h1500 (ra1 + 5) 2 := jK 0 f1552 (rg_T5_2_0_1 ta1) (by first | decide | omega) (by first | decide | omega) (by decide)
                have b1745 := jB (e := 2) 0 j1501 (rg_T5_2_0_1 ta1) (by first | decide | omega) (by first | decide | omega)
                have b1746 := jB (e := 2) 0 hJ (rg_T5_2_0_1 ta1) (by first | decide | omega) (by first | decide | omega)
                have q1747 : h1550 (ra1 + 7) 2 = h1500 (ra1 + 7) 2 := jK 0 f1552 (rg_T7_2_0_1 ta1) (by first | decide | omega) (by first | decide | omega) (by decide)
                have b1748 := jB (e := 2) 0 j1501 (rg_T7_2_0_1 ta1) (by first | decide | omega) (by first | decide | omega)
                have b1749 := jB (e := 2) 0 hJ (rg_T7_2_0_1 ta1) (by first | decide | omega) (by first | decide | omega)
                have q1751 : h1446 61 1 = h10 61 1 := f1447 61 1 (by decide +kernel)
                have q1752 : h10 61 1 = h1 61 1 := f12 61 1 (by decide +kernel)
                have q1753 : h1 61 1 = ra1 := by rw [← e3]; exact x_up_at
                have q1754 : h1446 61 1 = h10 61 1 := f1447 61 1 (by decide +kernel)
                have q1755 : h10 61 1 = h1 61 1 := f12 61 1 (by decide +kernel)
                have q1756 : h1 61 1 = ra1 := by rw [← e3]; exact x_up_at
                have q1757 : h1446 61 1 = h10 61 1 := f1447 61 1 (by decide +kernel)
                have q1758 : h10 61 1 = h1 61 1 := f12 61 1 (by decide +kernel)
                have q1759 : h1 61 1 = ra1 := by rw [← e3]; exact x_up_at
                have q1760 : h1446 61 1 = h10 61 1 := f1447 61 1 (by decide +kernel)
                have q1761 : h10 61 1 = h1 61 1 := f12 61 1 (by decide +kernel)
                have q1762 : h1 61 1 = ra1 := by rw [← e3]; exact x_up_at
                have q1763 : h1446 61 1 = h10 61 1 := f1447 61 1 (by decide +kernel)
                have q1764 : h10 61 1 = h1 61 1 := f12 61 1 (by decide +kernel)
                have q1765 : h1 61 1 = ra1 := by rw [← e3]; exact x_up_at
                have q1766 : h1446 61 1 = h10 61 1 := f1447 61 1 (by decide +kernel)
                have q1767 : h10 61 1 = h1 61 1 := f12 61 1 (by decide +kernel)
                have q1768 : h1 61 1 = ra1 := by rw [← e3]; exact x_up_at
                have q1769 : h1446 61 1 = h10 61 1 := f1447 61 1 (by decide +kernel)
                have q1770 : h10 61 1 = h1 61 1 := f12 61 1 (by decide +kernel)
                have q1771 : h1 61 1 = ra1 := by rw [← e3]; exact x_up_at
                have q1772 : h1446 61 1 = h10 61 1 := f1447 61 1 (by decide +kernel)
                have q1773 : h10 61 1 = h1 61 1 := f12 61 1 (by decide +kernel)
                have q1774 : h1 61 1 = ra1 := by rw [← e3]; exact x_up_at
                have q1775 : h1446 61 1 = h10 61 1 := f1447 61 1 (by decide +kernel)
                have q1776 : h10 61 1 = h1 61 1 := f12 61 1 (by decide +kernel)
                have q1777 : h1 61 1 = ra1 := by rw [← e3]; exact x_up_at
                have k1750 := l9_pe (pe' := h ra1 7) (l1 := rv h1446 2) (t1 := rv h1446 3) (d1 := rv h1446 4) (s1 := rv h1446 5) c1506 (by first | decide | omega) (by first | decide | omega) (by first | decide | omega) (by first | decide | omega) (by first | decide | omega)
                have q1778 : h1500 1 1 = h1446 1 1 := jK 0 f1502 rg_1_1_0_1 (by first | decide | omega) (by first | decide | omega) (by decide)
                have q1779 : h1446 1 1 = h10 1 1 := jK 0 f1447 rg_1_1_0_1 (by first | decide | omega) (by first | decide | omega) (by decide)
                have q1780 : h10 1 1 = h1 1 1 := jK 0 f12 rg_1_1_0_1 (by first | decide | omega) (by first | decide | omega) (by decide)
                have q1781 : h1 1 1 = h 1 1 := by rw [← e3]; exact x_up_k (by decide)
                have z1782 := m1549.1
                have q1783 : h1500 61 1 = h1446 61 1 := f1502 61 1 (by decide +kernel)
                have q1784 : h1446 61 1 = h10 61 1 := f1447 61 1 (by decide +kernel)
                have q1785 : h10 61 1 = h1 61 1 := f12 61 1 (by decide +kernel)
                have q1786 : h1 61 1 = ra1 := by rw [← e3]; exact x_up_at
                have e1787 : rv h1500 2 = (h1500 (ra1 + 1) 2) := (congrArg (fun z => svq h1500 z 2) (((q1783.trans q1784).trans q1785).trans q1786)).trans rfl
                have q1788 : h1500 61 1 = h1446 61 1 := f1502 61 1 (by decide +kernel)
                have q1789 : h1446 61 1 = h10 61 1 := f1447 61 1 (by decide +kernel)
                have q1790 : h10 61 1 = h1 61 1 := f12 61 1 (by decide +kernel)
                have q1791 : h1 61 1 = ra1 := by rw [← e3]; exact x_up_at
                have e1792 : rv h1500 3 = (h1500 (ra1 + 3) 2) := (congrArg (fun z => svq h1500 z 3) (((q1788.trans q1789).trans q1790).trans q1791)).trans rfl
                have q1793 : h1500 61 1 = h1446 61 1 := f1502 61 1 (by decide +kernel)
                have q1794 : h1446 61 1 = h10 61 1 := f1447 61 1 (by decide +kernel)
                have q1795 : h10 61 1 = h1 61 1 := f12 61 1 (by decide +kernel)
                have q1796 : h1 61 1 = ra1 := by rw [← e3]; exact x_up_at
                have e1797 : rv h1500 4 = (h1500 (ra1 + 5) 2) := (congrArg (fun z => svq h1500 z 4) (((q1793.trans q1794).trans q1795).trans q1796)).trans rfl
                have q1798 : h1500 61 1 = h1446 61 1 := f1502 61 1 (by decide +kernel)
                have q1799 : h1446 61 1 = h10 61 1 := f1447 61 1 (by decide +kernel)
                have q1800 : h10 61 1 = h1 61 1 := f12 61 1 (by decide +kernel)
                have q1801 : h1 61 1 = ra1 := by rw [← e3]; exact x_up_at
                have e1802 : rv h1500 5 = (h1500 (ra1 + 7) 2) := (congrArg (fun z => svq h1500 z 5) (((q1798.trans q1799).trans q1800).trans q1801)).trans rfl
                obtain ⟨w1803, e1804⟩ := Tk.no c1556 (by first | decide | omega)
                have q1806 : h1446 61 1 = h10 61 1 := f1447 61 1 (by decide +kernel)
                have q1807 : h10 61 1 = h1 61 1 := f12 61 1 (by decide +kernel)
                have q1808 : h1 61 1 = ra1 := by rw [← e3]; exact x_up_at
                have q1809 : h1446 61 1 = h10 61 1 := f1447 61 1 (by decide +kernel)
                have q1810 : h10 61 1 = h1 61 1 := f12 61 1 (by decide +kernel)
                have q1811 : h1 61 1 = ra1 := by rw [← e3]; exact x_up_at
                have q1812 : h1446 61 1 = h10 61 1 := f1447 61 1 (by decide +kernel)
                have q1813 : h10 61 1 = h1 61 1 := f12 61 1 (by decide +kernel)
                have q1814 : h1 61 1 = ra1 := by rw [← e3]; exact x_up_at
                have q1815 : h1446 61 1 = h10 61 1 := f1447 61 1 (by decide +kernel)
                have q1816 : h10 61 1 = h1 61 1 := f12 61 1 (by decide +kernel)
                have q1817 : h1 61 1 = ra1 := by rw [← e3]; exact x_up_at
                have q1818 : h1446 61 1 = h10 61 1 := f1447 61 1 (by decide +kernel)
                have q1819 : h10 61 1 = h1 61 1 := f12 61 1 (by decide +kernel)
                have q1820 : h1 61 1 = ra1 := by rw [← e3]; exact x_up_at
                have q1821 : h1446 61 1 = h10 61 1 := f1447 61 1 (by decide +kernel)
                have q1822 : h10 61 1 = h1 61 1 := f12 61 1 (by decide +kernel)
                have q1823 : h1 61 1 = ra1 := by rw [← e3]; exact x_up_at
                have q1824 : h1446 61 1 = h10 61 1 := f1447 61 1 (by decide +kernel)
                have q1825 : h10 61 1 = h1 61 1 := f12 61 1 (by decide +kernel)
                have q1826 : h1 61 1 = ra1 := by rw [← e3]; exact x_up_at
                have q1827 : h1446 61 1 = h10 61 1 := f1447 61 1 (by decide +kernel)
                have q1828 : h10 61 1 = h1 61 1 := f12 61 1 (by decide +kernel)
                have q1829 : h1 61 1 = ra1 := by rw [← e3]; exact x_up_at
                have q1830 : h1446 61 1 = h10 61 1 := f1447 61 1 (by decide +kernel)
                have q1831 : h10 61 1 = h1 61 1 := f12 61 1 (by decide +kernel)
                have q1832 : h1 61 1 = ra1 := by rw [← e3]; exact x_up_at
                have k1805 := l9_pe (pe' := h ra1 7) (l1 := rv h1446 2) (t1 := rv h1446 3) (d1 := rv h1446 4) (s1 := rv h1446 5) c1506 (by first | decide | omega) (by first | decide | omega) (by first | decide | omega) (by first | decide | omega) (by first | decide | omega)
                have q1833 : h1500 1 1 = h1446 1 1 := jK 0 f1502 rg_1_1_0_1 (by first | decide | omega) (by first | decide | omega) (by decide)
                have q1834 : h1446 1 1 = h10 1 1 := jK 0 f1447 rg_1_1_0_1 (by first | decide | omega) (by first | decide | omega) (by decide)
                have q1835 : h10 1 1 = h1 1 1 := jK 0 f12 rg_1_1_0_1 (by first | decide | omega) (by first | decide | omega) (by decide)
                have q1836 : h1 1 1 = h 1 1 := by rw [← e3]; exact x_up_k (by decide)
                have z1837 := m1549.1
                obtain ⟨w1838, e1839⟩ := Tk.no c1556 (by first | decide | omega)
                refine x_retI (np := 67) (x := 0) (by decide +kernel) (by decide) (Or.inr ⟨by decide +kernel, by first | decide | omega, by first | decide | omega⟩) ⟨_, rfl, (by decide), ?_⟩
                exact ⟨j1551, f1557, (by first | decide | omega), (by first | decide | omega), (by first | decide | omega), (Tt.n0 (by first | decide | omega) (Tl.bad m1452 (by first | decide | omega) k1750 rfl (by first | decide | omega) (by first | decide | omega) w1803 rfl)), m1737, (fun _ => TlF.bad m1454 (by first | decide | omega) k1805 rfl (by first | decide | omega) (by first | decide | omega) w1838 rfl (show h1550 1 2 = h1500 1 2 by first | decide | omega))⟩
              have q1544 : ¬ (2147483648 = 2147483648) := q1544
              exfalso; omega
            have q1542 : ¬ ((h1500 1 2) < (h 1 1)) := q1542
            refine x_const (np := 12) (x := 9223372043297226753) (a := 2147483649) (by decide +kernel) (by decide) (by decide) ?_
            refine x_goto (np := 15) (x := 16) (by decide +kernel) ?_
            refine x_retI (np := 17) (x := 0) (by decide +kernel) (by decide) (Or.inr ⟨by decide +kernel, by first | decide | omega, by first | decide | omega⟩) ⟨_, rfl, (by decide), ?_⟩
            refine x_ifz (k := 0) (tg := 53) (np := 51) (by decide +kernel) (by decide) (by decide) (fun q1840 => ?_) (fun q1841 => ?_)
            · have q1840 : 2147483649 = 2147483648 := q1840
              exfalso; omega
            have q1841 : ¬ (2147483649 = 2147483648) := q1841
            refine x_const (np := 52) (x := 9223372043297226753) (a := 2147483649) (by decide +kernel) (by decide) (by decide) ?_
            have m1842 : Ot ra1 h h1500 := Ot.trans m1453 (Ot.cast c1507 ((q1528.trans q1529).trans q1530))
            have b1843 := jB (e := 2) 0 j1501 (rg_T1_2_0_1 ta1) (by first | decide | omega) (by first | decide | omega)
            have b1844 := jB (e := 2) 0 hJ (rg_T1_2_0_1 ta1) (by first | decide | omega) (by first | decide | omega)
            have b1845 := jB (e := 2) 0 j1501 (rg_T3_2_0_1 ta1) (by first | decide | omega) (by first | decide | omega)
            have b1846 := jB (e := 2) 0 hJ (rg_T3_2_0_1 ta1) (by first | decide | omega) (by first | decide | omega)
            have b1847 := jB (e := 2) 0 j1501 (rg_T5_2_0_1 ta1) (by first | decide | omega) (by first | decide | omega)
            have b1848 := jB (e := 2) 0 hJ (rg_T5_2_0_1 ta1) (by first | decide | omega) (by first | decide | omega)
            have b1849 := jB (e := 2) 0 j1501 (rg_T7_2_0_1 ta1) (by first | decide | omega) (by first | decide | omega)
            have b1850 := jB (e := 2) 0 hJ (rg_T7_2_0_1 ta1) (by first | decide | omega) (by first | decide | omega)
            have q1852 : h1446 61 1 = h10 61 1 := f1447 61 1 (by decide +kernel)
            have q1853 : h10 61 1 = h1 61 1 := f12 61 1 (by decide +kernel)
            have q1854 : h1 61 1 = ra1 := by rw [← e3]; exact x_up_at
            have q1855 : h1446 61 1 = h10 61 1 := f1447 61 1 (by decide +kernel)
            have q1856 : h10 61 1 = h1 61 1 := f12 61 1 (by decide +kernel)
            have q1857 : h1 61 1 = ra1 := by rw [← e3]; exact x_up_at
            have q1858 : h1446 61 1 = h10 61 1 := f1447 61 1 (by decide +kernel)
            have q1859 : h10 61 1 = h1 61 1 := f12 61 1 (by decide +kernel)
            have q1860 : h1 61 1 = ra1 := by rw [← e3]; exact x_up_at
            have q1861 : h1446 61 1 = h10 61 1 := f1447 61 1 (by decide +kernel)
            have q1862 : h10 61 1 = h1 61 1 := f12 61 1 (by decide +kernel)
            have q1863 : h1 61 1 = ra1 := by rw [← e3]; exact x_up_at
            have q1864 : h1446 61 1 = h10 61 1 := f1447 61 1 (by decide +kernel)
            have q1865 : h10 61 1 = h1 61 1 := f12 61 1 (by decide +kernel)
            have q1866 : h1 61 1 = ra1 := by rw [← e3]; exact x_up_at
            have q1867 : h1446 61 1 = h10 61 1 := f1447 61 1 (by decide +kernel)
            have q1868 : h10 61 1 = h1 61 1 := f12 61 1 (by decide +kernel)
            have q1869 : h1 61 1 = ra1 := by rw [← e3]; exact x_up_at
            have q1870 : h1446 61 1 = h10 61 1 := f1447 61 1 (by decide +kernel)
            have q1871 : h10 61 1 = h1 61 1 := f12 61 1 (by decide +kernel)
            have q1872 : h1 61 1 = ra1 := by rw [← e3]; exact x_up_at
            have q1873 : h1446 61 1 = h10 61 1 := f1447 61 1 (by decide +kernel)
            have q1874 : h10 61 1 = h1 61 1 := f12 61 1 (by decide +kernel)
            have q1875 : h1 61 1 = ra1 := by rw [← e3]; exact x_up_at
            have q1876 : h1446 61 1 = h10 61 1 := f1447 61 1 (by decide +kernel)
            have q1877 : h10 61 1 = h1 61 1 := f12 61 1 (by decide +kernel)
            have q1878 : h1 61 1 = ra1 := by rw [← e3]; exact x_up_at
            have k1851 := l9_pe (pe' := h ra1 7) (l1 := rv h1446 2) (t1 := rv h1446 3) (d1 := rv h1446 4) (s1 := rv h1446 5) c1506 (by first | decide | omega) (by first | decide | omega) (by first | decide | omega) (by first | decide | omega) (by first | decide | omega)
            have q1879 : h1500 1 1 = h1446 1 1 := jK 0 f1502 rg_1_1_0_1 (by first | decide | omega) (by first | decide | omega) (by decide)
            have q1880 : h1446 1 1 = h10 1 1 := jK 0 f1447 rg_1_1_0_1 (by first | decide | omega) (by first | decide | omega) (by decide)
            have q1881 : h10 1 1 = h1 1 1 := jK 0 f12 rg_1_1_0_1 (by first | decide | omega) (by first | decide | omega) (by decide)
            have q1882 : h1 1 1 = h 1 1 := by rw [← e3]; exact x_up_k (by decide)
            have m1884 := Tp.fr m1498 f1502 (by decide) (by decide)
            have z1883 := m1884.1
            have q1885 : h1500 61 1 = h1446 61 1 := f1502 61 1 (by decide +kernel)
            have q1886 : h1446 61 1 = h10 61 1 := f1447 61 1 (by decide +kernel)
            have q1887 : h10 61 1 = h1 61 1 := f12 61 1 (by decide +kernel)
            have q1888 : h1 61 1 = ra1 := by rw [← e3]; exact x_up_at
            have e1889 : rv h1500 2 = (h1500 (ra1 + 1) 2) := (congrArg (fun z => svq h1500 z 2) (((q1885.trans q1886).trans q1887).trans q1888)).trans rfl
            have q1890 : h1500 61 1 = h1446 61 1 := f1502 61 1 (by decide +kernel)
            have q1891 : h1446 61 1 = h10 61 1 := f1447 61 1 (by decide +kernel)
            have q1892 : h10 61 1 = h1 61 1 := f12 61 1 (by decide +kernel)
            have q1893 : h1 61 1 = ra1 := by rw [← e3]; exact x_up_at
            have e1894 : rv h1500 3 = (h1500 (ra1 + 3) 2) := (congrArg (fun z => svq h1500 z 3) (((q1890.trans q1891).trans q1892).trans q1893)).trans rfl
            have q1895 : h1500 61 1 = h1446 61 1 := f1502 61 1 (by decide +kernel)
            have q1896 : h1446 61 1 = h10 61 1 := f1447 61 1 (by decide +kernel)
            have q1897 : h10 61 1 = h1 61 1 := f12 61 1 (by decide +kernel)
            have q1898 : h1 61 1 = ra1 := by rw [← e3]; exact x_up_at
            have e1899 : rv h1500 4 = (h1500 (ra1 + 5) 2) := (congrArg (fun z => svq h1500 z 4) (((q1895.trans q1896).trans q1897).trans q1898)).trans rfl
            have q1900 : h1500 61 1 = h1446 61 1 := f1502 61 1 (by decide +kernel)
            have q1901 : h1446 61 1 = h10 61 1 := f1447 61 1 (by decide +kernel)
            have q1902 : h10 61 1 = h1 61 1 := f12 61 1 (by decide +kernel)
            have q1903 : h1 61 1 = ra1 := by rw [← e3]; exact x_up_at
            have e1904 : rv h1500 5 = (h1500 (ra1 + 7) 2) := (congrArg (fun z => svq h1500 z 5) (((q1900.trans q1901).trans q1902).trans q1903)).trans rfl
            refine x_retI (np := 53) (x := 0) (by decide +kernel) (by decide) (Or.inr ⟨by decide +kernel, by first | decide | omega, by first | decide | omega⟩) ⟨_, rfl, (by decide), ?_⟩
            exact ⟨j1501, f1509, (by first | decide | omega), (by first | decide | omega), (by first | decide | omega), (Tt.s1 (by first | decide | omega) (Tl.fin m1452 (by first | decide | omega) k1851 rfl (by first | decide | omega) (by first | decide | omega)) (by first | decide | omega) (by first | decide | omega) (by first | decide | omega) (by first | decide | omega)), m1842, (fun z => absurd z (by first | decide | omega))⟩
          have q1532 : ¬ (v1495 ≠ 2147483648) := q1532
          refine x_const (np := 40) (x := 9223372039002259456) (a := 2147483648) (by decide +kernel) (by decide) (by decide) ?_
          have m1905 : Ot ra1 h h1500 := Ot.trans m1453 (Ot.cast c1507 ((q1528.trans q1529).trans q1530))
          have b1906 := jB (e := 2) 0 j1501 (rg_T1_2_0_1 ta1) (by first | decide | omega) (by first | decide | omega)
          have b1907 := jB (e := 2) 0 hJ (rg_T1_2_0_1 ta1) (by first | decide | omega) (by first | decide | omega)
          have b1908 := jB (e := 2) 0 j1501 (rg_T3_2_0_1 ta1) (by first | decide | omega) (by first | decide | omega)
          have b1909 := jB (e := 2) 0 hJ (rg_T3_2_0_1 ta1) (by first | decide | omega) (by first | decide | omega)
          have b1910 := jB (e := 2) 0 j1501 (rg_T5_2_0_1 ta1) (by first | decide | omega) (by first | decide | omega)
          have b1911 := jB (e := 2) 0 hJ (rg_T5_2_0_1 ta1) (by first | decide | omega) (by first | decide | omega)
          have b1912 := jB (e := 2) 0 j1501 (rg_T7_2_0_1 ta1) (by first | decide | omega) (by first | decide | omega)
          have b1913 := jB (e := 2) 0 hJ (rg_T7_2_0_1 ta1) (by first | decide | omega) (by first | decide | omega)
          have q1915 : h1446 61 1 = h10 61 1 := f1447 61 1 (by decide +kernel)
          have q1916 : h10 61 1 = h1 61 1 := f12 61 1 (by decide +kernel)
          have q1917 : h1 61 1 = ra1 := by rw [← e3]; exact x_up_at
          have q1918 : h1446 61 1 = h10 61 1 := f1447 61 1 (by decide +kernel)
          have q1919 : h10 61 1 = h1 61 1 := f12 61 1 (by decide +kernel)
          have q1920 : h1 61 1 = ra1 := by rw [← e3]; exact x_up_at
          have q1921 : h1446 61 1 = h10 61 1 := f1447 61 1 (by decide +kernel)
          have q1922 : h10 61 1 = h1 61 1 := f12 61 1 (by decide +kernel)
          have q1923 : h1 61 1 = ra1 := by rw [← e3]; exact x_up_at
          have q1924 : h1446 61 1 = h10 61 1 := f1447 61 1 (by decide +kernel)
          have q1925 : h10 61 1 = h1 61 1 := f12 61 1 (by decide +kernel)
          have q1926 : h1 61 1 = ra1 := by rw [← e3]; exact x_up_at
          have q1927 : h1446 61 1 = h10 61 1 := f1447 61 1 (by decide +kernel)
          have q1928 : h10 61 1 = h1 61 1 := f12 61 1 (by decide +kernel)
          have q1929 : h1 61 1 = ra1 := by rw [← e3]; exact x_up_at
          have q1930 : h1446 61 1 = h10 61 1 := f1447 61 1 (by decide +kernel)
          have q1931 : h10 61 1 = h1 61 1 := f12 61 1 (by decide +kernel)
          have q1932 : h1 61 1 = ra1 := by rw [← e3]; exact x_up_at
          have q1933 : h1446 61 1 = h10 61 1 := f1447 61 1 (by decide +kernel)
          have q1934 : h10 61 1 = h1 61 1 := f12 61 1 (by decide +kernel)
          have q1935 : h1 61 1 = ra1 := by rw [← e3]; exact x_up_at
          have q1936 : h1446 61 1 = h10 61 1 := f1447 61 1 (by decide +kernel)
          have q1937 : h10 61 1 = h1 61 1 := f12 61 1 (by decide +kernel)
          have q1938 : h1 61 1 = ra1 := by rw [← e3]; exact x_up_at
          have q1939 : h1446 61 1 = h10 61 1 := f1447 61 1 (by decide +kernel)
          have q1940 : h10 61 1 = h1 61 1 := f12 61 1 (by decide +kernel)
          have q1941 : h1 61 1 = ra1 := by rw [← e3]; exact x_up_at
          have k1914 := l9_pe (pe' := h ra1 7) (l1 := rv h1446 2) (t1 := rv h1446 3) (d1 := rv h1446 4) (s1 := rv h1446 5) c1506 (by first | decide | omega) (by first | decide | omega) (by first | decide | omega) (by first | decide | omega) (by first | decide | omega)
          have q1942 : h1446 61 1 = h10 61 1 := f1447 61 1 (by decide +kernel)
          have q1943 : h10 61 1 = h1 61 1 := f12 61 1 (by decide +kernel)
          have q1944 : h1 61 1 = ra1 := by rw [← e3]; exact x_up_at
          have q1945 : h1446 61 1 = h10 61 1 := f1447 61 1 (by decide +kernel)
          have q1946 : h10 61 1 = h1 61 1 := f12 61 1 (by decide +kernel)
          have q1947 : h1 61 1 = ra1 := by rw [← e3]; exact x_up_at
          have q1948 : h1446 61 1 = h10 61 1 := f1447 61 1 (by decide +kernel)
          have q1949 : h10 61 1 = h1 61 1 := f12 61 1 (by decide +kernel)
          have q1950 : h1 61 1 = ra1 := by rw [← e3]; exact x_up_at
          have q1951 : h1446 61 1 = h10 61 1 := f1447 61 1 (by decide +kernel)
          have q1952 : h10 61 1 = h1 61 1 := f12 61 1 (by decide +kernel)
          have q1953 : h1 61 1 = ra1 := by rw [← e3]; exact x_up_at
          have q1954 : h1446 61 1 = h10 61 1 := f1447 61 1 (by decide +kernel)
          have q1955 : h10 61 1 = h1 61 1 := f12 61 1 (by decide +kernel)
          have q1956 : h1 61 1 = ra1 := by rw [← e3]; exact x_up_at
          have q1957 : h1446 61 1 = h10 61 1 := f1447 61 1 (by decide +kernel)
          have q1958 : h10 61 1 = h1 61 1 := f12 61 1 (by decide +kernel)
          have q1959 : h1 61 1 = ra1 := by rw [← e3]; exact x_up_at
          have q1960 : h1446 61 1 = h10 61 1 := f1447 61 1 (by decide +kernel)
          have q1961 : h10 61 1 = h1 61 1 := f12 61 1 (by decide +kernel)
          have q1962 : h1 61 1 = ra1 := by rw [← e3]; exact x_up_at
          have q1963 : h1446 61 1 = h10 61 1 := f1447 61 1 (by decide +kernel)
          have q1964 : h10 61 1 = h1 61 1 := f12 61 1 (by decide +kernel)
          have q1965 : h1 61 1 = ra1 := by rw [← e3]; exact x_up_at
          have q1966 : h1446 61 1 = h10 61 1 := f1447 61 1 (by decide +kernel)
          have q1967 : h10 61 1 = h1 61 1 := f12 61 1 (by decide +kernel)
          have q1968 : h1 61 1 = ra1 := by rw [← e3]; exact x_up_at
          have k1969 := lF_pe (pe' := h ra1 7) (l1 := rv h1446 2) (t1 := rv h1446 3) (d1 := rv h1446 4) (s1 := rv h1446 5) (c1508 (by first | decide | omega)) (by first | decide | omega) (by first | decide | omega) (by first | decide | omega) (by first | decide | omega) (by first | decide | omega)
          refine x_retI (np := 41) (x := 0) (by decide +kernel) (by decide) (Or.inr ⟨by decide +kernel, by first | decide | omega, by first | decide | omega⟩) ⟨_, rfl, (by decide), ?_⟩
          exact ⟨j1501, f1509, (by first | decide | omega), (by first | decide | omega), (by first | decide | omega), (Tt.n0 (by first | decide | omega) (Tl.no m1452 (by first | decide | omega) k1914 rfl (by first | decide | omega))), m1905, (fun _ => TF.cast (TlF.no m1454 (by first | decide | omega) k1969 rfl) rfl rfl rfl rfl rfl rfl)⟩
      have b1970 := jB (e := 7) 0 hJ (rg_T0_7_0_1 ta1) (by first | decide | omega) (by first | decide | omega)
      have q1971 : h10 61 1 = h1 61 1 := f12 61 1 (by decide +kernel)
      have q1972 : h1 61 1 = ra1 := by rw [← e3]; exact x_up_at
      have q1973 : h10 ra1 7 = h1 ra1 7 := jK 0 f12 (rg_T0_7_0_1 ta1) (by first | decide | omega) (by first | decide | omega) (by decide)
      have q1974 : h1 ra1 7 = h ra1 7 := by rw [← e3]; exact x_up_k (tne_0_61 ta1)
      have e1975 : rv h10 0 = (h ra1 7) := (congrArg (fun z => svq h10 z 0) (q1971.trans q1972)).trans (q1973.trans q1974)
      have q1976 : h10 61 1 = h1 61 1 := f12 61 1 (by decide +kernel)
      have q1977 : h1 61 1 = ra1 := by rw [← e3]; exact x_up_at
      have q1978 : h10 ra1 8 = h1 ra1 8 := jK 0 f12 (rg_T0_8_0_1 ta1) (by first | decide | omega) (by first | decide | omega) (by decide)
      have q1979 : h1 ra1 8 = h ra1 8 := by rw [← e3]; exact x_up_k (tne_0_61 ta1)
      have e1980 : rv h10 1 = (h ra1 8) := (congrArg (fun z => svq h10 z 1) (q1976.trans q1977)).trans (q1978.trans q1979)
      have q1981 : h10 1 1 = h1 1 1 := jK 0 f12 rg_1_1_0_1 (by first | decide | omega) (by first | decide | omega) (by decide)
      have q1982 : h1 1 1 = h 1 1 := by rw [← e3]; exact x_up_k (by decide)
      have m1984 := Tp.fr m9 f12 (by decide) (by decide)
      have z1983 := m1984.1
      have b1986 := jB (e := 2) 0 hJ (rg_T1_2_0_1 ta1) (by first | decide | omega) (by first | decide | omega)
      have q1987 : h10 61 1 = h1 61 1 := f12 61 1 (by decide +kernel)
      have q1988 : h1 61 1 = ra1 := by rw [← e3]; exact x_up_at
      have q1989 : h10 (ra1 + 1) 2 = h1 (ra1 + 1) 2 := jK 0 f12 (rg_T1_2_0_1 ta1) (by first | decide | omega) (by first | decide | omega) (by decide)
      have q1990 : h1 (ra1 + 1) 2 = h (ra1 + 1) 2 := by rw [← e3]; exact x_up_k (tne_1_61 ta1)
      have e1991 : rv h10 2 = (h (ra1 + 1) 2) := (congrArg (fun z => svq h10 z 2) (q1987.trans q1988)).trans (q1989.trans q1990)
      have b1992 := jB (e := 2) 0 hJ (rg_T3_2_0_1 ta1) (by first | decide | omega) (by first | decide | omega)
      have q1993 : h10 61 1 = h1 61 1 := f12 61 1 (by decide +kernel)
      have q1994 : h1 61 1 = ra1 := by rw [← e3]; exact x_up_at
      have q1995 : h10 (ra1 + 3) 2 = h1 (ra1 + 3) 2 := jK 0 f12 (rg_T3_2_0_1 ta1) (by first | decide | omega) (by first | decide | omega) (by decide)
      have q1996 : h1 (ra1 + 3) 2 = h (ra1 + 3) 2 := by rw [← e3]; exact x_up_k (tne_3_61 ta1)
      have e1997 : rv h10 3 = (h (ra1 + 3) 2) := (congrArg (fun z => svq h10 z 3) (q1993.trans q1994)).trans (q1995.trans q1996)
      have b1998 := jB (e := 2) 0 hJ (rg_T5_2_0_1 ta1) (by first | decide | omega) (by first | decide | omega)
      have q1999 : h10 61 1 = h1 61 1 := f12 61 1 (by decide +kernel)
      have q2000 : h1 61 1 = ra1 := by rw [← e3]; exact x_up_at
      have q2001 : h10 (ra1 + 5) 2 = h1 (ra1 + 5) 2 := jK 0 f12 (rg_T5_2_0_1 ta1) (by first | decide | omega) (by first | decide | omega) (by decide)
      have q2002 : h1 (ra1 + 5) 2 = h (ra1 + 5) 2 := by rw [← e3]; exact x_up_k (tne_5_61 ta1)
      have e2003 : rv h10 4 = (h (ra1 + 5) 2) := (congrArg (fun z => svq h10 z 4) (q1999.trans q2000)).trans (q2001.trans q2002)
      have b2004 := jB (e := 2) 0 hJ (rg_T7_2_0_1 ta1) (by first | decide | omega) (by first | decide | omega)
      have q2005 : h10 61 1 = h1 61 1 := f12 61 1 (by decide +kernel)
      have q2006 : h1 61 1 = ra1 := by rw [← e3]; exact x_up_at
      have q2007 : h10 (ra1 + 7) 2 = h1 (ra1 + 7) 2 := jK 0 f12 (rg_T7_2_0_1 ta1) (by first | decide | omega) (by first | decide | omega) (by decide)
      have q2008 : h1 (ra1 + 7) 2 = h (ra1 + 7) 2 := by rw [← e3]; exact x_up_k (tne_7_61 ta1)
      have e2009 : rv h10 5 = (h (ra1 + 7) 2) := (congrArg (fun z => svq h10 z 5) (q2005.trans q2006)).trans (q2007.trans q2008)
      have m1985 : Tl tB tN (h ra1 7) (h (ra1 + 1) 2) (h (ra1 + 3) 2) (h (ra1 + 5) 2) (h (ra1 + 7) 2) (2147483662 - 2147483648) (rv h10 2) (rv h10 3) (rv h10 4) (rv h10 5) (h10 1 2) := by
        rw [show rv h10 2 = h (ra1 + 1) 2 by first | decide | omega, show rv h10 3 = h (ra1 + 3) 2 by first | decide | omega, show rv h10 4 = h (ra1 + 5) 2 by first | decide | omega, show rv h10 5 = h (ra1 + 7) 2 by first | decide | omega]
        exact Tl.zero ((show h10 1 2 = h10 1 2 by first | decide | omega).trans c16) (by first | decide | omega) rfl
      have m2010 : Ot ra1 h h1 := by rw [← e3]; exact Ot.oth Ot.refl (by decide)
      have m2011 : Ot ra1 h h10 := Ot.fr m2010 f12 (by decide)
      have q2012 : h10 1 1 = h1 1 1 := jK 0 f12 rg_1_1_0_1 (by first | decide | omega) (by first | decide | omega) (by decide)
      have q2013 : h1 1 1 = h 1 1 := by rw [← e3]; exact x_up_k (by decide)
      have z2014 := m1984.1
      have q2016 : h10 61 1 = h1 61 1 := f12 61 1 (by decide +kernel)
      have q2017 : h1 61 1 = ra1 := by rw [← e3]; exact x_up_at
      have q2018 : h10 (ra1 + 1) 2 = h1 (ra1 + 1) 2 := jK 0 f12 (rg_T1_2_0_1 ta1) (by first | decide | omega) (by first | decide | omega) (by decide)
      have q2019 : h1 (ra1 + 1) 2 = h (ra1 + 1) 2 := by rw [← e3]; exact x_up_k (tne_1_61 ta1)
      have q2020 : h10 61 1 = h1 61 1 := f12 61 1 (by decide +kernel)
      have q2021 : h1 61 1 = ra1 := by rw [← e3]; exact x_up_at
      have q2022 : h10 (ra1 + 3) 2 = h1 (ra1 + 3) 2 := jK 0 f12 (rg_T3_2_0_1 ta1) (by first | decide | omega) (by first | decide | omega) (by decide)
      have q2023 : h1 (ra1 + 3) 2 = h (ra1 + 3) 2 := by rw [← e3]; exact x_up_k (tne_3_61 ta1)
      have q2024 : h10 61 1 = h1 61 1 := f12 61 1 (by decide +kernel)
      have q2025 : h1 61 1 = ra1 := by rw [← e3]; exact x_up_at
      have q2026 : h10 (ra1 + 5) 2 = h1 (ra1 + 5) 2 := jK 0 f12 (rg_T5_2_0_1 ta1) (by first | decide | omega) (by first | decide | omega) (by decide)
      have q2027 : h1 (ra1 + 5) 2 = h (ra1 + 5) 2 := by rw [← e3]; exact x_up_k (tne_5_61 ta1)
      have q2028 : h10 61 1 = h1 61 1 := f12 61 1 (by decide +kernel)
      have q2029 : h1 61 1 = ra1 := by rw [← e3]; exact x_up_at
      have q2030 : h10 (ra1 + 7) 2 = h1 (ra1 + 7) 2 := jK 0 f12 (rg_T7_2_0_1 ta1) (by first | decide | omega) (by first | decide | omega) (by decide)
      have q2031 : h1 (ra1 + 7) 2 = h (ra1 + 7) 2 := by rw [← e3]; exact x_up_k (tne_7_61 ta1)
      have m2015 : TlF tB tN (h ra1 7) (h (ra1 + 1) 2) (h (ra1 + 3) 2) (h (ra1 + 5) 2) (h (ra1 + 7) 2) (2147483662 - 2147483648) (rv h10 2) (rv h10 3) (rv h10 4) (rv h10 5) (h10 1 2) := by
        rw [show rv h10 2 = h (ra1 + 1) 2 by first | decide | omega, show rv h10 3 = h (ra1 + 3) 2 by first | decide | omega, show rv h10 4 = h (ra1 + 5) 2 by first | decide | omega, show rv h10 5 = h (ra1 + 7) 2 by first | decide | omega]
        exact TlF.zero ((show h10 1 2 = h10 1 2 by first | decide | omega).trans c16) (by first | decide | omega) rfl
      exact p1449 _ 2147483648 h10 (Nat.lt_succ_self _) (by first | decide | omega) (by first | decide | omega) (by first | decide | omega) j11 (Fr.refl _ _) m1985 m2011 m2015
    have q28 : ¬ (2147483648 = 2147483648) := q28
    exfalso; omega
  have q26 : ¬ ((h10 1 2) < (h 1 1)) := q26
  refine x_const (np := 12) (x := 9223372043297226753) (a := 2147483649) (by decide +kernel) (by decide) (by decide) ?_
  refine x_goto (np := 15) (x := 16) (by decide +kernel) ?_
  refine x_retI (np := 17) (x := 0) (by decide +kernel) (by decide) (Or.inr ⟨by decide +kernel, by first | decide | omega, by first | decide | omega⟩) ⟨_, rfl, (by decide), ?_⟩
  refine x_ifz (k := 0) (tg := 24) (np := 22) (by decide +kernel) (by decide) (by decide) (fun q2032 => ?_) (fun q2033 => ?_)
  · have q2032 : 2147483649 = 2147483648 := q2032
    exfalso; omega
  have q2033 : ¬ (2147483649 = 2147483648) := q2033
  refine x_const (np := 23) (x := 9223372043297226753) (a := 2147483649) (by decide +kernel) (by decide) (by decide) ?_
  have b2034 := jB (e := 7) 0 hJ (rg_T0_7_0_1 ta1) (by first | decide | omega) (by first | decide | omega)
  have q2035 : h10 ra1 7 = h1 ra1 7 := jK 0 f12 (rg_T0_7_0_1 ta1) (by first | decide | omega) (by first | decide | omega) (by decide)
  have q2036 : h1 ra1 7 = h ra1 7 := by rw [← e3]; exact x_up_k (tne_0_61 ta1)
  have q2037 : h10 ra1 8 = h1 ra1 8 := jK 0 f12 (rg_T0_8_0_1 ta1) (by first | decide | omega) (by first | decide | omega) (by decide)
  have q2038 : h1 ra1 8 = h ra1 8 := by rw [← e3]; exact x_up_k (tne_0_61 ta1)
  have m2039 : Ot ra1 h h1 := by rw [← e3]; exact Ot.oth Ot.refl (by decide)
  have m2040 : Ot ra1 h h10 := Ot.fr m2039 f12 (by decide)
  have q2041 : h10 (ra1 + 1) 2 = h1 (ra1 + 1) 2 := jK 0 f12 (rg_T1_2_0_1 ta1) (by first | decide | omega) (by first | decide | omega) (by decide)
  have q2042 : h1 (ra1 + 1) 2 = h (ra1 + 1) 2 := by rw [← e3]; exact x_up_k (tne_1_61 ta1)
  have b2043 := jB (e := 2) 0 hJ (rg_T1_2_0_1 ta1) (by first | decide | omega) (by first | decide | omega)
  have q2044 : h10 (ra1 + 3) 2 = h1 (ra1 + 3) 2 := jK 0 f12 (rg_T3_2_0_1 ta1) (by first | decide | omega) (by first | decide | omega) (by decide)
  have q2045 : h1 (ra1 + 3) 2 = h (ra1 + 3) 2 := by rw [← e3]; exact x_up_k (tne_3_61 ta1)
  have b2046 := jB (e := 2) 0 hJ (rg_T3_2_0_1 ta1) (by first | decide | omega) (by first | decide | omega)
  have q2047 : h10 (ra1 + 5) 2 = h1 (ra1 + 5) 2 := jK 0 f12 (rg_T5_2_0_1 ta1) (by first | decide | omega) (by first | decide | omega) (by decide)
  have q2048 : h1 (ra1 + 5) 2 = h (ra1 + 5) 2 := by rw [← e3]; exact x_up_k (tne_5_61 ta1)
  have b2049 := jB (e := 2) 0 hJ (rg_T5_2_0_1 ta1) (by first | decide | omega) (by first | decide | omega)
  have q2050 : h10 (ra1 + 7) 2 = h1 (ra1 + 7) 2 := jK 0 f12 (rg_T7_2_0_1 ta1) (by first | decide | omega) (by first | decide | omega) (by decide)
  have q2051 : h1 (ra1 + 7) 2 = h (ra1 + 7) 2 := by rw [← e3]; exact x_up_k (tne_7_61 ta1)
  have b2052 := jB (e := 2) 0 hJ (rg_T7_2_0_1 ta1) (by first | decide | omega) (by first | decide | omega)
  have q2053 : h10 1 1 = h1 1 1 := jK 0 f12 rg_1_1_0_1 (by first | decide | omega) (by first | decide | omega) (by decide)
  have q2054 : h1 1 1 = h 1 1 := by rw [← e3]; exact x_up_k (by decide)
  have m2056 := Tp.fr m9 f12 (by decide) (by decide)
  have z2055 := m2056.1
  refine x_retI (np := 24) (x := 0) (by decide +kernel) (by decide) (Or.inr ⟨by decide +kernel, by first | decide | omega, by first | decide | omega⟩) ⟨_, rfl, (by decide), ?_⟩
  exact ⟨j11, f17, (by first | decide | omega), (by first | decide | omega), (by first | decide | omega), (Tt.s1 (by first | decide | omega) (Tt.nil c16 (by first | decide | omega) rfl) (by first | decide | omega) (by first | decide | omega) (by first | decide | omega) (by first | decide | omega)), m2040, (fun z => absurd z (by first | decide | omega))⟩
