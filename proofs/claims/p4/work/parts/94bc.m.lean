/-! ===== methods ===== -/
set_option maxHeartbeats 0 in
/-- LentNames$TownReader.readLine()Z -/
theorem c93_61 {sc : Nat × Nat} {d  : Nat} {h : xh} {tB : Nat → Nat} {tN : Nat} (hJ : J h) (hT : Tp tB tN h) : X sc 93 (d + 8) (xI fun r h' => J h' ∧ Fr 281474976710817 h h' ∧ (2147483648 ≤ r ∧ r ≤ 2147483649) ∧ (rv h' 0 = rv h 0) ∧ (rv h' 1 = rv h 1) ∧ line9 tB tN (rv h 0) (rv h 2) (rv h 3) (rv h 4) (rv h 5) (h 1 2) (rs5 r (h' 1 2) (rv h' 2) (rv h' 3) (rv h' 4) (rv h' 5)) ∧ Ot (h 61 1) h h') 0 0 0 [x_r 61] [] h := by
  have hF := Fr.refl 281474976710817 h
  refine x_aload (np := 1) (x := 0) (by decide +kernel) rfl (x_nc_le (by decide)) ?_
  have q1 : h 61 0 = 1 := by have z := jB (e := 0) 0 hJ rg_61_0_0_1 (by decide) (by decide); omega
  refine x_getR (np := 4) (x := 576) (f := 0) (q := 1) (by decide +kernel) (by decide) (by decide +kernel) q1 ?_
  refine x_ldcB (i := 0) (idx := 35) (tx := "lend") (by rw [tb_y93]; exact List.mem_of_getElem? (i := 0) rfl) (by decide) (by rw [tb_b93]; decide +kernel) ?_
  refine x_cP (t := 6) (mj := 77) (n := 2) (rc := 8) (ml := 4) (nr := 0) (np := 9) (as := [x_r 1, x_b (0 + 1)]) (rest := []) (lo1 := [x_r 1, x_b (0 + 1), 147573952589676412928, 147573952589676412928]) (by decide +kernel) (by decide) (by decide +kernel) (x_rb_of (by decide +kernel)) rfl rfl (x_wr (by decide) (x_wB (by decide) x_wn)) x_wn (by decide) rfl (c77_1_S0 hJ  (by decide) hT) (fun v2 l3 q4 => ?_)
  obtain ⟨b7, c5, c6⟩ := q4
  have b8 := jB (e := 2) 0 hJ rg_1_2_0_1 (by omega) (by omega)
  refine x_ifz (k := 0) (tg := 50) (np := 12) (by decide +kernel) (by decide) l3 (fun q9 => ?_) (fun q10 => ?_)
  · have q9 : v2 = 2147483648 := q9
    refine x_aload (np := 51) (x := 0) (by decide +kernel) rfl (x_nc_le (by decide)) ?_
    have q11 : h 61 0 = 1 := by have z := jB (e := 0) 0 hJ rg_61_0_0_1 (by decide) (by decide); omega
    refine x_getR (np := 54) (x := 576) (f := 0) (q := 1) (by decide +kernel) (by decide) (by decide +kernel) q11 ?_
    refine x_ldcB (i := 6) (idx := 58) (tx := "letter") (by rw [tb_y93]; exact List.mem_of_getElem? (i := 6) rfl) (by decide) (by rw [tb_b93]; decide +kernel) ?_
    refine x_cP (t := 6) (mj := 77) (n := 2) (rc := 8) (ml := 4) (nr := 0) (np := 59) (as := [x_r 1, x_b (6 + 1)]) (rest := []) (lo1 := [x_r 1, x_b (6 + 1), 147573952589676412928, 147573952589676412928]) (by decide +kernel) (by decide) (by decide +kernel) (x_rb_of (by decide +kernel)) rfl rfl (x_wr (by decide) (x_wB (by decide) x_wn)) x_wn (by decide) rfl (c77_1_S0 hJ  (by decide) hT) (fun v12 l13 q14 => ?_)
    obtain ⟨b17, c15, c16⟩ := q14
    refine x_ifz (k := 0) (tg := 100) (np := 62) (by decide +kernel) (by decide) l13 (fun q18 => ?_) (fun q19 => ?_)
    · have q18 : v12 = 2147483648 := q18
      refine x_aload (np := 101) (x := 0) (by decide +kernel) rfl (x_nc_le (by decide)) ?_
      have q20 : h 61 0 = 1 := by have z := jB (e := 0) 0 hJ rg_61_0_0_1 (by decide) (by decide); omega
      refine x_getR (np := 104) (x := 576) (f := 0) (q := 1) (by decide +kernel) (by decide) (by decide +kernel) q20 ?_
      refine x_ldcB (i := 8) (idx := 66) (tx := "debt") (by rw [tb_y93]; exact List.mem_of_getElem? (i := 8) rfl) (by decide) (by rw [tb_b93]; decide +kernel) ?_
      refine x_cP (t := 6) (mj := 77) (n := 2) (rc := 8) (ml := 4) (nr := 0) (np := 109) (as := [x_r 1, x_b (8 + 1)]) (rest := []) (lo1 := [x_r 1, x_b (8 + 1), 147573952589676412928, 147573952589676412928]) (by decide +kernel) (by decide) (by decide +kernel) (x_rb_of (by decide +kernel)) rfl rfl (x_wr (by decide) (x_wB (by decide) x_wn)) x_wn (by decide) rfl (c77_1_S0 hJ  (by decide) hT) (fun v21 l22 q23 => ?_)
      obtain ⟨b26, c24, c25⟩ := q23
      refine x_ifz (k := 0) (tg := 150) (np := 112) (by decide +kernel) (by decide) l22 (fun q27 => ?_) (fun q28 => ?_)
      · have q27 : v21 = 2147483648 := q27
        refine x_aload (np := 151) (x := 0) (by decide +kernel) rfl (x_nc_le (by decide)) ?_
        have q29 : h 61 0 = 1 := by have z := jB (e := 0) 0 hJ rg_61_0_0_1 (by decide) (by decide); omega
        refine x_getR (np := 154) (x := 576) (f := 0) (q := 1) (by decide +kernel) (by decide) (by decide +kernel) q29 ?_
        refine x_ldcB (i := 13) (idx := 74) (tx := "seen") (by rw [tb_y93]; exact List.mem_of_getElem? (i := 13) rfl) (by decide) (by rw [tb_b93]; decide +kernel) ?_
        refine x_cP (t := 6) (mj := 77) (n := 2) (rc := 8) (ml := 4) (nr := 0) (np := 159) (as := [x_r 1, x_b (13 + 1)]) (rest := []) (lo1 := [x_r 1, x_b (13 + 1), 147573952589676412928, 147573952589676412928]) (by decide +kernel) (by decide) (by decide +kernel) (x_rb_of (by decide +kernel)) rfl rfl (x_wr (by decide) (x_wB (by decide) x_wn)) x_wn (by decide) rfl (c77_1_S0 hJ  (by decide) hT) (fun v30 l31 q32 => ?_)
        obtain ⟨b35, c33, c34⟩ := q32
        refine x_ifz (k := 0) (tg := 200) (np := 162) (by decide +kernel) (by decide) l31 (fun q36 => ?_) (fun q37 => ?_)
        · have q36 : v30 = 2147483648 := q36
          refine x_aload (np := 201) (x := 0) (by decide +kernel) rfl (x_nc_le (by decide)) ?_
          have q38 : h 61 0 = 1 := by have z := jB (e := 0) 0 hJ rg_61_0_0_1 (by decide) (by decide); omega
          refine x_getR (np := 204) (x := 576) (f := 0) (q := 1) (by decide +kernel) (by decide) (by decide +kernel) q38 ?_
          refine x_ldcB (i := 17) (idx := 82) (tx := "late") (by rw [tb_y93]; exact List.mem_of_getElem? (i := 17) rfl) (by decide) (by rw [tb_b93]; decide +kernel) ?_
          refine x_cI (t := 6) (mj := 78) (n := 2) (rc := 8) (ml := 2) (nr := 0) (np := 209) (as := [x_r 1, x_b (17 + 1)]) (rest := []) (lo1 := [x_r 1, x_b (17 + 1)]) (by decide +kernel) (by decide) (by decide +kernel) (x_rb_of (by decide +kernel)) rfl rfl (x_wr (by decide) (x_wB (by decide) x_wn)) x_wn (by decide) rfl (c78_1_S0 hJ  (by decide) hT) (fun v39 h42 l40 q41 => ?_)
          obtain ⟨j43, f44, b45, c46, c47, c48⟩ := q41
          have f49 := Fr.trans hF f44 (by decide)
          have b50 := jB (e := 2) 0 j43 rg_1_2_0_1 (by omega) (by omega)
          have b51 : iv_tl 17 = 4 := by decide
          refine x_ifz (k := 0) (tg := 217) (np := 212) (by decide +kernel) (by decide) l40 (fun q52 => ?_) (fun q53 => ?_)
          · have q52 : v39 = 2147483648 := q52
            have b54 := c47 (by omega)
            refine x_aload (np := 218) (x := 0) (by decide +kernel) rfl (x_nc_le (by decide)) ?_
            have q55 : h42 61 0 = 1 := by have z := jB (e := 0) 0 j43 rg_61_0_0_1 (by decide) (by decide); omega
            refine x_getR (np := 221) (x := 576) (f := 0) (q := 1) (by decide +kernel) (by decide) (by decide +kernel) q55 ?_
            refine x_ldcB (i := 19) (idx := 87) (tx := "dies") (by rw [tb_y93]; exact List.mem_of_getElem? (i := 19) rfl) (by decide) (by rw [tb_b93]; decide +kernel) ?_
            have m59 := Tp.fr hT f44 (by decide) (by decide)
            refine x_cI (t := 6) (mj := 78) (n := 2) (rc := 8) (ml := 2) (nr := 0) (np := 226) (as := [x_r 1, x_b (19 + 1)]) (rest := []) (lo1 := [x_r 1, x_b (19 + 1)]) (by decide +kernel) (by decide) (by decide +kernel) (x_rb_of (by decide +kernel)) rfl rfl (x_wr (by decide) (x_wB (by decide) x_wn)) x_wn (by decide) rfl (c78_1_S0 j43  (by decide) m59) (fun v56 h60 l57 q58 => ?_)
            obtain ⟨j61, f62, b63, c64, c65, c66⟩ := q58
            have f67 := Fr.trans f49 f62 (by decide)
            have b68 := jB (e := 2) 0 j61 rg_1_2_0_1 (by omega) (by omega)
            have b69 : iv_tl 19 = 4 := by decide
            refine x_ifz (k := 0) (tg := 234) (np := 229) (by decide +kernel) (by decide) l57 (fun q70 => ?_) (fun q71 => ?_)
            · have q70 : v56 = 2147483648 := q70
              have b72 := c65 (by omega)
              refine x_aload (np := 235) (x := 0) (by decide +kernel) rfl (x_nc_le (by decide)) ?_
              have q73 : h60 61 0 = 1 := by have z := jB (e := 0) 0 j61 rg_61_0_0_1 (by decide) (by decide); omega
              refine x_getR (np := 238) (x := 576) (f := 0) (q := 1) (by decide +kernel) (by decide) (by decide +kernel) q73 ?_
              refine x_ldcB (i := 20) (idx := 92) (tx := "court") (by rw [tb_y93]; exact List.mem_of_getElem? (i := 20) rfl) (by decide) (by rw [tb_b93]; decide +kernel) ?_
              have m77 := Tp.fr m59 f62 (by decide) (by decide)
              refine x_cI (t := 6) (mj := 78) (n := 2) (rc := 8) (ml := 2) (nr := 0) (np := 243) (as := [x_r 1, x_b (20 + 1)]) (rest := []) (lo1 := [x_r 1, x_b (20 + 1)]) (by decide +kernel) (by decide) (by decide +kernel) (x_rb_of (by decide +kernel)) rfl rfl (x_wr (by decide) (x_wB (by decide) x_wn)) x_wn (by decide) rfl (c78_1_S0 j61  (by decide) m77) (fun v74 h78 l75 q76 => ?_)
              obtain ⟨j79, f80, b81, c82, c83, c84⟩ := q76
              have f85 := Fr.trans f67 f80 (by decide)
              have b86 := jB (e := 2) 0 j79 rg_1_2_0_1 (by omega) (by omega)
              have b87 : iv_tl 20 = 5 := by decide
              refine x_ifz (k := 0) (tg := 257) (np := 246) (by decide +kernel) (by decide) l75 (fun q88 => ?_) (fun q89 => ?_)
              · have q88 : v74 = 2147483648 := q88
                have b90 := c83 (by omega)
                refine x_const (np := 258) (x := 9223372039002259456) (a := 2147483648) (by decide +kernel) (by decide) (by decide) ?_
                have t91 : tw (h 61 1) := hJ.2.2.2.2.1
                have b92 := jB (e := 7) 0 hJ (rg_T0_7_0_1 t91) (by omega) (by omega)
                have e93 : rv h 0 = (h (h 61 1) 7) := (congrArg (fun z => svq h z 0) rfl).trans rfl
                have q94 : h78 61 1 = h60 61 1 := f80 61 1 (by decide +kernel)
                have q95 : h60 61 1 = h42 61 1 := f62 61 1 (by decide +kernel)
                have q96 : h42 61 1 = h 61 1 := f44 61 1 (by decide +kernel)
                have q97 : h78 (h 61 1) 7 = h60 (h 61 1) 7 := jK 0 f80 (rg_T0_7_0_1 t91) (by omega) (by omega) (by decide)
                have q98 : h60 (h 61 1) 7 = h42 (h 61 1) 7 := jK 0 f62 (rg_T0_7_0_1 t91) (by omega) (by omega) (by decide)
                have q99 : h42 (h 61 1) 7 = h (h 61 1) 7 := jK 0 f44 (rg_T0_7_0_1 t91) (by omega) (by omega) (by decide)
                have e100 : rv h78 0 = (h (h 61 1) 7) := (congrArg (fun z => svq h78 z 0) ((q94.trans q95).trans q96)).trans ((q97.trans q98).trans q99)
                have e101 : rv h 1 = (h (h 61 1) 8) := (congrArg (fun z => svq h z 1) rfl).trans rfl
                have q102 : h78 61 1 = h60 61 1 := f80 61 1 (by decide +kernel)
                have q103 : h60 61 1 = h42 61 1 := f62 61 1 (by decide +kernel)
                have q104 : h42 61 1 = h 61 1 := f44 61 1 (by decide +kernel)
                have q105 : h78 (h 61 1) 8 = h60 (h 61 1) 8 := jK 0 f80 (rg_T0_8_0_1 t91) (by omega) (by omega) (by decide)
                have q106 : h60 (h 61 1) 8 = h42 (h 61 1) 8 := jK 0 f62 (rg_T0_8_0_1 t91) (by omega) (by omega) (by decide)
                have q107 : h42 (h 61 1) 8 = h (h 61 1) 8 := jK 0 f44 (rg_T0_8_0_1 t91) (by omega) (by omega) (by decide)
                have e108 : rv h78 1 = (h (h 61 1) 8) := (congrArg (fun z => svq h78 z 1) ((q102.trans q103).trans q104)).trans ((q105.trans q106).trans q107)
                have q109 : h78 61 1 = h60 61 1 := f80 61 1 (by decide +kernel)
                have q110 : h60 61 1 = h42 61 1 := f62 61 1 (by decide +kernel)
                have q111 : h42 61 1 = h 61 1 := f44 61 1 (by decide +kernel)
                have q112 : h78 (h 61 1) 7 = h60 (h 61 1) 7 := jK 0 f80 (rg_T0_7_0_1 t91) (by omega) (by omega) (by decide)
                have q113 : h60 (h 61 1) 7 = h42 (h 61 1) 7 := jK 0 f62 (rg_T0_7_0_1 t91) (by omega) (by omega) (by decide)
                have q114 : h42 (h 61 1) 7 = h (h 61 1) 7 := jK 0 f44 (rg_T0_7_0_1 t91) (by omega) (by omega) (by decide)
                have q115 : h78 61 1 = h60 61 1 := f80 61 1 (by decide +kernel)
                have q116 : h60 61 1 = h42 61 1 := f62 61 1 (by decide +kernel)
                have q117 : h42 61 1 = h 61 1 := f44 61 1 (by decide +kernel)
                have q118 : h78 (h 61 1) 8 = h60 (h 61 1) 8 := jK 0 f80 (rg_T0_8_0_1 t91) (by omega) (by omega) (by decide)
                have q119 : h60 (h 61 1) 8 = h42 (h 61 1) 8 := jK 0 f62 (rg_T0_8_0_1 t91) (by omega) (by omega) (by decide)
                have q120 : h42 (h 61 1) 8 = h (h 61 1) 8 := jK 0 f44 (rg_T0_8_0_1 t91) (by omega) (by omega) (by decide)
                have b121 := jB (e := 2) 0 hJ (rg_T1_2_0_1 t91) (by omega) (by omega)
                have e122 : rv h 2 = (h ((h 61 1) + 1) 2) := (congrArg (fun z => svq h z 2) rfl).trans rfl
                have q123 : h78 61 1 = h60 61 1 := f80 61 1 (by decide +kernel)
                have q124 : h60 61 1 = h42 61 1 := f62 61 1 (by decide +kernel)
                have q125 : h42 61 1 = h 61 1 := f44 61 1 (by decide +kernel)
                have q126 : h78 ((h 61 1) + 1) 2 = h60 ((h 61 1) + 1) 2 := jK 0 f80 (rg_T1_2_0_1 t91) (by omega) (by omega) (by decide)
                have q127 : h60 ((h 61 1) + 1) 2 = h42 ((h 61 1) + 1) 2 := jK 0 f62 (rg_T1_2_0_1 t91) (by omega) (by omega) (by decide)
                have q128 : h42 ((h 61 1) + 1) 2 = h ((h 61 1) + 1) 2 := jK 0 f44 (rg_T1_2_0_1 t91) (by omega) (by omega) (by decide)
                have e129 : rv h78 2 = (h ((h 61 1) + 1) 2) := (congrArg (fun z => svq h78 z 2) ((q123.trans q124).trans q125)).trans ((q126.trans q127).trans q128)
                have b130 := jB (e := 2) 0 hJ (rg_T3_2_0_1 t91) (by omega) (by omega)
                have e131 : rv h 3 = (h ((h 61 1) + 3) 2) := (congrArg (fun z => svq h z 3) rfl).trans rfl
                have q132 : h78 61 1 = h60 61 1 := f80 61 1 (by decide +kernel)
                have q133 : h60 61 1 = h42 61 1 := f62 61 1 (by decide +kernel)
                have q134 : h42 61 1 = h 61 1 := f44 61 1 (by decide +kernel)
                have q135 : h78 ((h 61 1) + 3) 2 = h60 ((h 61 1) + 3) 2 := jK 0 f80 (rg_T3_2_0_1 t91) (by omega) (by omega) (by decide)
                have q136 : h60 ((h 61 1) + 3) 2 = h42 ((h 61 1) + 3) 2 := jK 0 f62 (rg_T3_2_0_1 t91) (by omega) (by omega) (by decide)
                have q137 : h42 ((h 61 1) + 3) 2 = h ((h 61 1) + 3) 2 := jK 0 f44 (rg_T3_2_0_1 t91) (by omega) (by omega) (by decide)
                have e138 : rv h78 3 = (h ((h 61 1) + 3) 2) := (congrArg (fun z => svq h78 z 3) ((q132.trans q133).trans q134)).trans ((q135.trans q136).trans q137)
                have b139 := jB (e := 2) 0 hJ (rg_T5_2_0_1 t91) (by omega) (by omega)
                have e140 : rv h 4 = (h ((h 61 1) + 5) 2) := (congrArg (fun z => svq h z 4) rfl).trans rfl
                have q141 : h78 61 1 = h60 61 1 := f80 61 1 (by decide +kernel)
                have q142 : h60 61 1 = h42 61 1 := f62 61 1 (by decide +kernel)
                have q143 : h42 61 1 = h 61 1 := f44 61 1 (by decide +kernel)
                have q144 : h78 ((h 61 1) + 5) 2 = h60 ((h 61 1) + 5) 2 := jK 0 f80 (rg_T5_2_0_1 t91) (by omega) (by omega) (by decide)
                have q145 : h60 ((h 61 1) + 5) 2 = h42 ((h 61 1) + 5) 2 := jK 0 f62 (rg_T5_2_0_1 t91) (by omega) (by omega) (by decide)
                have q146 : h42 ((h 61 1) + 5) 2 = h ((h 61 1) + 5) 2 := jK 0 f44 (rg_T5_2_0_1 t91) (by omega) (by omega) (by decide)
                have e147 : rv h78 4 = (h ((h 61 1) + 5) 2) := (congrArg (fun z => svq h78 z 4) ((q141.trans q142).trans q143)).trans ((q144.trans q145).trans q146)
                have b148 := jB (e := 2) 0 hJ (rg_T7_2_0_1 t91) (by omega) (by omega)
                have e149 : rv h 5 = (h ((h 61 1) + 7) 2) := (congrArg (fun z => svq h z 5) rfl).trans rfl
                have q150 : h78 61 1 = h60 61 1 := f80 61 1 (by decide +kernel)
                have q151 : h60 61 1 = h42 61 1 := f62 61 1 (by decide +kernel)
                have q152 : h42 61 1 = h 61 1 := f44 61 1 (by decide +kernel)
                have q153 : h78 ((h 61 1) + 7) 2 = h60 ((h 61 1) + 7) 2 := jK 0 f80 (rg_T7_2_0_1 t91) (by omega) (by omega) (by decide)
                have q154 : h60 ((h 61 1) + 7) 2 = h42 ((h 61 1) + 7) 2 := jK 0 f62 (rg_T7_2_0_1 t91) (by omega) (by omega) (by decide)
                have q155 : h42 ((h 61 1) + 7) 2 = h ((h 61 1) + 7) 2 := jK 0 f44 (rg_T7_2_0_1 t91) (by omega) (by omega) (by decide)
                have e156 : rv h78 5 = (h ((h 61 1) + 7) 2) := (congrArg (fun z => svq h78 z 5) ((q150.trans q151).trans q152)).trans ((q153.trans q154).trans q155)
                have w157 : ¬ Wd tB tN 0 (h 1 2) := by rw [show h 1 2 = h 1 2 from rfl]; exact (Is.no c6 (by omega))
                have w158 : ¬ Wd tB tN 6 (h 1 2) := by rw [show h 1 2 = h 1 2 from rfl]; exact (Is.no c16 (by omega))
                have w159 : ¬ Wd tB tN 8 (h 1 2) := by rw [show h 1 2 = h 1 2 from rfl]; exact (Is.no c25 (by omega))
                have w160 : ¬ Wd tB tN 13 (h 1 2) := by rw [show h 1 2 = h 1 2 from rfl]; exact (Is.no c34 (by omega))
                obtain ⟨w161, e162⟩ := Tk.no c48 (by omega)
                have w163 : ¬ Wd tB tN 17 (h 1 2) := by rw [show h 1 2 = h 1 2 from rfl]; exact w161
                obtain ⟨w164, e165⟩ := Tk.no c66 (by omega)
                have w166 : ¬ Wd tB tN 19 (h 1 2) := by rw [show h 1 2 = h42 1 2 from (show h42 1 2 = h 1 2 by omega).symm]; exact w164
                obtain ⟨w167, e168⟩ := Tk.no c84 (by omega)
                have w169 : ¬ Wd tB tN 20 (h 1 2) := by rw [show h 1 2 = h60 1 2 from (show h60 1 2 = h 1 2 by omega).symm]; exact w167
                have m170 : Ot (h 61 1) h h42 := Ot.fr Ot.refl f44 (by decide)
                have m171 : Ot (h 61 1) h h60 := Ot.fr m170 f62 (by decide)
                have m172 : Ot (h 61 1) h h78 := Ot.fr m171 f80 (by decide)
                refine x_retI (np := 259) (x := 0) (by decide +kernel) (by decide) (Or.inr ⟨by decide +kernel, by omega, by omega⟩) ⟨_, rfl, (by decide), ?_⟩
                exact ⟨j79, f85, (by omega), (by omega), (by omega), (l9_no w157 w158 w159 w160 w163 w166 w169 (by omega)), m172⟩
              have q89 : ¬ (v74 = 2147483648) := q89
              have b173 := c82 (by omega)
              refine x_aload (np := 247) (x := 0) (by decide +kernel) rfl (x_nc_le (by decide)) ?_
              have m177 := Tp.fr m77 f80 (by decide) (by decide)
              refine x_cI (t := 6) (mj := 97) (n := 1) (rc := 10) (ml := 2) (nr := 0) (np := 250) (as := [x_r 61]) (rest := []) (lo1 := [x_r 61, 147573952589676412928]) (by decide +kernel) (by decide) (by decide +kernel) (x_rb_of (by decide +kernel)) rfl rfl (x_wr (by decide) x_wn) x_wn (by decide) rfl (c97_61 j79  m177) (fun v174 h178 l175 q176 => ?_)
              obtain ⟨j179, f180, b181, c182⟩ := q176
              have f183 := Fr.trans f85 f180 (by decide)
              refine x_ifz (k := 0) (tg := 257) (np := 253) (by decide +kernel) (by decide) l175 (fun q184 => ?_) (fun q185 => ?_)
              · have q184 : v174 = 2147483648 := q184
                refine x_const (np := 258) (x := 9223372039002259456) (a := 2147483648) (by decide +kernel) (by decide) (by decide) ?_
                have t186 : tw (h 61 1) := hJ.2.2.2.2.1
                have b187 := jB (e := 7) 0 hJ (rg_T0_7_0_1 t186) (by omega) (by omega)
                have e188 : rv h 0 = (h (h 61 1) 7) := (congrArg (fun z => svq h z 0) rfl).trans rfl
                have q189 : h178 61 1 = h78 61 1 := f180 61 1 (by decide +kernel)
                have q190 : h78 61 1 = h60 61 1 := f80 61 1 (by decide +kernel)
                have q191 : h60 61 1 = h42 61 1 := f62 61 1 (by decide +kernel)
                have q192 : h42 61 1 = h 61 1 := f44 61 1 (by decide +kernel)
                have q193 : h178 (h 61 1) 7 = h78 (h 61 1) 7 := jK 0 f180 (rg_T0_7_0_1 t186) (by omega) (by omega) (by decide)
                have q194 : h78 (h 61 1) 7 = h60 (h 61 1) 7 := jK 0 f80 (rg_T0_7_0_1 t186) (by omega) (by omega) (by decide)
                have q195 : h60 (h 61 1) 7 = h42 (h 61 1) 7 := jK 0 f62 (rg_T0_7_0_1 t186) (by omega) (by omega) (by decide)
                have q196 : h42 (h 61 1) 7 = h (h 61 1) 7 := jK 0 f44 (rg_T0_7_0_1 t186) (by omega) (by omega) (by decide)
                have e197 : rv h178 0 = (h (h 61 1) 7) := (congrArg (fun z => svq h178 z 0) (((q189.trans q190).trans q191).trans q192)).trans (((q193.trans q194).trans q195).trans q196)
                have e198 : rv h 1 = (h (h 61 1) 8) := (congrArg (fun z => svq h z 1) rfl).trans rfl
                have q199 : h178 61 1 = h78 61 1 := f180 61 1 (by decide +kernel)
                have q200 : h78 61 1 = h60 61 1 := f80 61 1 (by decide +kernel)
                have q201 : h60 61 1 = h42 61 1 := f62 61 1 (by decide +kernel)
                have q202 : h42 61 1 = h 61 1 := f44 61 1 (by decide +kernel)
                have q203 : h178 (h 61 1) 8 = h78 (h 61 1) 8 := jK 0 f180 (rg_T0_8_0_1 t186) (by omega) (by omega) (by decide)
                have q204 : h78 (h 61 1) 8 = h60 (h 61 1) 8 := jK 0 f80 (rg_T0_8_0_1 t186) (by omega) (by omega) (by decide)
                have q205 : h60 (h 61 1) 8 = h42 (h 61 1) 8 := jK 0 f62 (rg_T0_8_0_1 t186) (by omega) (by omega) (by decide)
                have q206 : h42 (h 61 1) 8 = h (h 61 1) 8 := jK 0 f44 (rg_T0_8_0_1 t186) (by omega) (by omega) (by decide)
                have e207 : rv h178 1 = (h (h 61 1) 8) := (congrArg (fun z => svq h178 z 1) (((q199.trans q200).trans q201).trans q202)).trans (((q203.trans q204).trans q205).trans q206)
                have q208 : h178 61 1 = h78 61 1 := f180 61 1 (by decide +kernel)
                have q209 : h78 61 1 = h60 61 1 := f80 61 1 (by decide +kernel)
                have q210 : h60 61 1 = h42 61 1 := f62 61 1 (by decide +kernel)
                have q211 : h42 61 1 = h 61 1 := f44 61 1 (by decide +kernel)
                have q212 : h178 (h 61 1) 7 = h78 (h 61 1) 7 := jK 0 f180 (rg_T0_7_0_1 t186) (by omega) (by omega) (by decide)
                have q213 : h78 (h 61 1) 7 = h60 (h 61 1) 7 := jK 0 f80 (rg_T0_7_0_1 t186) (by omega) (by omega) (by decide)
                have q214 : h60 (h 61 1) 7 = h42 (h 61 1) 7 := jK 0 f62 (rg_T0_7_0_1 t186) (by omega) (by omega) (by decide)
                have q215 : h42 (h 61 1) 7 = h (h 61 1) 7 := jK 0 f44 (rg_T0_7_0_1 t186) (by omega) (by omega) (by decide)
                have q216 : h178 61 1 = h78 61 1 := f180 61 1 (by decide +kernel)
                have q217 : h78 61 1 = h60 61 1 := f80 61 1 (by decide +kernel)
                have q218 : h60 61 1 = h42 61 1 := f62 61 1 (by decide +kernel)
                have q219 : h42 61 1 = h 61 1 := f44 61 1 (by decide +kernel)
                have q220 : h178 (h 61 1) 8 = h78 (h 61 1) 8 := jK 0 f180 (rg_T0_8_0_1 t186) (by omega) (by omega) (by decide)
                have q221 : h78 (h 61 1) 8 = h60 (h 61 1) 8 := jK 0 f80 (rg_T0_8_0_1 t186) (by omega) (by omega) (by decide)
                have q222 : h60 (h 61 1) 8 = h42 (h 61 1) 8 := jK 0 f62 (rg_T0_8_0_1 t186) (by omega) (by omega) (by decide)
                have q223 : h42 (h 61 1) 8 = h (h 61 1) 8 := jK 0 f44 (rg_T0_8_0_1 t186) (by omega) (by omega) (by decide)
                have b224 := jB (e := 2) 0 hJ (rg_T1_2_0_1 t186) (by omega) (by omega)
                have e225 : rv h 2 = (h ((h 61 1) + 1) 2) := (congrArg (fun z => svq h z 2) rfl).trans rfl
                have q226 : h178 61 1 = h78 61 1 := f180 61 1 (by decide +kernel)
                have q227 : h78 61 1 = h60 61 1 := f80 61 1 (by decide +kernel)
                have q228 : h60 61 1 = h42 61 1 := f62 61 1 (by decide +kernel)
                have q229 : h42 61 1 = h 61 1 := f44 61 1 (by decide +kernel)
                have q230 : h178 ((h 61 1) + 1) 2 = h78 ((h 61 1) + 1) 2 := jK 0 f180 (rg_T1_2_0_1 t186) (by omega) (by omega) (by decide)
                have q231 : h78 ((h 61 1) + 1) 2 = h60 ((h 61 1) + 1) 2 := jK 0 f80 (rg_T1_2_0_1 t186) (by omega) (by omega) (by decide)
                have q232 : h60 ((h 61 1) + 1) 2 = h42 ((h 61 1) + 1) 2 := jK 0 f62 (rg_T1_2_0_1 t186) (by omega) (by omega) (by decide)
                have q233 : h42 ((h 61 1) + 1) 2 = h ((h 61 1) + 1) 2 := jK 0 f44 (rg_T1_2_0_1 t186) (by omega) (by omega) (by decide)
                have e234 : rv h178 2 = (h ((h 61 1) + 1) 2) := (congrArg (fun z => svq h178 z 2) (((q226.trans q227).trans q228).trans q229)).trans (((q230.trans q231).trans q232).trans q233)
                have b235 := jB (e := 2) 0 hJ (rg_T3_2_0_1 t186) (by omega) (by omega)
                have e236 : rv h 3 = (h ((h 61 1) + 3) 2) := (congrArg (fun z => svq h z 3) rfl).trans rfl
                have q237 : h178 61 1 = h78 61 1 := f180 61 1 (by decide +kernel)
                have q238 : h78 61 1 = h60 61 1 := f80 61 1 (by decide +kernel)
                have q239 : h60 61 1 = h42 61 1 := f62 61 1 (by decide +kernel)
                have q240 : h42 61 1 = h 61 1 := f44 61 1 (by decide +kernel)
                have q241 : h178 ((h 61 1) + 3) 2 = h78 ((h 61 1) + 3) 2 := jK 0 f180 (rg_T3_2_0_1 t186) (by omega) (by omega) (by decide)
                have q242 : h78 ((h 61 1) + 3) 2 = h60 ((h 61 1) + 3) 2 := jK 0 f80 (rg_T3_2_0_1 t186) (by omega) (by omega) (by decide)
                have q243 : h60 ((h 61 1) + 3) 2 = h42 ((h 61 1) + 3) 2 := jK 0 f62 (rg_T3_2_0_1 t186) (by omega) (by omega) (by decide)
                have q244 : h42 ((h 61 1) + 3) 2 = h ((h 61 1) + 3) 2 := jK 0 f44 (rg_T3_2_0_1 t186) (by omega) (by omega) (by decide)
                have e245 : rv h178 3 = (h ((h 61 1) + 3) 2) := (congrArg (fun z => svq h178 z 3) (((q237.trans q238).trans q239).trans q240)).trans (((q241.trans q242).trans q243).trans q244)
                have b246 := jB (e := 2) 0 hJ (rg_T5_2_0_1 t186) (by omega) (by omega)
                have e247 : rv h 4 = (h ((h 61 1) + 5) 2) := (congrArg (fun z => svq h z 4) rfl).trans rfl
                have q248 : h178 61 1 = h78 61 1 := f180 61 1 (by decide +kernel)
                have q249 : h78 61 1 = h60 61 1 := f80 61 1 (by decide +kernel)
                have q250 : h60 61 1 = h42 61 1 := f62 61 1 (by decide +kernel)
                have q251 : h42 61 1 = h 61 1 := f44 61 1 (by decide +kernel)
                have q252 : h178 ((h 61 1) + 5) 2 = h78 ((h 61 1) + 5) 2 := jK 0 f180 (rg_T5_2_0_1 t186) (by omega) (by omega) (by decide)
                have q253 : h78 ((h 61 1) + 5) 2 = h60 ((h 61 1) + 5) 2 := jK 0 f80 (rg_T5_2_0_1 t186) (by omega) (by omega) (by decide)
                have q254 : h60 ((h 61 1) + 5) 2 = h42 ((h 61 1) + 5) 2 := jK 0 f62 (rg_T5_2_0_1 t186) (by omega) (by omega) (by decide)
                have q255 : h42 ((h 61 1) + 5) 2 = h ((h 61 1) + 5) 2 := jK 0 f44 (rg_T5_2_0_1 t186) (by omega) (by omega) (by decide)
                have e256 : rv h178 4 = (h ((h 61 1) + 5) 2) := (congrArg (fun z => svq h178 z 4) (((q248.trans q249).trans q250).trans q251)).trans (((q252.trans q253).trans q254).trans q255)
                have b257 := jB (e := 2) 0 hJ (rg_T7_2_0_1 t186) (by omega) (by omega)
                have e258 : rv h 5 = (h ((h 61 1) + 7) 2) := (congrArg (fun z => svq h z 5) rfl).trans rfl
                have q259 : h178 61 1 = h78 61 1 := f180 61 1 (by decide +kernel)
                have q260 : h78 61 1 = h60 61 1 := f80 61 1 (by decide +kernel)
                have q261 : h60 61 1 = h42 61 1 := f62 61 1 (by decide +kernel)
                have q262 : h42 61 1 = h 61 1 := f44 61 1 (by decide +kernel)
                have q263 : h178 ((h 61 1) + 7) 2 = h78 ((h 61 1) + 7) 2 := jK 0 f180 (rg_T7_2_0_1 t186) (by omega) (by omega) (by decide)
                have q264 : h78 ((h 61 1) + 7) 2 = h60 ((h 61 1) + 7) 2 := jK 0 f80 (rg_T7_2_0_1 t186) (by omega) (by omega) (by decide)
                have q265 : h60 ((h 61 1) + 7) 2 = h42 ((h 61 1) + 7) 2 := jK 0 f62 (rg_T7_2_0_1 t186) (by omega) (by omega) (by decide)
                have q266 : h42 ((h 61 1) + 7) 2 = h ((h 61 1) + 7) 2 := jK 0 f44 (rg_T7_2_0_1 t186) (by omega) (by omega) (by decide)
                have e267 : rv h178 5 = (h ((h 61 1) + 7) 2) := (congrArg (fun z => svq h178 z 5) (((q259.trans q260).trans q261).trans q262)).trans (((q263.trans q264).trans q265).trans q266)
                have w268 : ¬ Wd tB tN 0 (h 1 2) := by rw [show h 1 2 = h 1 2 from rfl]; exact (Is.no c6 (by omega))
                have w269 : ¬ Wd tB tN 6 (h 1 2) := by rw [show h 1 2 = h 1 2 from rfl]; exact (Is.no c16 (by omega))
                have w270 : ¬ Wd tB tN 8 (h 1 2) := by rw [show h 1 2 = h 1 2 from rfl]; exact (Is.no c25 (by omega))
                have w271 : ¬ Wd tB tN 13 (h 1 2) := by rw [show h 1 2 = h 1 2 from rfl]; exact (Is.no c34 (by omega))
                obtain ⟨w272, e273⟩ := Tk.no c48 (by omega)
                have w274 : ¬ Wd tB tN 17 (h 1 2) := by rw [show h 1 2 = h 1 2 from rfl]; exact w272
                obtain ⟨w275, e276⟩ := Tk.no c66 (by omega)
                have w277 : ¬ Wd tB tN 19 (h 1 2) := by rw [show h 1 2 = h42 1 2 from (show h42 1 2 = h 1 2 by omega).symm]; exact w275
                obtain ⟨w278, e279⟩ := Tk.yes c84 (by omega)
                have m280 : Ot (h 61 1) h h42 := Ot.fr Ot.refl f44 (by decide)
                have m281 : Ot (h 61 1) h h60 := Ot.fr m280 f62 (by decide)
                have m282 : Ot (h 61 1) h h78 := Ot.fr m281 f80 (by decide)
                have m283 : Ot (h 61 1) h h178 := Ot.fr m282 f180 (by decide)
                refine x_retI (np := 259) (x := 0) (by decide +kernel) (by decide) (Or.inr ⟨by decide +kernel, by omega, by omega⟩) ⟨_, rfl, (by decide), ?_⟩
                exact ⟨j179, f183, (by omega), (by omega), (by omega), (l9_court w278 (show h60 1 2 = h 1 2 by omega) e279 rfl c182 (by omega) (by omega) (fun z => absurd z (by omega))), m283⟩
              have q185 : ¬ (v174 = 2147483648) := q185
              refine x_const (np := 254) (x := 9223372043297226753) (a := 2147483649) (by decide +kernel) (by decide) (by decide) ?_
              refine x_goto (np := 257) (x := 258) (by decide +kernel) ?_
              have t284 : tw (h 61 1) := hJ.2.2.2.2.1
              have b285 := jB (e := 7) 0 hJ (rg_T0_7_0_1 t284) (by omega) (by omega)
              have e286 : rv h 0 = (h (h 61 1) 7) := (congrArg (fun z => svq h z 0) rfl).trans rfl
              have q287 : h178 61 1 = h78 61 1 := f180 61 1 (by decide +kernel)
              have q288 : h78 61 1 = h60 61 1 := f80 61 1 (by decide +kernel)
              have q289 : h60 61 1 = h42 61 1 := f62 61 1 (by decide +kernel)
              have q290 : h42 61 1 = h 61 1 := f44 61 1 (by decide +kernel)
              have q291 : h178 (h 61 1) 7 = h78 (h 61 1) 7 := jK 0 f180 (rg_T0_7_0_1 t284) (by omega) (by omega) (by decide)
              have q292 : h78 (h 61 1) 7 = h60 (h 61 1) 7 := jK 0 f80 (rg_T0_7_0_1 t284) (by omega) (by omega) (by decide)
              have q293 : h60 (h 61 1) 7 = h42 (h 61 1) 7 := jK 0 f62 (rg_T0_7_0_1 t284) (by omega) (by omega) (by decide)
              have q294 : h42 (h 61 1) 7 = h (h 61 1) 7 := jK 0 f44 (rg_T0_7_0_1 t284) (by omega) (by omega) (by decide)
              have e295 : rv h178 0 = (h (h 61 1) 7) := (congrArg (fun z => svq h178 z 0) (((q287.trans q288).trans q289).trans q290)).trans (((q291.trans q292).trans q293).trans q294)
              have e296 : rv h 1 = (h (h 61 1) 8) := (congrArg (fun z => svq h z 1) rfl).trans rfl
              have q297 : h178 61 1 = h78 61 1 := f180 61 1 (by decide +kernel)
              have q298 : h78 61 1 = h60 61 1 := f80 61 1 (by decide +kernel)
              have q299 : h60 61 1 = h42 61 1 := f62 61 1 (by decide +kernel)
              have q300 : h42 61 1 = h 61 1 := f44 61 1 (by decide +kernel)
              have q301 : h178 (h 61 1) 8 = h78 (h 61 1) 8 := jK 0 f180 (rg_T0_8_0_1 t284) (by omega) (by omega) (by decide)
              have q302 : h78 (h 61 1) 8 = h60 (h 61 1) 8 := jK 0 f80 (rg_T0_8_0_1 t284) (by omega) (by omega) (by decide)
              have q303 : h60 (h 61 1) 8 = h42 (h 61 1) 8 := jK 0 f62 (rg_T0_8_0_1 t284) (by omega) (by omega) (by decide)
              have q304 : h42 (h 61 1) 8 = h (h 61 1) 8 := jK 0 f44 (rg_T0_8_0_1 t284) (by omega) (by omega) (by decide)
              have e305 : rv h178 1 = (h (h 61 1) 8) := (congrArg (fun z => svq h178 z 1) (((q297.trans q298).trans q299).trans q300)).trans (((q301.trans q302).trans q303).trans q304)
              have q306 : h178 61 1 = h78 61 1 := f180 61 1 (by decide +kernel)
              have q307 : h78 61 1 = h60 61 1 := f80 61 1 (by decide +kernel)
              have q308 : h60 61 1 = h42 61 1 := f62 61 1 (by decide +kernel)
              have q309 : h42 61 1 = h 61 1 := f44 61 1 (by decide +kernel)
              have q310 : h178 (h 61 1) 7 = h78 (h 61 1) 7 := jK 0 f180 (rg_T0_7_0_1 t284) (by omega) (by omega) (by decide)
              have q311 : h78 (h 61 1) 7 = h60 (h 61 1) 7 := jK 0 f80 (rg_T0_7_0_1 t284) (by omega) (by omega) (by decide)
              have q312 : h60 (h 61 1) 7 = h42 (h 61 1) 7 := jK 0 f62 (rg_T0_7_0_1 t284) (by omega) (by omega) (by decide)
              have q313 : h42 (h 61 1) 7 = h (h 61 1) 7 := jK 0 f44 (rg_T0_7_0_1 t284) (by omega) (by omega) (by decide)
              have q314 : h178 61 1 = h78 61 1 := f180 61 1 (by decide +kernel)
              have q315 : h78 61 1 = h60 61 1 := f80 61 1 (by decide +kernel)
              have q316 : h60 61 1 = h42 61 1 := f62 61 1 (by decide +kernel)
              have q317 : h42 61 1 = h 61 1 := f44 61 1 (by decide +kernel)
              have q318 : h178 (h 61 1) 8 = h78 (h 61 1) 8 := jK 0 f180 (rg_T0_8_0_1 t284) (by omega) (by omega) (by decide)
              have q319 : h78 (h 61 1) 8 = h60 (h 61 1) 8 := jK 0 f80 (rg_T0_8_0_1 t284) (by omega) (by omega) (by decide)
              have q320 : h60 (h 61 1) 8 = h42 (h 61 1) 8 := jK 0 f62 (rg_T0_8_0_1 t284) (by omega) (by omega) (by decide)
              have q321 : h42 (h 61 1) 8 = h (h 61 1) 8 := jK 0 f44 (rg_T0_8_0_1 t284) (by omega) (by omega) (by decide)
              have b322 := jB (e := 2) 0 hJ (rg_T1_2_0_1 t284) (by omega) (by omega)
              have e323 : rv h 2 = (h ((h 61 1) + 1) 2) := (congrArg (fun z => svq h z 2) rfl).trans rfl
              have q324 : h178 61 1 = h78 61 1 := f180 61 1 (by decide +kernel)
              have q325 : h78 61 1 = h60 61 1 := f80 61 1 (by decide +kernel)
              have q326 : h60 61 1 = h42 61 1 := f62 61 1 (by decide +kernel)
              have q327 : h42 61 1 = h 61 1 := f44 61 1 (by decide +kernel)
              have q328 : h178 ((h 61 1) + 1) 2 = h78 ((h 61 1) + 1) 2 := jK 0 f180 (rg_T1_2_0_1 t284) (by omega) (by omega) (by decide)
              have q329 : h78 ((h 61 1) + 1) 2 = h60 ((h 61 1) + 1) 2 := jK 0 f80 (rg_T1_2_0_1 t284) (by omega) (by omega) (by decide)
              have q330 : h60 ((h 61 1) + 1) 2 = h42 ((h 61 1) + 1) 2 := jK 0 f62 (rg_T1_2_0_1 t284) (by omega) (by omega) (by decide)
              have q331 : h42 ((h 61 1) + 1) 2 = h ((h 61 1) + 1) 2 := jK 0 f44 (rg_T1_2_0_1 t284) (by omega) (by omega) (by decide)
              have e332 : rv h178 2 = (h ((h 61 1) + 1) 2) := (congrArg (fun z => svq h178 z 2) (((q324.trans q325).trans q326).trans q327)).trans (((q328.trans q329).trans q330).trans q331)
              have b333 := jB (e := 2) 0 hJ (rg_T3_2_0_1 t284) (by omega) (by omega)
              have e334 : rv h 3 = (h ((h 61 1) + 3) 2) := (congrArg (fun z => svq h z 3) rfl).trans rfl
              have q335 : h178 61 1 = h78 61 1 := f180 61 1 (by decide +kernel)
              have q336 : h78 61 1 = h60 61 1 := f80 61 1 (by decide +kernel)
              have q337 : h60 61 1 = h42 61 1 := f62 61 1 (by decide +kernel)
              have q338 : h42 61 1 = h 61 1 := f44 61 1 (by decide +kernel)
              have q339 : h178 ((h 61 1) + 3) 2 = h78 ((h 61 1) + 3) 2 := jK 0 f180 (rg_T3_2_0_1 t284) (by omega) (by omega) (by decide)
              have q340 : h78 ((h 61 1) + 3) 2 = h60 ((h 61 1) + 3) 2 := jK 0 f80 (rg_T3_2_0_1 t284) (by omega) (by omega) (by decide)
              have q341 : h60 ((h 61 1) + 3) 2 = h42 ((h 61 1) + 3) 2 := jK 0 f62 (rg_T3_2_0_1 t284) (by omega) (by omega) (by decide)
              have q342 : h42 ((h 61 1) + 3) 2 = h ((h 61 1) + 3) 2 := jK 0 f44 (rg_T3_2_0_1 t284) (by omega) (by omega) (by decide)
              have e343 : rv h178 3 = (h ((h 61 1) + 3) 2) := (congrArg (fun z => svq h178 z 3) (((q335.trans q336).trans q337).trans q338)).trans (((q339.trans q340).trans q341).trans q342)
              have b344 := jB (e := 2) 0 hJ (rg_T5_2_0_1 t284) (by omega) (by omega)
              have e345 : rv h 4 = (h ((h 61 1) + 5) 2) := (congrArg (fun z => svq h z 4) rfl).trans rfl
              have q346 : h178 61 1 = h78 61 1 := f180 61 1 (by decide +kernel)
              have q347 : h78 61 1 = h60 61 1 := f80 61 1 (by decide +kernel)
              have q348 : h60 61 1 = h42 61 1 := f62 61 1 (by decide +kernel)
              have q349 : h42 61 1 = h 61 1 := f44 61 1 (by decide +kernel)
              have q350 : h178 ((h 61 1) + 5) 2 = h78 ((h 61 1) + 5) 2 := jK 0 f180 (rg_T5_2_0_1 t284) (by omega) (by omega) (by decide)
              have q351 : h78 ((h 61 1) + 5) 2 = h60 ((h 61 1) + 5) 2 := jK 0 f80 (rg_T5_2_0_1 t284) (by omega) (by omega) (by decide)
              have q352 : h60 ((h 61 1) + 5) 2 = h42 ((h 61 1) + 5) 2 := jK 0 f62 (rg_T5_2_0_1 t284) (by omega) (by omega) (by decide)
              have q353 : h42 ((h 61 1) + 5) 2 = h ((h 61 1) + 5) 2 := jK 0 f44 (rg_T5_2_0_1 t284) (by omega) (by omega) (by decide)
              have e354 : rv h178 4 = (h ((h 61 1) + 5) 2) := (congrArg (fun z => svq h178 z 4) (((q346.trans q347).trans q348).trans q349)).trans (((q350.trans q351).trans q352).trans q353)
              have b355 := jB (e := 2) 0 hJ (rg_T7_2_0_1 t284) (by omega) (by omega)
              have e356 : rv h 5 = (h ((h 61 1) + 7) 2) := (congrArg (fun z => svq h z 5) rfl).trans rfl
              have q357 : h178 61 1 = h78 61 1 := f180 61 1 (by decide +kernel)
              have q358 : h78 61 1 = h60 61 1 := f80 61 1 (by decide +kernel)
              have q359 : h60 61 1 = h42 61 1 := f62 61 1 (by decide +kernel)
              have q360 : h42 61 1 = h 61 1 := f44 61 1 (by decide +kernel)
              have q361 : h178 ((h 61 1) + 7) 2 = h78 ((h 61 1) + 7) 2 := jK 0 f180 (rg_T7_2_0_1 t284) (by omega) (by omega) (by decide)
              have q362 : h78 ((h 61 1) + 7) 2 = h60 ((h 61 1) + 7) 2 := jK 0 f80 (rg_T7_2_0_1 t284) (by omega) (by omega) (by decide)
              have q363 : h60 ((h 61 1) + 7) 2 = h42 ((h 61 1) + 7) 2 := jK 0 f62 (rg_T7_2_0_1 t284) (by omega) (by omega) (by decide)
              have q364 : h42 ((h 61 1) + 7) 2 = h ((h 61 1) + 7) 2 := jK 0 f44 (rg_T7_2_0_1 t284) (by omega) (by omega) (by decide)
              have e365 : rv h178 5 = (h ((h 61 1) + 7) 2) := (congrArg (fun z => svq h178 z 5) (((q357.trans q358).trans q359).trans q360)).trans (((q361.trans q362).trans q363).trans q364)
              have w366 : ¬ Wd tB tN 0 (h 1 2) := by rw [show h 1 2 = h 1 2 from rfl]; exact (Is.no c6 (by omega))
              have w367 : ¬ Wd tB tN 6 (h 1 2) := by rw [show h 1 2 = h 1 2 from rfl]; exact (Is.no c16 (by omega))
              have w368 : ¬ Wd tB tN 8 (h 1 2) := by rw [show h 1 2 = h 1 2 from rfl]; exact (Is.no c25 (by omega))
              have w369 : ¬ Wd tB tN 13 (h 1 2) := by rw [show h 1 2 = h 1 2 from rfl]; exact (Is.no c34 (by omega))
              obtain ⟨w370, e371⟩ := Tk.no c48 (by omega)
              have w372 : ¬ Wd tB tN 17 (h 1 2) := by rw [show h 1 2 = h 1 2 from rfl]; exact w370
              obtain ⟨w373, e374⟩ := Tk.no c66 (by omega)
              have w375 : ¬ Wd tB tN 19 (h 1 2) := by rw [show h 1 2 = h42 1 2 from (show h42 1 2 = h 1 2 by omega).symm]; exact w373
              obtain ⟨w376, e377⟩ := Tk.yes c84 (by omega)
              have m378 : Ot (h 61 1) h h42 := Ot.fr Ot.refl f44 (by decide)
              have m379 : Ot (h 61 1) h h60 := Ot.fr m378 f62 (by decide)
              have m380 : Ot (h 61 1) h h78 := Ot.fr m379 f80 (by decide)
              have m381 : Ot (h 61 1) h h178 := Ot.fr m380 f180 (by decide)
              refine x_retI (np := 259) (x := 0) (by decide +kernel) (by decide) (Or.inr ⟨by decide +kernel, by omega, by omega⟩) ⟨_, rfl, (by decide), ?_⟩
              exact ⟨j179, f183, (by omega), (by omega), (by omega), (l9_court w376 (show h60 1 2 = h 1 2 by omega) e377 rfl c182 (by omega) (by omega) (fun z => ⟨rfl, by omega, by omega, by omega, by omega⟩)), m381⟩
            have q71 : ¬ (v56 = 2147483648) := q71
            have b382 := c64 (by omega)
            refine x_aload (np := 230) (x := 0) (by decide +kernel) rfl (x_nc_le (by decide)) ?_
            have m386 := Tp.fr m59 f62 (by decide) (by decide)
            refine x_cI (t := 6) (mj := 96) (n := 1) (rc := 10) (ml := 3) (nr := 0) (np := 233) (as := [x_r 61]) (rest := []) (lo1 := [x_r 61, 147573952589676412928, 147573952589676412928]) (by decide +kernel) (by decide) (by decide +kernel) (x_rb_of (by decide +kernel)) rfl rfl (x_wr (by decide) x_wn) x_wn (by decide) rfl (c96_61 j61  m386) (fun v383 h387 l384 q385 => ?_)
            obtain ⟨j388, f389, b390, c391⟩ := q385
            have f392 := Fr.trans f67 f389 (by decide)
            have t393 : tw (h 61 1) := hJ.2.2.2.2.1
            have b394 := jB (e := 7) 0 hJ (rg_T0_7_0_1 t393) (by omega) (by omega)
            have e395 : rv h 0 = (h (h 61 1) 7) := (congrArg (fun z => svq h z 0) rfl).trans rfl
            have q396 : h387 61 1 = h60 61 1 := f389 61 1 (by decide +kernel)
            have q397 : h60 61 1 = h42 61 1 := f62 61 1 (by decide +kernel)
            have q398 : h42 61 1 = h 61 1 := f44 61 1 (by decide +kernel)
            have q399 : h387 (h 61 1) 7 = h60 (h 61 1) 7 := jK 0 f389 (rg_T0_7_0_1 t393) (by omega) (by omega) (by decide)
            have q400 : h60 (h 61 1) 7 = h42 (h 61 1) 7 := jK 0 f62 (rg_T0_7_0_1 t393) (by omega) (by omega) (by decide)
            have q401 : h42 (h 61 1) 7 = h (h 61 1) 7 := jK 0 f44 (rg_T0_7_0_1 t393) (by omega) (by omega) (by decide)
            have e402 : rv h387 0 = (h (h 61 1) 7) := (congrArg (fun z => svq h387 z 0) ((q396.trans q397).trans q398)).trans ((q399.trans q400).trans q401)
            have e403 : rv h 1 = (h (h 61 1) 8) := (congrArg (fun z => svq h z 1) rfl).trans rfl
            have q404 : h387 61 1 = h60 61 1 := f389 61 1 (by decide +kernel)
            have q405 : h60 61 1 = h42 61 1 := f62 61 1 (by decide +kernel)
            have q406 : h42 61 1 = h 61 1 := f44 61 1 (by decide +kernel)
            have q407 : h387 (h 61 1) 8 = h60 (h 61 1) 8 := jK 0 f389 (rg_T0_8_0_1 t393) (by omega) (by omega) (by decide)
            have q408 : h60 (h 61 1) 8 = h42 (h 61 1) 8 := jK 0 f62 (rg_T0_8_0_1 t393) (by omega) (by omega) (by decide)
            have q409 : h42 (h 61 1) 8 = h (h 61 1) 8 := jK 0 f44 (rg_T0_8_0_1 t393) (by omega) (by omega) (by decide)
            have e410 : rv h387 1 = (h (h 61 1) 8) := (congrArg (fun z => svq h387 z 1) ((q404.trans q405).trans q406)).trans ((q407.trans q408).trans q409)
            have q411 : h387 61 1 = h60 61 1 := f389 61 1 (by decide +kernel)
            have q412 : h60 61 1 = h42 61 1 := f62 61 1 (by decide +kernel)
            have q413 : h42 61 1 = h 61 1 := f44 61 1 (by decide +kernel)
            have q414 : h387 (h 61 1) 7 = h60 (h 61 1) 7 := jK 0 f389 (rg_T0_7_0_1 t393) (by omega) (by omega) (by decide)
            have q415 : h60 (h 61 1) 7 = h42 (h 61 1) 7 := jK 0 f62 (rg_T0_7_0_1 t393) (by omega) (by omega) (by decide)
            have q416 : h42 (h 61 1) 7 = h (h 61 1) 7 := jK 0 f44 (rg_T0_7_0_1 t393) (by omega) (by omega) (by decide)
            have q417 : h387 61 1 = h60 61 1 := f389 61 1 (by decide +kernel)
            have q418 : h60 61 1 = h42 61 1 := f62 61 1 (by decide +kernel)
            have q419 : h42 61 1 = h 61 1 := f44 61 1 (by decide +kernel)
            have q420 : h387 (h 61 1) 8 = h60 (h 61 1) 8 := jK 0 f389 (rg_T0_8_0_1 t393) (by omega) (by omega) (by decide)
            have q421 : h60 (h 61 1) 8 = h42 (h 61 1) 8 := jK 0 f62 (rg_T0_8_0_1 t393) (by omega) (by omega) (by decide)
            have q422 : h42 (h 61 1) 8 = h (h 61 1) 8 := jK 0 f44 (rg_T0_8_0_1 t393) (by omega) (by omega) (by decide)
            have b423 := jB (e := 2) 0 hJ (rg_T1_2_0_1 t393) (by omega) (by omega)
            have e424 : rv h 2 = (h ((h 61 1) + 1) 2) := (congrArg (fun z => svq h z 2) rfl).trans rfl
            have q425 : h387 61 1 = h60 61 1 := f389 61 1 (by decide +kernel)
            have q426 : h60 61 1 = h42 61 1 := f62 61 1 (by decide +kernel)
            have q427 : h42 61 1 = h 61 1 := f44 61 1 (by decide +kernel)
            have q428 : h387 ((h 61 1) + 1) 2 = h60 ((h 61 1) + 1) 2 := jK 0 f389 (rg_T1_2_0_1 t393) (by omega) (by omega) (by decide)
            have q429 : h60 ((h 61 1) + 1) 2 = h42 ((h 61 1) + 1) 2 := jK 0 f62 (rg_T1_2_0_1 t393) (by omega) (by omega) (by decide)
            have q430 : h42 ((h 61 1) + 1) 2 = h ((h 61 1) + 1) 2 := jK 0 f44 (rg_T1_2_0_1 t393) (by omega) (by omega) (by decide)
            have e431 : rv h387 2 = (h ((h 61 1) + 1) 2) := (congrArg (fun z => svq h387 z 2) ((q425.trans q426).trans q427)).trans ((q428.trans q429).trans q430)
            have b432 := jB (e := 2) 0 hJ (rg_T3_2_0_1 t393) (by omega) (by omega)
            have e433 : rv h 3 = (h ((h 61 1) + 3) 2) := (congrArg (fun z => svq h z 3) rfl).trans rfl
            have q434 : h387 61 1 = h60 61 1 := f389 61 1 (by decide +kernel)
            have q435 : h60 61 1 = h42 61 1 := f62 61 1 (by decide +kernel)
            have q436 : h42 61 1 = h 61 1 := f44 61 1 (by decide +kernel)
            have q437 : h387 ((h 61 1) + 3) 2 = h60 ((h 61 1) + 3) 2 := jK 0 f389 (rg_T3_2_0_1 t393) (by omega) (by omega) (by decide)
            have q438 : h60 ((h 61 1) + 3) 2 = h42 ((h 61 1) + 3) 2 := jK 0 f62 (rg_T3_2_0_1 t393) (by omega) (by omega) (by decide)
            have q439 : h42 ((h 61 1) + 3) 2 = h ((h 61 1) + 3) 2 := jK 0 f44 (rg_T3_2_0_1 t393) (by omega) (by omega) (by decide)
            have e440 : rv h387 3 = (h ((h 61 1) + 3) 2) := (congrArg (fun z => svq h387 z 3) ((q434.trans q435).trans q436)).trans ((q437.trans q438).trans q439)
            have b441 := jB (e := 2) 0 hJ (rg_T5_2_0_1 t393) (by omega) (by omega)
            have e442 : rv h 4 = (h ((h 61 1) + 5) 2) := (congrArg (fun z => svq h z 4) rfl).trans rfl
            have q443 : h387 61 1 = h60 61 1 := f389 61 1 (by decide +kernel)
            have q444 : h60 61 1 = h42 61 1 := f62 61 1 (by decide +kernel)
            have q445 : h42 61 1 = h 61 1 := f44 61 1 (by decide +kernel)
            have q446 : h387 ((h 61 1) + 5) 2 = h60 ((h 61 1) + 5) 2 := jK 0 f389 (rg_T5_2_0_1 t393) (by omega) (by omega) (by decide)
            have q447 : h60 ((h 61 1) + 5) 2 = h42 ((h 61 1) + 5) 2 := jK 0 f62 (rg_T5_2_0_1 t393) (by omega) (by omega) (by decide)
            have q448 : h42 ((h 61 1) + 5) 2 = h ((h 61 1) + 5) 2 := jK 0 f44 (rg_T5_2_0_1 t393) (by omega) (by omega) (by decide)
            have e449 : rv h387 4 = (h ((h 61 1) + 5) 2) := (congrArg (fun z => svq h387 z 4) ((q443.trans q444).trans q445)).trans ((q446.trans q447).trans q448)
            have b450 := jB (e := 2) 0 hJ (rg_T7_2_0_1 t393) (by omega) (by omega)
            have e451 : rv h 5 = (h ((h 61 1) + 7) 2) := (congrArg (fun z => svq h z 5) rfl).trans rfl
            have q452 : h387 61 1 = h60 61 1 := f389 61 1 (by decide +kernel)
            have q453 : h60 61 1 = h42 61 1 := f62 61 1 (by decide +kernel)
            have q454 : h42 61 1 = h 61 1 := f44 61 1 (by decide +kernel)
            have q455 : h387 ((h 61 1) + 7) 2 = h60 ((h 61 1) + 7) 2 := jK 0 f389 (rg_T7_2_0_1 t393) (by omega) (by omega) (by decide)
            have q456 : h60 ((h 61 1) + 7) 2 = h42 ((h 61 1) + 7) 2 := jK 0 f62 (rg_T7_2_0_1 t393) (by omega) (by omega) (by decide)
            have q457 : h42 ((h 61 1) + 7) 2 = h ((h 61 1) + 7) 2 := jK 0 f44 (rg_T7_2_0_1 t393) (by omega) (by omega) (by decide)
            have e458 : rv h387 5 = (h ((h 61 1) + 7) 2) := (congrArg (fun z => svq h387 z 5) ((q452.trans q453).trans q454)).trans ((q455.trans q456).trans q457)
            have w459 : ¬ Wd tB tN 0 (h 1 2) := by rw [show h 1 2 = h 1 2 from rfl]; exact (Is.no c6 (by omega))
            have w460 : ¬ Wd tB tN 6 (h 1 2) := by rw [show h 1 2 = h 1 2 from rfl]; exact (Is.no c16 (by omega))
            have w461 : ¬ Wd tB tN 8 (h 1 2) := by rw [show h 1 2 = h 1 2 from rfl]; exact (Is.no c25 (by omega))
            have w462 : ¬ Wd tB tN 13 (h 1 2) := by rw [show h 1 2 = h 1 2 from rfl]; exact (Is.no c34 (by omega))
            obtain ⟨w463, e464⟩ := Tk.no c48 (by omega)
            have w465 : ¬ Wd tB tN 17 (h 1 2) := by rw [show h 1 2 = h 1 2 from rfl]; exact w463
            obtain ⟨w466, e467⟩ := Tk.yes c66 (by omega)
            have q468 : h60 61 1 = h42 61 1 := f62 61 1 (by decide +kernel)
            have q469 : h42 61 1 = h 61 1 := f44 61 1 (by decide +kernel)
            have q470 : h60 (h 61 1) 7 = h42 (h 61 1) 7 := jK 0 f62 (rg_T0_7_0_1 t393) (by omega) (by omega) (by decide)
            have q471 : h42 (h 61 1) 7 = h (h 61 1) 7 := jK 0 f44 (rg_T0_7_0_1 t393) (by omega) (by omega) (by decide)
            have e472 : rv h60 0 = (h (h 61 1) 7) := (congrArg (fun z => svq h60 z 0) (q468.trans q469)).trans (q470.trans q471)
            have k473 : dies9 tB tN (rv h 0) (h60 1 2) (rs v383 (h387 1 2)) := by rw [show rv h 0 = rv h60 0 by omega]; exact c391
            have m474 : Ot (h 61 1) h h42 := Ot.fr Ot.refl f44 (by decide)
            have m475 : Ot (h 61 1) h h60 := Ot.fr m474 f62 (by decide)
            have m476 : Ot (h 61 1) h h387 := Ot.fr m475 f389 (by decide)
            refine x_retI (np := 234) (x := 0) (by decide +kernel) l384 (Or.inr ⟨by decide +kernel, by omega, by omega⟩) ⟨_, rfl, l384, ?_⟩
            exact ⟨j388, f392, (by omega), (by omega), (by omega), (l9_dies w466 (show h42 1 2 = h 1 2 by omega) e467 rfl k473 (by omega) (by omega) (fun z => ⟨rfl, by omega, by omega, by omega, by omega⟩)), m476⟩
          have q53 : ¬ (v39 = 2147483648) := q53
          have b477 := c46 (by omega)
          refine x_aload (np := 213) (x := 0) (by decide +kernel) rfl (x_nc_le (by decide)) ?_
          have m481 := Tp.fr hT f44 (by decide) (by decide)
          refine x_cI (t := 6) (mj := 95) (n := 1) (rc := 10) (ml := 2) (nr := 0) (np := 216) (as := [x_r 61]) (rest := []) (lo1 := [x_r 61, 147573952589676412928]) (by decide +kernel) (by decide) (by decide +kernel) (x_rb_of (by decide +kernel)) rfl rfl (x_wr (by decide) x_wn) x_wn (by decide) rfl (c95_61 j43  m481) (fun v478 h482 l479 q480 => ?_)
          obtain ⟨j483, f484, b485, c486⟩ := q480
          have f487 := Fr.trans f49 f484 (by decide)
          have t488 : tw (h 61 1) := hJ.2.2.2.2.1
          have b489 := jB (e := 7) 0 hJ (rg_T0_7_0_1 t488) (by omega) (by omega)
          have e490 : rv h 0 = (h (h 61 1) 7) := (congrArg (fun z => svq h z 0) rfl).trans rfl
          have q491 : h482 61 1 = h42 61 1 := f484 61 1 (by decide +kernel)
          have q492 : h42 61 1 = h 61 1 := f44 61 1 (by decide +kernel)
          have q493 : h482 (h 61 1) 7 = h42 (h 61 1) 7 := jK 0 f484 (rg_T0_7_0_1 t488) (by omega) (by omega) (by decide)
          have q494 : h42 (h 61 1) 7 = h (h 61 1) 7 := jK 0 f44 (rg_T0_7_0_1 t488) (by omega) (by omega) (by decide)
          have e495 : rv h482 0 = (h (h 61 1) 7) := (congrArg (fun z => svq h482 z 0) (q491.trans q492)).trans (q493.trans q494)
          have e496 : rv h 1 = (h (h 61 1) 8) := (congrArg (fun z => svq h z 1) rfl).trans rfl
          have q497 : h482 61 1 = h42 61 1 := f484 61 1 (by decide +kernel)
          have q498 : h42 61 1 = h 61 1 := f44 61 1 (by decide +kernel)
          have q499 : h482 (h 61 1) 8 = h42 (h 61 1) 8 := jK 0 f484 (rg_T0_8_0_1 t488) (by omega) (by omega) (by decide)
          have q500 : h42 (h 61 1) 8 = h (h 61 1) 8 := jK 0 f44 (rg_T0_8_0_1 t488) (by omega) (by omega) (by decide)
          have e501 : rv h482 1 = (h (h 61 1) 8) := (congrArg (fun z => svq h482 z 1) (q497.trans q498)).trans (q499.trans q500)
          have q502 : h482 61 1 = h42 61 1 := f484 61 1 (by decide +kernel)
          have q503 : h42 61 1 = h 61 1 := f44 61 1 (by decide +kernel)
          have q504 : h482 (h 61 1) 7 = h42 (h 61 1) 7 := jK 0 f484 (rg_T0_7_0_1 t488) (by omega) (by omega) (by decide)
          have q505 : h42 (h 61 1) 7 = h (h 61 1) 7 := jK 0 f44 (rg_T0_7_0_1 t488) (by omega) (by omega) (by decide)
          have q506 : h482 61 1 = h42 61 1 := f484 61 1 (by decide +kernel)
          have q507 : h42 61 1 = h 61 1 := f44 61 1 (by decide +kernel)
          have q508 : h482 (h 61 1) 8 = h42 (h 61 1) 8 := jK 0 f484 (rg_T0_8_0_1 t488) (by omega) (by omega) (by decide)
          have q509 : h42 (h 61 1) 8 = h (h 61 1) 8 := jK 0 f44 (rg_T0_8_0_1 t488) (by omega) (by omega) (by decide)
          have b510 := jB (e := 2) 0 hJ (rg_T1_2_0_1 t488) (by omega) (by omega)
          have e511 : rv h 2 = (h ((h 61 1) + 1) 2) := (congrArg (fun z => svq h z 2) rfl).trans rfl
          have q512 : h482 61 1 = h42 61 1 := f484 61 1 (by decide +kernel)
          have q513 : h42 61 1 = h 61 1 := f44 61 1 (by decide +kernel)
          have q514 : h482 ((h 61 1) + 1) 2 = h42 ((h 61 1) + 1) 2 := jK 0 f484 (rg_T1_2_0_1 t488) (by omega) (by omega) (by decide)
          have q515 : h42 ((h 61 1) + 1) 2 = h ((h 61 1) + 1) 2 := jK 0 f44 (rg_T1_2_0_1 t488) (by omega) (by omega) (by decide)
          have e516 : rv h482 2 = (h ((h 61 1) + 1) 2) := (congrArg (fun z => svq h482 z 2) (q512.trans q513)).trans (q514.trans q515)
          have b517 := jB (e := 2) 0 hJ (rg_T3_2_0_1 t488) (by omega) (by omega)
          have e518 : rv h 3 = (h ((h 61 1) + 3) 2) := (congrArg (fun z => svq h z 3) rfl).trans rfl
          have q519 : h482 61 1 = h42 61 1 := f484 61 1 (by decide +kernel)
          have q520 : h42 61 1 = h 61 1 := f44 61 1 (by decide +kernel)
          have q521 : h482 ((h 61 1) + 3) 2 = h42 ((h 61 1) + 3) 2 := jK 0 f484 (rg_T3_2_0_1 t488) (by omega) (by omega) (by decide)
          have q522 : h42 ((h 61 1) + 3) 2 = h ((h 61 1) + 3) 2 := jK 0 f44 (rg_T3_2_0_1 t488) (by omega) (by omega) (by decide)
          have e523 : rv h482 3 = (h ((h 61 1) + 3) 2) := (congrArg (fun z => svq h482 z 3) (q519.trans q520)).trans (q521.trans q522)
          have b524 := jB (e := 2) 0 hJ (rg_T5_2_0_1 t488) (by omega) (by omega)
          have e525 : rv h 4 = (h ((h 61 1) + 5) 2) := (congrArg (fun z => svq h z 4) rfl).trans rfl
          have q526 : h482 61 1 = h42 61 1 := f484 61 1 (by decide +kernel)
          have q527 : h42 61 1 = h 61 1 := f44 61 1 (by decide +kernel)
          have q528 : h482 ((h 61 1) + 5) 2 = h42 ((h 61 1) + 5) 2 := jK 0 f484 (rg_T5_2_0_1 t488) (by omega) (by omega) (by decide)
          have q529 : h42 ((h 61 1) + 5) 2 = h ((h 61 1) + 5) 2 := jK 0 f44 (rg_T5_2_0_1 t488) (by omega) (by omega) (by decide)
          have e530 : rv h482 4 = (h ((h 61 1) + 5) 2) := (congrArg (fun z => svq h482 z 4) (q526.trans q527)).trans (q528.trans q529)
          have b531 := jB (e := 2) 0 hJ (rg_T7_2_0_1 t488) (by omega) (by omega)
          have e532 : rv h 5 = (h ((h 61 1) + 7) 2) := (congrArg (fun z => svq h z 5) rfl).trans rfl
          have q533 : h482 61 1 = h42 61 1 := f484 61 1 (by decide +kernel)
          have q534 : h42 61 1 = h 61 1 := f44 61 1 (by decide +kernel)
          have q535 : h482 ((h 61 1) + 7) 2 = h42 ((h 61 1) + 7) 2 := jK 0 f484 (rg_T7_2_0_1 t488) (by omega) (by omega) (by decide)
          have q536 : h42 ((h 61 1) + 7) 2 = h ((h 61 1) + 7) 2 := jK 0 f44 (rg_T7_2_0_1 t488) (by omega) (by omega) (by decide)
          have e537 : rv h482 5 = (h ((h 61 1) + 7) 2) := (congrArg (fun z => svq h482 z 5) (q533.trans q534)).trans (q535.trans q536)
          have w538 : ¬ Wd tB tN 0 (h 1 2) := by rw [show h 1 2 = h 1 2 from rfl]; exact (Is.no c6 (by omega))
          have w539 : ¬ Wd tB tN 6 (h 1 2) := by rw [show h 1 2 = h 1 2 from rfl]; exact (Is.no c16 (by omega))
          have w540 : ¬ Wd tB tN 8 (h 1 2) := by rw [show h 1 2 = h 1 2 from rfl]; exact (Is.no c25 (by omega))
          have w541 : ¬ Wd tB tN 13 (h 1 2) := by rw [show h 1 2 = h 1 2 from rfl]; exact (Is.no c34 (by omega))
          obtain ⟨w542, e543⟩ := Tk.yes c48 (by omega)
          have q544 : h42 61 1 = h 61 1 := f44 61 1 (by decide +kernel)
          have q545 : h42 ((h 61 1) + 1) 2 = h ((h 61 1) + 1) 2 := jK 0 f44 (rg_T1_2_0_1 t488) (by omega) (by omega) (by decide)
          have e546 : rv h42 2 = (h ((h 61 1) + 1) 2) := (congrArg (fun z => svq h42 z 2) q544).trans q545
          have k547 : late9 tB tN (rv h 2) (h42 1 2) (rs v478 (h482 1 2)) := by rw [show rv h 2 = rv h42 2 by omega]; exact c486
          have m548 : Ot (h 61 1) h h42 := Ot.fr Ot.refl f44 (by decide)
          have m549 : Ot (h 61 1) h h482 := Ot.fr m548 f484 (by decide)
          refine x_retI (np := 217) (x := 0) (by decide +kernel) l479 (Or.inr ⟨by decide +kernel, by omega, by omega⟩) ⟨_, rfl, l479, ?_⟩
          exact ⟨j483, f487, (by omega), (by omega), (by omega), (l9_late w542 rfl e543 rfl k547 (by omega) (by omega) (fun z => ⟨rfl, by omega, by omega, by omega, by omega⟩)), m549⟩
        have q37 : ¬ (v30 = 2147483648) := q37
        have b550 := c33 (by omega)
        refine x_aload (np := 163) (x := 0) (by decide +kernel) rfl (x_nc_le (by decide)) ?_
        have t551 : tw (h 61 1) := hJ.2.2.2.2.1
        refine x_getR (np := 166) (x := 577) (f := 1) (q := (h 61 1)) (by decide +kernel) (by decide) (by decide +kernel) rfl ?_
        have q552 : h (h 61 1) 3 = ((h 61 1) + 7) := tf_0_3 hJ t551
        refine x_getR (np := 169) (x := 515) (f := 3) (q := ((h 61 1) + 7)) (by decide +kernel) (by decide) (tg_0_515_3_1 t551) q552 ?_
        refine x_nI (t := 6) (mj := 66) (n := 1) (rc := 7) (ml := 1) (nr := 0) (np := 172) (as := [x_r ((h 61 1) + 7)]) (rest := []) (lo1 := [x_r ((h 61 1) + 7)]) (by decide +kernel) (by decide) (by decide +kernel) (x_rb_of (tr_7_7 t551)) rfl rfl (x_wr (tn_7 t551) x_wn) x_wn (by decide) rfl ?_
        refine x_aload (np := 1) (x := 0) (by decide +kernel) rfl (x_nc_le (tn_7 t551)) ?_
        have b553 := jB (e := 2) 0 hJ (rg_T7_2_0_1 t551) (by omega) (by omega)
        refine x_getC (np := 4) (x := 386) (f := 2) (q := (h ((h 61 1) + 7) 2)) (by decide +kernel) (by decide) (tg_7_386_2_0 t551) rfl (fun l554 => ?_)
        refine x_const (np := 5) (x := 9223372043297226753) (a := 2147483649) (by decide +kernel) (by decide) (by decide) ?_
        refine x_iadd (np := 6) (x := 0) (v := (1 + (h ((h 61 1) + 7) 2))) (by decide +kernel) l554 (by decide) (by omega) (by omega) ?_
        refine x_aload (np := 7) (x := 0) (by decide +kernel) rfl (x_nc_le (tn_7 t551)) ?_
        have b555 := jB (e := 0) 0 hJ (rg_T7_0_0_1 t551) (by omega) (by omega)
        have q556 : (h ((h 61 1) + 7) 0) = 2147483652 := by omega
        refine x_getC (np := 10) (x := 384) (f := 0) (q := 2147483652) (by decide +kernel) (by decide) (tg_7_384_0_0 t551) q556 (fun l557 => ?_)
        obtain ⟨u558, q559⟩ : ∃ z, (h ((h 61 1) + 7) 2) = 2147483648 + z := ⟨(h ((h 61 1) + 7) 2) - 2147483648, by omega⟩
        refine x_imul (np := 11) (x := 0) (i := (1 + u558)) (j := 4) (v := (2147483652 + 4 * u558)) (by decide +kernel) (by omega) (by omega) (by omega) (by omega) (by omega) (by decide) ?_
        refine x_aload (np := 12) (x := 0) (by decide +kernel) rfl (x_nc_le (tn_7 t551)) ?_
        have q561 : h ((h 61 1) + 7) 1 = ((h 61 1) + 8) := tf_7_1 hJ t551
        refine x_getR (np := 15) (x := 385) (f := 1) (q := ((h 61 1) + 8)) (by decide +kernel) (by decide) (tg_7_385_1_1 t551) q561 ?_
        refine x_alen (np := 16) (x := 0) (n := 40) (by decide +kernel) (tn_8 t551) (tl_8 t551).1 (tl_8 t551).2 (by decide) ?_
        show X _ _ _ _ _ _ _ _ [iv_c 2147483688, iv_c (2147483652 + 4 * u558)] _
        refine x_icmp (k := 5) (tg := 23) (np := 19) (by decide +kernel) (by decide) (by omega) (by decide) (fun q562 => ?_) (fun q563 => ?_)
        · have q562 : (2147483652 + 4 * u558) ≤ 2147483688 := q562
          refine x_const (np := 24) (x := 9223372039002259456) (a := 2147483648) (by decide +kernel) (by decide) (by decide) ?_
          refine x_retI (np := 25) (x := 0) (by decide +kernel) (by decide) (Or.inr ⟨by decide +kernel, by omega, by omega⟩) ⟨_, rfl, (by decide), ?_⟩
          refine x_ifz (k := 1) (tg := 198) (np := 175) (by decide +kernel) (by decide) (by decide) (fun q564 => ?_) (fun q565 => ?_)
          · have q564 : 2147483648 ≠ 2147483648 := q564
            exfalso; omega
          have q565 : ¬ (2147483648 ≠ 2147483648) := q565
          refine x_aload (np := 176) (x := 0) (by decide +kernel) rfl (x_nc_le (by decide)) ?_
          have q566 : h 61 0 = 1 := by have z := jB (e := 0) 0 hJ rg_61_0_0_1 (by decide) (by decide); omega
          refine x_getR (np := 179) (x := 576) (f := 0) (q := 1) (by decide +kernel) (by decide) (by decide +kernel) q566 ?_
          refine x_ldcB (i := 13) (idx := 74) (tx := "seen") (by rw [tb_y93]; exact List.mem_of_getElem? (i := 13) rfl) (by decide) (by rw [tb_b93]; decide +kernel) ?_
          refine x_cI (t := 6) (mj := 78) (n := 2) (rc := 8) (ml := 2) (nr := 0) (np := 184) (as := [x_r 1, x_b (13 + 1)]) (rest := []) (lo1 := [x_r 1, x_b (13 + 1)]) (by decide +kernel) (by decide) (by decide +kernel) (x_rb_of (by decide +kernel)) rfl rfl (x_wr (by decide) (x_wB (by decide) x_wn)) x_wn (by decide) rfl (c78_1_S0 hJ  (by decide) hT) (fun v567 h570 l568 q569 => ?_)
          obtain ⟨j571, f572, b573, c574, c575, c576⟩ := q569
          have f577 := Fr.trans hF f572 (by decide)
          have b578 := jB (e := 2) 0 j571 rg_1_2_0_1 (by omega) (by omega)
          have b579 : iv_tl 13 = 4 := by decide
          refine x_ifz (k := 0) (tg := 198) (np := 187) (by decide +kernel) (by decide) l568 (fun q580 => ?_) (fun q581 => ?_)
          · have q580 : v567 = 2147483648 := q580
            have b582 := c575 (by omega)
            refine x_const (np := 199) (x := 9223372039002259456) (a := 2147483648) (by decide +kernel) (by decide) (by decide) ?_
            have b583 := jB (e := 7) 0 hJ (rg_T0_7_0_1 t551) (by omega) (by omega)
            have e584 : rv h 0 = (h (h 61 1) 7) := (congrArg (fun z => svq h z 0) rfl).trans rfl
            have q585 : h570 61 1 = h 61 1 := f572 61 1 (by decide +kernel)
            have q586 : h570 (h 61 1) 7 = h (h 61 1) 7 := jK 0 f572 (rg_T0_7_0_1 t551) (by omega) (by omega) (by decide)
            have e587 : rv h570 0 = (h (h 61 1) 7) := (congrArg (fun z => svq h570 z 0) q585).trans q586
            have e588 : rv h 1 = (h (h 61 1) 8) := (congrArg (fun z => svq h z 1) rfl).trans rfl
            have q589 : h570 61 1 = h 61 1 := f572 61 1 (by decide +kernel)
            have q590 : h570 (h 61 1) 8 = h (h 61 1) 8 := jK 0 f572 (rg_T0_8_0_1 t551) (by omega) (by omega) (by decide)
            have e591 : rv h570 1 = (h (h 61 1) 8) := (congrArg (fun z => svq h570 z 1) q589).trans q590
            have q592 : h570 61 1 = h 61 1 := f572 61 1 (by decide +kernel)
            have q593 : h570 (h 61 1) 7 = h (h 61 1) 7 := jK 0 f572 (rg_T0_7_0_1 t551) (by omega) (by omega) (by decide)
            have q594 : h570 61 1 = h 61 1 := f572 61 1 (by decide +kernel)
            have q595 : h570 (h 61 1) 8 = h (h 61 1) 8 := jK 0 f572 (rg_T0_8_0_1 t551) (by omega) (by omega) (by decide)
            have b596 := jB (e := 2) 0 hJ (rg_T1_2_0_1 t551) (by omega) (by omega)
            have e597 : rv h 2 = (h ((h 61 1) + 1) 2) := (congrArg (fun z => svq h z 2) rfl).trans rfl
            have q598 : h570 61 1 = h 61 1 := f572 61 1 (by decide +kernel)
            have q599 : h570 ((h 61 1) + 1) 2 = h ((h 61 1) + 1) 2 := jK 0 f572 (rg_T1_2_0_1 t551) (by omega) (by omega) (by decide)
            have e600 : rv h570 2 = (h ((h 61 1) + 1) 2) := (congrArg (fun z => svq h570 z 2) q598).trans q599
            have b601 := jB (e := 2) 0 hJ (rg_T3_2_0_1 t551) (by omega) (by omega)
            have e602 : rv h 3 = (h ((h 61 1) + 3) 2) := (congrArg (fun z => svq h z 3) rfl).trans rfl
            have q603 : h570 61 1 = h 61 1 := f572 61 1 (by decide +kernel)
            have q604 : h570 ((h 61 1) + 3) 2 = h ((h 61 1) + 3) 2 := jK 0 f572 (rg_T3_2_0_1 t551) (by omega) (by omega) (by decide)
            have e605 : rv h570 3 = (h ((h 61 1) + 3) 2) := (congrArg (fun z => svq h570 z 3) q603).trans q604
            have b606 := jB (e := 2) 0 hJ (rg_T5_2_0_1 t551) (by omega) (by omega)
            have e607 : rv h 4 = (h ((h 61 1) + 5) 2) := (congrArg (fun z => svq h z 4) rfl).trans rfl
            have q608 : h570 61 1 = h 61 1 := f572 61 1 (by decide +kernel)
            have q609 : h570 ((h 61 1) + 5) 2 = h ((h 61 1) + 5) 2 := jK 0 f572 (rg_T5_2_0_1 t551) (by omega) (by omega) (by decide)
            have e610 : rv h570 4 = (h ((h 61 1) + 5) 2) := (congrArg (fun z => svq h570 z 4) q608).trans q609
            have e611 : rv h 5 = (h ((h 61 1) + 7) 2) := (congrArg (fun z => svq h z 5) rfl).trans rfl
            have q612 : h570 61 1 = h 61 1 := f572 61 1 (by decide +kernel)
            have q613 : h570 ((h 61 1) + 7) 2 = h ((h 61 1) + 7) 2 := jK 0 f572 (rg_T7_2_0_1 t551) (by omega) (by omega) (by decide)
            have e614 : rv h570 5 = (h ((h 61 1) + 7) 2) := (congrArg (fun z => svq h570 z 5) q612).trans q613
            have w615 : ¬ Wd tB tN 0 (h 1 2) := by rw [show h 1 2 = h 1 2 from rfl]; exact (Is.no c6 (by omega))
            have w616 : ¬ Wd tB tN 6 (h 1 2) := by rw [show h 1 2 = h 1 2 from rfl]; exact (Is.no c16 (by omega))
            have w617 : ¬ Wd tB tN 8 (h 1 2) := by rw [show h 1 2 = h 1 2 from rfl]; exact (Is.no c25 (by omega))
            obtain ⟨w618, e619⟩ := Tk.no c576 (by omega)
            have m620 : Ot (h 61 1) h h570 := Ot.fr Ot.refl f572 (by decide)
            refine x_retI (np := 200) (x := 0) (by decide +kernel) (by decide) (Or.inr ⟨by decide +kernel, by omega, by omega⟩) ⟨_, rfl, (by decide), ?_⟩
            exact ⟨j571, f577, (by omega), (by omega), (by omega), (absurd (Is.yes c34 (by omega)) w618), m620⟩
          have q581 : ¬ (v567 = 2147483648) := q581
          have b621 := c574 (by omega)
          refine x_aload (np := 188) (x := 0) (by decide +kernel) rfl (x_nc_le (by decide)) ?_
          have q622 : h570 61 1 = h 61 1 := f572 61 1 (by decide +kernel)
          have q623 : h570 ((h 61 1) + 7) 2 = h ((h 61 1) + 7) 2 := jK 0 f572 (rg_T7_2_0_1 t551) (by omega) (by omega) (by decide)
          have e624 : rv h570 5 = (h ((h 61 1) + 7) 2) := (congrArg (fun z => svq h570 z 5) q622).trans q623
          have m628 := Tp.fr hT f572 (by decide) (by decide)
          refine x_cI (t := 6) (mj := 100) (n := 1) (rc := 10) (ml := 2) (nr := 0) (np := 191) (as := [x_r 61]) (rest := []) (lo1 := [x_r 61, 147573952589676412928]) (by decide +kernel) (by decide) (by decide +kernel) (x_rb_of (by decide +kernel)) rfl rfl (x_wr (by decide) x_wn) x_wn (by decide) rfl (c100_61 j571  (by omega) m628) (fun v625 h629 l626 q627 => ?_)
          obtain ⟨j630, f631, b632, c633, c634, c635, c636, c637, c638, c639, c640⟩ := q627
          have f641 := Fr.trans f577 f631 (by decide)
          have q642 : h570 61 1 = h 61 1 := f572 61 1 (by decide +kernel)
          have q643 : h570 (h 61 1) 7 = h (h 61 1) 7 := jK 0 f572 (rg_T0_7_0_1 t551) (by omega) (by omega) (by decide)
          have b644 := jB (e := 7) 0 hJ (rg_T0_7_0_1 t551) (by omega) (by omega)
          have e645 : rv h570 0 = (h (h 61 1) 7) := (congrArg (fun z => svq h570 z 0) q642).trans q643
          have q646 : h629 61 1 = h570 61 1 := f631 61 1 (by decide +kernel)
          have q647 : h570 61 1 = h 61 1 := f572 61 1 (by decide +kernel)
          have b648 := jB (e := 7) 0 j630 (rg_T0_7_0_1 t551) (by omega) (by omega)
          have e649 : rv h629 0 = (h629 (h 61 1) 7) := (congrArg (fun z => svq h629 z 0) (q646.trans q647)).trans rfl
          have q650 : h570 61 1 = h 61 1 := f572 61 1 (by decide +kernel)
          have q651 : h570 (h 61 1) 8 = h (h 61 1) 8 := jK 0 f572 (rg_T0_8_0_1 t551) (by omega) (by omega) (by decide)
          have e652 : rv h570 1 = (h (h 61 1) 8) := (congrArg (fun z => svq h570 z 1) q650).trans q651
          have q653 : h629 61 1 = h570 61 1 := f631 61 1 (by decide +kernel)
          have q654 : h570 61 1 = h 61 1 := f572 61 1 (by decide +kernel)
          have e655 : rv h629 1 = (h629 (h 61 1) 8) := (congrArg (fun z => svq h629 z 1) (q653.trans q654)).trans rfl
          have q656 : h570 61 1 = h 61 1 := f572 61 1 (by decide +kernel)
          have q657 : h570 ((h 61 1) + 1) 2 = h ((h 61 1) + 1) 2 := jK 0 f572 (rg_T1_2_0_1 t551) (by omega) (by omega) (by decide)
          have b658 := jB (e := 2) 0 hJ (rg_T1_2_0_1 t551) (by omega) (by omega)
          have e659 : rv h570 2 = (h ((h 61 1) + 1) 2) := (congrArg (fun z => svq h570 z 2) q656).trans q657
          have q660 : h629 61 1 = h570 61 1 := f631 61 1 (by decide +kernel)
          have q661 : h570 61 1 = h 61 1 := f572 61 1 (by decide +kernel)
          have b662 := jB (e := 2) 0 j630 (rg_T1_2_0_1 t551) (by omega) (by omega)
          have e663 : rv h629 2 = (h629 ((h 61 1) + 1) 2) := (congrArg (fun z => svq h629 z 2) (q660.trans q661)).trans rfl
          have q664 : h570 61 1 = h 61 1 := f572 61 1 (by decide +kernel)
          have q665 : h570 ((h 61 1) + 3) 2 = h ((h 61 1) + 3) 2 := jK 0 f572 (rg_T3_2_0_1 t551) (by omega) (by omega) (by decide)
          have b666 := jB (e := 2) 0 hJ (rg_T3_2_0_1 t551) (by omega) (by omega)
          have e667 : rv h570 3 = (h ((h 61 1) + 3) 2) := (congrArg (fun z => svq h570 z 3) q664).trans q665
          have q668 : h629 61 1 = h570 61 1 := f631 61 1 (by decide +kernel)
          have q669 : h570 61 1 = h 61 1 := f572 61 1 (by decide +kernel)
          have b670 := jB (e := 2) 0 j630 (rg_T3_2_0_1 t551) (by omega) (by omega)
          have e671 : rv h629 3 = (h629 ((h 61 1) + 3) 2) := (congrArg (fun z => svq h629 z 3) (q668.trans q669)).trans rfl
          have q672 : h570 61 1 = h 61 1 := f572 61 1 (by decide +kernel)
          have q673 : h570 ((h 61 1) + 5) 2 = h ((h 61 1) + 5) 2 := jK 0 f572 (rg_T5_2_0_1 t551) (by omega) (by omega) (by decide)
          have b674 := jB (e := 2) 0 hJ (rg_T5_2_0_1 t551) (by omega) (by omega)
          have e675 : rv h570 4 = (h ((h 61 1) + 5) 2) := (congrArg (fun z => svq h570 z 4) q672).trans q673
          have q676 : h629 61 1 = h570 61 1 := f631 61 1 (by decide +kernel)
          have q677 : h570 61 1 = h 61 1 := f572 61 1 (by decide +kernel)
          have b678 := jB (e := 2) 0 j630 (rg_T5_2_0_1 t551) (by omega) (by omega)
          have e679 : rv h629 4 = (h629 ((h 61 1) + 5) 2) := (congrArg (fun z => svq h629 z 4) (q676.trans q677)).trans rfl
          have q680 : h570 61 1 = h 61 1 := f572 61 1 (by decide +kernel)
          have q681 : h570 ((h 61 1) + 7) 2 = h ((h 61 1) + 7) 2 := jK 0 f572 (rg_T7_2_0_1 t551) (by omega) (by omega) (by decide)
          have q682 : h629 61 1 = h570 61 1 := f631 61 1 (by decide +kernel)
          have q683 : h570 61 1 = h 61 1 := f572 61 1 (by decide +kernel)
          have b684 := jB (e := 2) 0 j630 (rg_T7_2_0_1 t551) (by omega) (by omega)
          have e685 : rv h629 5 = (h629 ((h 61 1) + 7) 2) := (congrArg (fun z => svq h629 z 5) (q682.trans q683)).trans rfl
          have q686 : h570 61 1 = h 61 1 := f572 61 1 (by decide +kernel)
          refine x_ifz (k := 0) (tg := 198) (np := 194) (by decide +kernel) (by decide) l626 (fun q687 => ?_) (fun q688 => ?_)
          · have q687 : v625 = 2147483648 := q687
            refine x_const (np := 199) (x := 9223372039002259456) (a := 2147483648) (by decide +kernel) (by decide) (by decide) ?_
            have e689 : rv h 0 = (h (h 61 1) 7) := (congrArg (fun z => svq h z 0) rfl).trans rfl
            have q690 : h629 61 1 = h570 61 1 := f631 61 1 (by decide +kernel)
            have q691 : h570 61 1 = h 61 1 := f572 61 1 (by decide +kernel)
            have e692 : rv h 1 = (h (h 61 1) 8) := (congrArg (fun z => svq h z 1) rfl).trans rfl
            have q693 : h629 61 1 = h570 61 1 := f631 61 1 (by decide +kernel)
            have q694 : h570 61 1 = h 61 1 := f572 61 1 (by decide +kernel)
            have q695 : h629 61 1 = h570 61 1 := f631 61 1 (by decide +kernel)
            have q696 : h570 61 1 = h 61 1 := f572 61 1 (by decide +kernel)
            have q697 : h629 61 1 = h570 61 1 := f631 61 1 (by decide +kernel)
            have q698 : h570 61 1 = h 61 1 := f572 61 1 (by decide +kernel)
            have e699 : rv h 2 = (h ((h 61 1) + 1) 2) := (congrArg (fun z => svq h z 2) rfl).trans rfl
            have q700 : h629 61 1 = h570 61 1 := f631 61 1 (by decide +kernel)
            have q701 : h570 61 1 = h 61 1 := f572 61 1 (by decide +kernel)
            have e702 : rv h 3 = (h ((h 61 1) + 3) 2) := (congrArg (fun z => svq h z 3) rfl).trans rfl
            have q703 : h629 61 1 = h570 61 1 := f631 61 1 (by decide +kernel)
            have q704 : h570 61 1 = h 61 1 := f572 61 1 (by decide +kernel)
            have e705 : rv h 4 = (h ((h 61 1) + 5) 2) := (congrArg (fun z => svq h z 4) rfl).trans rfl
            have q706 : h629 61 1 = h570 61 1 := f631 61 1 (by decide +kernel)
            have q707 : h570 61 1 = h 61 1 := f572 61 1 (by decide +kernel)
            have e708 : rv h 5 = (h ((h 61 1) + 7) 2) := (congrArg (fun z => svq h z 5) rfl).trans rfl
            have q709 : h629 61 1 = h570 61 1 := f631 61 1 (by decide +kernel)
            have q710 : h570 61 1 = h 61 1 := f572 61 1 (by decide +kernel)
            have w711 : ¬ Wd tB tN 0 (h 1 2) := by rw [show h 1 2 = h 1 2 from rfl]; exact (Is.no c6 (by omega))
            have w712 : ¬ Wd tB tN 6 (h 1 2) := by rw [show h 1 2 = h 1 2 from rfl]; exact (Is.no c16 (by omega))
            have w713 : ¬ Wd tB tN 8 (h 1 2) := by rw [show h 1 2 = h 1 2 from rfl]; exact (Is.no c25 (by omega))
            obtain ⟨w714, e715⟩ := Tk.yes c576 (by omega)
            have q716 : h570 61 1 = h 61 1 := f572 61 1 (by decide +kernel)
            have q717 : h570 (h 61 1) 7 = h (h 61 1) 7 := jK 0 f572 (rg_T0_7_0_1 t551) (by omega) (by omega) (by decide)
            have k718 : seen9 tB tN (rv h 0) (h570 1 2) (rs v625 (h629 1 2)) := by rw [show rv h 0 = rv h570 0 by omega]; exact c639
            have m719 : Ot (h 61 1) h h570 := Ot.fr Ot.refl f572 (by decide)
            have m720 : Ot (h 61 1) h h629 := Ot.trans m719 (Ot.cast c640 q686)
            refine x_retI (np := 200) (x := 0) (by decide +kernel) (by decide) (Or.inr ⟨by decide +kernel, by omega, by omega⟩) ⟨_, rfl, (by decide), ?_⟩
            exact ⟨j630, f641, (by omega), (by omega), (by omega), (l9_seen w714 rfl (by omega) e715 rfl k718 (by omega) (by omega) (fun z => absurd z (by omega))), m720⟩
          have q688 : ¬ (v625 = 2147483648) := q688
          have b721 := c638 (by omega)
          refine x_const (np := 195) (x := 9223372043297226753) (a := 2147483649) (by decide +kernel) (by decide) (by decide) ?_
          refine x_goto (np := 198) (x := 199) (by decide +kernel) ?_
          have e722 : rv h 0 = (h (h 61 1) 7) := (congrArg (fun z => svq h z 0) rfl).trans rfl
          have q723 : h629 61 1 = h570 61 1 := f631 61 1 (by decide +kernel)
          have q724 : h570 61 1 = h 61 1 := f572 61 1 (by decide +kernel)
          have e725 : rv h 1 = (h (h 61 1) 8) := (congrArg (fun z => svq h z 1) rfl).trans rfl
          have q726 : h629 61 1 = h570 61 1 := f631 61 1 (by decide +kernel)
          have q727 : h570 61 1 = h 61 1 := f572 61 1 (by decide +kernel)
          have q728 : h629 61 1 = h570 61 1 := f631 61 1 (by decide +kernel)
          have q729 : h570 61 1 = h 61 1 := f572 61 1 (by decide +kernel)
          have q730 : h629 61 1 = h570 61 1 := f631 61 1 (by decide +kernel)
          have q731 : h570 61 1 = h 61 1 := f572 61 1 (by decide +kernel)
          have e732 : rv h 2 = (h ((h 61 1) + 1) 2) := (congrArg (fun z => svq h z 2) rfl).trans rfl
          have q733 : h629 61 1 = h570 61 1 := f631 61 1 (by decide +kernel)
          have q734 : h570 61 1 = h 61 1 := f572 61 1 (by decide +kernel)
          have e735 : rv h 3 = (h ((h 61 1) + 3) 2) := (congrArg (fun z => svq h z 3) rfl).trans rfl
          have q736 : h629 61 1 = h570 61 1 := f631 61 1 (by decide +kernel)
          have q737 : h570 61 1 = h 61 1 := f572 61 1 (by decide +kernel)
          have e738 : rv h 4 = (h ((h 61 1) + 5) 2) := (congrArg (fun z => svq h z 4) rfl).trans rfl
          have q739 : h629 61 1 = h570 61 1 := f631 61 1 (by decide +kernel)
          have q740 : h570 61 1 = h 61 1 := f572 61 1 (by decide +kernel)
          have e741 : rv h 5 = (h ((h 61 1) + 7) 2) := (congrArg (fun z => svq h z 5) rfl).trans rfl
          have q742 : h629 61 1 = h570 61 1 := f631 61 1 (by decide +kernel)
          have q743 : h570 61 1 = h 61 1 := f572 61 1 (by decide +kernel)
          have w744 : ¬ Wd tB tN 0 (h 1 2) := by rw [show h 1 2 = h 1 2 from rfl]; exact (Is.no c6 (by omega))
          have w745 : ¬ Wd tB tN 6 (h 1 2) := by rw [show h 1 2 = h 1 2 from rfl]; exact (Is.no c16 (by omega))
          have w746 : ¬ Wd tB tN 8 (h 1 2) := by rw [show h 1 2 = h 1 2 from rfl]; exact (Is.no c25 (by omega))
          obtain ⟨w747, e748⟩ := Tk.yes c576 (by omega)
          have q749 : h570 61 1 = h 61 1 := f572 61 1 (by decide +kernel)
          have q750 : h570 (h 61 1) 7 = h (h 61 1) 7 := jK 0 f572 (rg_T0_7_0_1 t551) (by omega) (by omega) (by decide)
          have k751 : seen9 tB tN (rv h 0) (h570 1 2) (rs v625 (h629 1 2)) := by rw [show rv h 0 = rv h570 0 by omega]; exact c639
          have m752 : Ot (h 61 1) h h570 := Ot.fr Ot.refl f572 (by decide)
          have m753 : Ot (h 61 1) h h629 := Ot.trans m752 (Ot.cast c640 q686)
          refine x_retI (np := 200) (x := 0) (by decide +kernel) (by decide) (Or.inr ⟨by decide +kernel, by omega, by omega⟩) ⟨_, rfl, (by decide), ?_⟩
          exact ⟨j630, f641, (by omega), (by omega), (by omega), (l9_seen w747 rfl (by omega) e748 rfl k751 (by omega) (by omega) (fun z => ⟨rfl, by omega, by omega, by omega, by omega⟩)), m753⟩
        have q563 : ¬ ((2147483652 + 4 * u558) ≤ 2147483688) := q563
        refine x_const (np := 20) (x := 9223372043297226753) (a := 2147483649) (by decide +kernel) (by decide) (by decide) ?_
        refine x_goto (np := 23) (x := 24) (by decide +kernel) ?_
        refine x_retI (np := 25) (x := 0) (by decide +kernel) (by decide) (Or.inr ⟨by decide +kernel, by omega, by omega⟩) ⟨_, rfl, (by decide), ?_⟩
        refine x_ifz (k := 1) (tg := 198) (np := 175) (by decide +kernel) (by decide) (by decide) (fun q754 => ?_) (fun q755 => ?_)
        · have q754 : 2147483649 ≠ 2147483648 := q754
          refine x_const (np := 199) (x := 9223372039002259456) (a := 2147483648) (by decide +kernel) (by decide) (by decide) ?_
          have b756 := jB (e := 7) 0 hJ (rg_T0_7_0_1 t551) (by omega) (by omega)
          have e757 : rv h 0 = (h (h 61 1) 7) := (congrArg (fun z => svq h z 0) rfl).trans rfl
          have e758 : rv h 1 = (h (h 61 1) 8) := (congrArg (fun z => svq h z 1) rfl).trans rfl
          have b759 := jB (e := 2) 0 hJ (rg_T1_2_0_1 t551) (by omega) (by omega)
          have e760 : rv h 2 = (h ((h 61 1) + 1) 2) := (congrArg (fun z => svq h z 2) rfl).trans rfl
          have b761 := jB (e := 2) 0 hJ (rg_T3_2_0_1 t551) (by omega) (by omega)
          have e762 : rv h 3 = (h ((h 61 1) + 3) 2) := (congrArg (fun z => svq h z 3) rfl).trans rfl
          have b763 := jB (e := 2) 0 hJ (rg_T5_2_0_1 t551) (by omega) (by omega)
          have e764 : rv h 4 = (h ((h 61 1) + 5) 2) := (congrArg (fun z => svq h z 4) rfl).trans rfl
          have e765 : rv h 5 = (h ((h 61 1) + 7) 2) := (congrArg (fun z => svq h z 5) rfl).trans rfl
          have w766 : ¬ Wd tB tN 0 (h 1 2) := by rw [show h 1 2 = h 1 2 from rfl]; exact (Is.no c6 (by omega))
          have w767 : ¬ Wd tB tN 6 (h 1 2) := by rw [show h 1 2 = h 1 2 from rfl]; exact (Is.no c16 (by omega))
          have w768 : ¬ Wd tB tN 8 (h 1 2) := by rw [show h 1 2 = h 1 2 from rfl]; exact (Is.no c25 (by omega))
          refine x_retI (np := 200) (x := 0) (by decide +kernel) (by decide) (Or.inr ⟨by decide +kernel, by omega, by omega⟩) ⟨_, rfl, (by decide), ?_⟩
          exact ⟨hJ, hF, (by omega), (by omega), (by omega), (l9_seen0 (Is.yes c34 (by omega)) rfl (by omega) (by omega)), Ot.refl⟩
        have q755 : ¬ (2147483649 ≠ 2147483648) := q755
        exfalso; omega
      have q28 : ¬ (v21 = 2147483648) := q28
      have b769 := c24 (by omega)
      refine x_aload (np := 113) (x := 0) (by decide +kernel) rfl (x_nc_le (by decide)) ?_
      have t770 : tw (h 61 1) := hJ.2.2.2.2.1
      refine x_getR (np := 116) (x := 577) (f := 1) (q := (h 61 1)) (by decide +kernel) (by decide) (by decide +kernel) rfl ?_
      have q771 : h (h 61 1) 2 = ((h 61 1) + 5) := tf_0_2 hJ t770
      refine x_getR (np := 119) (x := 514) (f := 2) (q := ((h 61 1) + 5)) (by decide +kernel) (by decide) (tg_0_514_2_1 t770) q771 ?_
      refine x_nI (t := 6) (mj := 66) (n := 1) (rc := 7) (ml := 1) (nr := 0) (np := 122) (as := [x_r ((h 61 1) + 5)]) (rest := []) (lo1 := [x_r ((h 61 1) + 5)]) (by decide +kernel) (by decide) (by decide +kernel) (x_rb_of (tr_5_7 t770)) rfl rfl (x_wr (tn_5 t770) x_wn) x_wn (by decide) rfl ?_
      refine x_aload (np := 1) (x := 0) (by decide +kernel) rfl (x_nc_le (tn_5 t770)) ?_
      have b772 := jB (e := 2) 0 hJ (rg_T5_2_0_1 t770) (by omega) (by omega)
      refine x_getC (np := 4) (x := 386) (f := 2) (q := (h ((h 61 1) + 5) 2)) (by decide +kernel) (by decide) (tg_5_386_2_0 t770) rfl (fun l773 => ?_)
      refine x_const (np := 5) (x := 9223372043297226753) (a := 2147483649) (by decide +kernel) (by decide) (by decide) ?_
      refine x_iadd (np := 6) (x := 0) (v := (1 + (h ((h 61 1) + 5) 2))) (by decide +kernel) l773 (by decide) (by omega) (by omega) ?_
      refine x_aload (np := 7) (x := 0) (by decide +kernel) rfl (x_nc_le (tn_5 t770)) ?_
      have b774 := jB (e := 0) 0 hJ (rg_T5_0_0_1 t770) (by omega) (by omega)
      have q775 : (h ((h 61 1) + 5) 0) = 2147483652 := by omega
      refine x_getC (np := 10) (x := 384) (f := 0) (q := 2147483652) (by decide +kernel) (by decide) (tg_5_384_0_0 t770) q775 (fun l776 => ?_)
      obtain ⟨u777, q778⟩ : ∃ z, (h ((h 61 1) + 5) 2) = 2147483648 + z := ⟨(h ((h 61 1) + 5) 2) - 2147483648, by omega⟩
      refine x_imul (np := 11) (x := 0) (i := (1 + u777)) (j := 4) (v := (2147483652 + 4 * u777)) (by decide +kernel) (by omega) (by omega) (by omega) (by omega) (by omega) (by decide) ?_
      refine x_aload (np := 12) (x := 0) (by decide +kernel) rfl (x_nc_le (tn_5 t770)) ?_
      have q780 : h ((h 61 1) + 5) 1 = ((h 61 1) + 6) := tf_5_1 hJ t770
      refine x_getR (np := 15) (x := 385) (f := 1) (q := ((h 61 1) + 6)) (by decide +kernel) (by decide) (tg_5_385_1_1 t770) q780 ?_
      refine x_alen (np := 16) (x := 0) (n := 40) (by decide +kernel) (tn_6 t770) (tl_6 t770).1 (tl_6 t770).2 (by decide) ?_
      show X _ _ _ _ _ _ _ _ [iv_c 2147483688, iv_c (2147483652 + 4 * u777)] _
      refine x_icmp (k := 5) (tg := 23) (np := 19) (by decide +kernel) (by decide) (by omega) (by decide) (fun q781 => ?_) (fun q782 => ?_)
      · have q781 : (2147483652 + 4 * u777) ≤ 2147483688 := q781
        refine x_const (np := 24) (x := 9223372039002259456) (a := 2147483648) (by decide +kernel) (by decide) (by decide) ?_
        refine x_retI (np := 25) (x := 0) (by decide +kernel) (by decide) (Or.inr ⟨by decide +kernel, by omega, by omega⟩) ⟨_, rfl, (by decide), ?_⟩
        refine x_ifz (k := 1) (tg := 148) (np := 125) (by decide +kernel) (by decide) (by decide) (fun q783 => ?_) (fun q784 => ?_)
        · have q783 : 2147483648 ≠ 2147483648 := q783
          exfalso; omega
        have q784 : ¬ (2147483648 ≠ 2147483648) := q784
        refine x_aload (np := 126) (x := 0) (by decide +kernel) rfl (x_nc_le (by decide)) ?_
        have q785 : h 61 0 = 1 := by have z := jB (e := 0) 0 hJ rg_61_0_0_1 (by decide) (by decide); omega
        refine x_getR (np := 129) (x := 576) (f := 0) (q := 1) (by decide +kernel) (by decide) (by decide +kernel) q785 ?_
        refine x_ldcB (i := 8) (idx := 66) (tx := "debt") (by rw [tb_y93]; exact List.mem_of_getElem? (i := 8) rfl) (by decide) (by rw [tb_b93]; decide +kernel) ?_
        refine x_cI (t := 6) (mj := 78) (n := 2) (rc := 8) (ml := 2) (nr := 0) (np := 134) (as := [x_r 1, x_b (8 + 1)]) (rest := []) (lo1 := [x_r 1, x_b (8 + 1)]) (by decide +kernel) (by decide) (by decide +kernel) (x_rb_of (by decide +kernel)) rfl rfl (x_wr (by decide) (x_wB (by decide) x_wn)) x_wn (by decide) rfl (c78_1_S0 hJ  (by decide) hT) (fun v786 h789 l787 q788 => ?_)
        obtain ⟨j790, f791, b792, c793, c794, c795⟩ := q788
        have f796 := Fr.trans hF f791 (by decide)
        have b797 := jB (e := 2) 0 j790 rg_1_2_0_1 (by omega) (by omega)
        have b798 : iv_tl 8 = 4 := by decide
        refine x_ifz (k := 0) (tg := 148) (np := 137) (by decide +kernel) (by decide) l787 (fun q799 => ?_) (fun q800 => ?_)
        · have q799 : v786 = 2147483648 := q799
          have b801 := c794 (by omega)
          refine x_const (np := 149) (x := 9223372039002259456) (a := 2147483648) (by decide +kernel) (by decide) (by decide) ?_
          have b802 := jB (e := 7) 0 hJ (rg_T0_7_0_1 t770) (by omega) (by omega)
          have e803 : rv h 0 = (h (h 61 1) 7) := (congrArg (fun z => svq h z 0) rfl).trans rfl
          have q804 : h789 61 1 = h 61 1 := f791 61 1 (by decide +kernel)
          have q805 : h789 (h 61 1) 7 = h (h 61 1) 7 := jK 0 f791 (rg_T0_7_0_1 t770) (by omega) (by omega) (by decide)
          have e806 : rv h789 0 = (h (h 61 1) 7) := (congrArg (fun z => svq h789 z 0) q804).trans q805
          have e807 : rv h 1 = (h (h 61 1) 8) := (congrArg (fun z => svq h z 1) rfl).trans rfl
          have q808 : h789 61 1 = h 61 1 := f791 61 1 (by decide +kernel)
          have q809 : h789 (h 61 1) 8 = h (h 61 1) 8 := jK 0 f791 (rg_T0_8_0_1 t770) (by omega) (by omega) (by decide)
          have e810 : rv h789 1 = (h (h 61 1) 8) := (congrArg (fun z => svq h789 z 1) q808).trans q809
          have q811 : h789 61 1 = h 61 1 := f791 61 1 (by decide +kernel)
          have q812 : h789 (h 61 1) 7 = h (h 61 1) 7 := jK 0 f791 (rg_T0_7_0_1 t770) (by omega) (by omega) (by decide)
          have q813 : h789 61 1 = h 61 1 := f791 61 1 (by decide +kernel)
          have q814 : h789 (h 61 1) 8 = h (h 61 1) 8 := jK 0 f791 (rg_T0_8_0_1 t770) (by omega) (by omega) (by decide)
          have b815 := jB (e := 2) 0 hJ (rg_T1_2_0_1 t770) (by omega) (by omega)
          have e816 : rv h 2 = (h ((h 61 1) + 1) 2) := (congrArg (fun z => svq h z 2) rfl).trans rfl
          have q817 : h789 61 1 = h 61 1 := f791 61 1 (by decide +kernel)
          have q818 : h789 ((h 61 1) + 1) 2 = h ((h 61 1) + 1) 2 := jK 0 f791 (rg_T1_2_0_1 t770) (by omega) (by omega) (by decide)
          have e819 : rv h789 2 = (h ((h 61 1) + 1) 2) := (congrArg (fun z => svq h789 z 2) q817).trans q818
          have b820 := jB (e := 2) 0 hJ (rg_T3_2_0_1 t770) (by omega) (by omega)
          have e821 : rv h 3 = (h ((h 61 1) + 3) 2) := (congrArg (fun z => svq h z 3) rfl).trans rfl
          have q822 : h789 61 1 = h 61 1 := f791 61 1 (by decide +kernel)
          have q823 : h789 ((h 61 1) + 3) 2 = h ((h 61 1) + 3) 2 := jK 0 f791 (rg_T3_2_0_1 t770) (by omega) (by omega) (by decide)
          have e824 : rv h789 3 = (h ((h 61 1) + 3) 2) := (congrArg (fun z => svq h789 z 3) q822).trans q823
          have e825 : rv h 4 = (h ((h 61 1) + 5) 2) := (congrArg (fun z => svq h z 4) rfl).trans rfl
          have q826 : h789 61 1 = h 61 1 := f791 61 1 (by decide +kernel)
          have q827 : h789 ((h 61 1) + 5) 2 = h ((h 61 1) + 5) 2 := jK 0 f791 (rg_T5_2_0_1 t770) (by omega) (by omega) (by decide)
          have e828 : rv h789 4 = (h ((h 61 1) + 5) 2) := (congrArg (fun z => svq h789 z 4) q826).trans q827
          have b829 := jB (e := 2) 0 hJ (rg_T7_2_0_1 t770) (by omega) (by omega)
          have e830 : rv h 5 = (h ((h 61 1) + 7) 2) := (congrArg (fun z => svq h z 5) rfl).trans rfl
          have q831 : h789 61 1 = h 61 1 := f791 61 1 (by decide +kernel)
          have q832 : h789 ((h 61 1) + 7) 2 = h ((h 61 1) + 7) 2 := jK 0 f791 (rg_T7_2_0_1 t770) (by omega) (by omega) (by decide)
          have e833 : rv h789 5 = (h ((h 61 1) + 7) 2) := (congrArg (fun z => svq h789 z 5) q831).trans q832
          have w834 : ¬ Wd tB tN 0 (h 1 2) := by rw [show h 1 2 = h 1 2 from rfl]; exact (Is.no c6 (by omega))
          have w835 : ¬ Wd tB tN 6 (h 1 2) := by rw [show h 1 2 = h 1 2 from rfl]; exact (Is.no c16 (by omega))
          obtain ⟨w836, e837⟩ := Tk.no c795 (by omega)
          have m838 : Ot (h 61 1) h h789 := Ot.fr Ot.refl f791 (by decide)
          refine x_retI (np := 150) (x := 0) (by decide +kernel) (by decide) (Or.inr ⟨by decide +kernel, by omega, by omega⟩) ⟨_, rfl, (by decide), ?_⟩
          exact ⟨j790, f796, (by omega), (by omega), (by omega), (absurd (Is.yes c25 (by omega)) w836), m838⟩
        have q800 : ¬ (v786 = 2147483648) := q800
        have b839 := c793 (by omega)
        refine x_aload (np := 138) (x := 0) (by decide +kernel) rfl (x_nc_le (by decide)) ?_
        have q840 : h789 61 1 = h 61 1 := f791 61 1 (by decide +kernel)
        have q841 : h789 ((h 61 1) + 5) 2 = h ((h 61 1) + 5) 2 := jK 0 f791 (rg_T5_2_0_1 t770) (by omega) (by omega) (by decide)
        have e842 : rv h789 4 = (h ((h 61 1) + 5) 2) := (congrArg (fun z => svq h789 z 4) q840).trans q841
        have m846 := Tp.fr hT f791 (by decide) (by decide)
        refine x_cI (t := 6) (mj := 99) (n := 1) (rc := 10) (ml := 3) (nr := 0) (np := 141) (as := [x_r 61]) (rest := []) (lo1 := [x_r 61, 147573952589676412928, 147573952589676412928]) (by decide +kernel) (by decide) (by decide +kernel) (x_rb_of (by decide +kernel)) rfl rfl (x_wr (by decide) x_wn) x_wn (by decide) rfl (c99_61 j790  (by omega) m846) (fun v843 h847 l844 q845 => ?_)
        obtain ⟨j848, f849, b850, c851, c852, c853, c854, c855, c856, c857, c858⟩ := q845
        have f859 := Fr.trans f796 f849 (by decide)
        have q860 : h789 61 1 = h 61 1 := f791 61 1 (by decide +kernel)
        have q861 : h789 (h 61 1) 7 = h (h 61 1) 7 := jK 0 f791 (rg_T0_7_0_1 t770) (by omega) (by omega) (by decide)
        have b862 := jB (e := 7) 0 hJ (rg_T0_7_0_1 t770) (by omega) (by omega)
        have e863 : rv h789 0 = (h (h 61 1) 7) := (congrArg (fun z => svq h789 z 0) q860).trans q861
        have q864 : h847 61 1 = h789 61 1 := f849 61 1 (by decide +kernel)
        have q865 : h789 61 1 = h 61 1 := f791 61 1 (by decide +kernel)
        have b866 := jB (e := 7) 0 j848 (rg_T0_7_0_1 t770) (by omega) (by omega)
        have e867 : rv h847 0 = (h847 (h 61 1) 7) := (congrArg (fun z => svq h847 z 0) (q864.trans q865)).trans rfl
        have q868 : h789 61 1 = h 61 1 := f791 61 1 (by decide +kernel)
        have q869 : h789 (h 61 1) 8 = h (h 61 1) 8 := jK 0 f791 (rg_T0_8_0_1 t770) (by omega) (by omega) (by decide)
        have e870 : rv h789 1 = (h (h 61 1) 8) := (congrArg (fun z => svq h789 z 1) q868).trans q869
        have q871 : h847 61 1 = h789 61 1 := f849 61 1 (by decide +kernel)
        have q872 : h789 61 1 = h 61 1 := f791 61 1 (by decide +kernel)
        have e873 : rv h847 1 = (h847 (h 61 1) 8) := (congrArg (fun z => svq h847 z 1) (q871.trans q872)).trans rfl
        have q874 : h789 61 1 = h 61 1 := f791 61 1 (by decide +kernel)
        have q875 : h789 ((h 61 1) + 1) 2 = h ((h 61 1) + 1) 2 := jK 0 f791 (rg_T1_2_0_1 t770) (by omega) (by omega) (by decide)
        have b876 := jB (e := 2) 0 hJ (rg_T1_2_0_1 t770) (by omega) (by omega)
        have e877 : rv h789 2 = (h ((h 61 1) + 1) 2) := (congrArg (fun z => svq h789 z 2) q874).trans q875
        have q878 : h847 61 1 = h789 61 1 := f849 61 1 (by decide +kernel)
        have q879 : h789 61 1 = h 61 1 := f791 61 1 (by decide +kernel)
        have b880 := jB (e := 2) 0 j848 (rg_T1_2_0_1 t770) (by omega) (by omega)
        have e881 : rv h847 2 = (h847 ((h 61 1) + 1) 2) := (congrArg (fun z => svq h847 z 2) (q878.trans q879)).trans rfl
        have q882 : h789 61 1 = h 61 1 := f791 61 1 (by decide +kernel)
        have q883 : h789 ((h 61 1) + 3) 2 = h ((h 61 1) + 3) 2 := jK 0 f791 (rg_T3_2_0_1 t770) (by omega) (by omega) (by decide)
        have b884 := jB (e := 2) 0 hJ (rg_T3_2_0_1 t770) (by omega) (by omega)
        have e885 : rv h789 3 = (h ((h 61 1) + 3) 2) := (congrArg (fun z => svq h789 z 3) q882).trans q883
        have q886 : h847 61 1 = h789 61 1 := f849 61 1 (by decide +kernel)
        have q887 : h789 61 1 = h 61 1 := f791 61 1 (by decide +kernel)
        have b888 := jB (e := 2) 0 j848 (rg_T3_2_0_1 t770) (by omega) (by omega)
        have e889 : rv h847 3 = (h847 ((h 61 1) + 3) 2) := (congrArg (fun z => svq h847 z 3) (q886.trans q887)).trans rfl
        have q890 : h789 61 1 = h 61 1 := f791 61 1 (by decide +kernel)
        have q891 : h789 ((h 61 1) + 5) 2 = h ((h 61 1) + 5) 2 := jK 0 f791 (rg_T5_2_0_1 t770) (by omega) (by omega) (by decide)
        have q892 : h847 61 1 = h789 61 1 := f849 61 1 (by decide +kernel)
        have q893 : h789 61 1 = h 61 1 := f791 61 1 (by decide +kernel)
        have b894 := jB (e := 2) 0 j848 (rg_T5_2_0_1 t770) (by omega) (by omega)
        have e895 : rv h847 4 = (h847 ((h 61 1) + 5) 2) := (congrArg (fun z => svq h847 z 4) (q892.trans q893)).trans rfl
        have q896 : h789 61 1 = h 61 1 := f791 61 1 (by decide +kernel)
        have q897 : h789 ((h 61 1) + 7) 2 = h ((h 61 1) + 7) 2 := jK 0 f791 (rg_T7_2_0_1 t770) (by omega) (by omega) (by decide)
        have b898 := jB (e := 2) 0 hJ (rg_T7_2_0_1 t770) (by omega) (by omega)
        have e899 : rv h789 5 = (h ((h 61 1) + 7) 2) := (congrArg (fun z => svq h789 z 5) q896).trans q897
        have q900 : h847 61 1 = h789 61 1 := f849 61 1 (by decide +kernel)
        have q901 : h789 61 1 = h 61 1 := f791 61 1 (by decide +kernel)
        have b902 := jB (e := 2) 0 j848 (rg_T7_2_0_1 t770) (by omega) (by omega)
        have e903 : rv h847 5 = (h847 ((h 61 1) + 7) 2) := (congrArg (fun z => svq h847 z 5) (q900.trans q901)).trans rfl
        have q904 : h789 61 1 = h 61 1 := f791 61 1 (by decide +kernel)
        refine x_ifz (k := 0) (tg := 148) (np := 144) (by decide +kernel) (by decide) l844 (fun q905 => ?_) (fun q906 => ?_)
        · have q905 : v843 = 2147483648 := q905
          refine x_const (np := 149) (x := 9223372039002259456) (a := 2147483648) (by decide +kernel) (by decide) (by decide) ?_
          have e907 : rv h 0 = (h (h 61 1) 7) := (congrArg (fun z => svq h z 0) rfl).trans rfl
          have q908 : h847 61 1 = h789 61 1 := f849 61 1 (by decide +kernel)
          have q909 : h789 61 1 = h 61 1 := f791 61 1 (by decide +kernel)
          have e910 : rv h 1 = (h (h 61 1) 8) := (congrArg (fun z => svq h z 1) rfl).trans rfl
          have q911 : h847 61 1 = h789 61 1 := f849 61 1 (by decide +kernel)
          have q912 : h789 61 1 = h 61 1 := f791 61 1 (by decide +kernel)
          have q913 : h847 61 1 = h789 61 1 := f849 61 1 (by decide +kernel)
          have q914 : h789 61 1 = h 61 1 := f791 61 1 (by decide +kernel)
          have q915 : h847 61 1 = h789 61 1 := f849 61 1 (by decide +kernel)
          have q916 : h789 61 1 = h 61 1 := f791 61 1 (by decide +kernel)
          have e917 : rv h 2 = (h ((h 61 1) + 1) 2) := (congrArg (fun z => svq h z 2) rfl).trans rfl
          have q918 : h847 61 1 = h789 61 1 := f849 61 1 (by decide +kernel)
          have q919 : h789 61 1 = h 61 1 := f791 61 1 (by decide +kernel)
          have e920 : rv h 3 = (h ((h 61 1) + 3) 2) := (congrArg (fun z => svq h z 3) rfl).trans rfl
          have q921 : h847 61 1 = h789 61 1 := f849 61 1 (by decide +kernel)
          have q922 : h789 61 1 = h 61 1 := f791 61 1 (by decide +kernel)
          have e923 : rv h 4 = (h ((h 61 1) + 5) 2) := (congrArg (fun z => svq h z 4) rfl).trans rfl
          have q924 : h847 61 1 = h789 61 1 := f849 61 1 (by decide +kernel)
          have q925 : h789 61 1 = h 61 1 := f791 61 1 (by decide +kernel)
          have e926 : rv h 5 = (h ((h 61 1) + 7) 2) := (congrArg (fun z => svq h z 5) rfl).trans rfl
          have q927 : h847 61 1 = h789 61 1 := f849 61 1 (by decide +kernel)
          have q928 : h789 61 1 = h 61 1 := f791 61 1 (by decide +kernel)
          have w929 : ¬ Wd tB tN 0 (h 1 2) := by rw [show h 1 2 = h 1 2 from rfl]; exact (Is.no c6 (by omega))
          have w930 : ¬ Wd tB tN 6 (h 1 2) := by rw [show h 1 2 = h 1 2 from rfl]; exact (Is.no c16 (by omega))
          obtain ⟨w931, e932⟩ := Tk.yes c795 (by omega)
          have q933 : h789 61 1 = h 61 1 := f791 61 1 (by decide +kernel)
          have q934 : h789 (h 61 1) 7 = h (h 61 1) 7 := jK 0 f791 (rg_T0_7_0_1 t770) (by omega) (by omega) (by decide)
          have k935 : debt9 tB tN (rv h 0) (h789 1 2) (rs v843 (h847 1 2)) := by rw [show rv h 0 = rv h789 0 by omega]; exact c857
          have m936 : Ot (h 61 1) h h789 := Ot.fr Ot.refl f791 (by decide)
          have m937 : Ot (h 61 1) h h847 := Ot.trans m936 (Ot.cast c858 q904)
          refine x_retI (np := 150) (x := 0) (by decide +kernel) (by decide) (Or.inr ⟨by decide +kernel, by omega, by omega⟩) ⟨_, rfl, (by decide), ?_⟩
          exact ⟨j848, f859, (by omega), (by omega), (by omega), (l9_debt w931 rfl (by omega) e932 rfl k935 (by omega) (by omega) (fun z => absurd z (by omega))), m937⟩
        have q906 : ¬ (v843 = 2147483648) := q906
        have b938 := c855 (by omega)
        refine x_const (np := 145) (x := 9223372043297226753) (a := 2147483649) (by decide +kernel) (by decide) (by decide) ?_
        refine x_goto (np := 148) (x := 149) (by decide +kernel) ?_
        have e939 : rv h 0 = (h (h 61 1) 7) := (congrArg (fun z => svq h z 0) rfl).trans rfl
        have q940 : h847 61 1 = h789 61 1 := f849 61 1 (by decide +kernel)
        have q941 : h789 61 1 = h 61 1 := f791 61 1 (by decide +kernel)
        have e942 : rv h 1 = (h (h 61 1) 8) := (congrArg (fun z => svq h z 1) rfl).trans rfl
        have q943 : h847 61 1 = h789 61 1 := f849 61 1 (by decide +kernel)
        have q944 : h789 61 1 = h 61 1 := f791 61 1 (by decide +kernel)
        have q945 : h847 61 1 = h789 61 1 := f849 61 1 (by decide +kernel)
        have q946 : h789 61 1 = h 61 1 := f791 61 1 (by decide +kernel)
        have q947 : h847 61 1 = h789 61 1 := f849 61 1 (by decide +kernel)
        have q948 : h789 61 1 = h 61 1 := f791 61 1 (by decide +kernel)
        have e949 : rv h 2 = (h ((h 61 1) + 1) 2) := (congrArg (fun z => svq h z 2) rfl).trans rfl
        have q950 : h847 61 1 = h789 61 1 := f849 61 1 (by decide +kernel)
        have q951 : h789 61 1 = h 61 1 := f791 61 1 (by decide +kernel)
        have e952 : rv h 3 = (h ((h 61 1) + 3) 2) := (congrArg (fun z => svq h z 3) rfl).trans rfl
        have q953 : h847 61 1 = h789 61 1 := f849 61 1 (by decide +kernel)
        have q954 : h789 61 1 = h 61 1 := f791 61 1 (by decide +kernel)
        have e955 : rv h 4 = (h ((h 61 1) + 5) 2) := (congrArg (fun z => svq h z 4) rfl).trans rfl
        have q956 : h847 61 1 = h789 61 1 := f849 61 1 (by decide +kernel)
        have q957 : h789 61 1 = h 61 1 := f791 61 1 (by decide +kernel)
        have e958 : rv h 5 = (h ((h 61 1) + 7) 2) := (congrArg (fun z => svq h z 5) rfl).trans rfl
        have q959 : h847 61 1 = h789 61 1 := f849 61 1 (by decide +kernel)
        have q960 : h789 61 1 = h 61 1 := f791 61 1 (by decide +kernel)
        have w961 : ¬ Wd tB tN 0 (h 1 2) := by rw [show h 1 2 = h 1 2 from rfl]; exact (Is.no c6 (by omega))
        have w962 : ¬ Wd tB tN 6 (h 1 2) := by rw [show h 1 2 = h 1 2 from rfl]; exact (Is.no c16 (by omega))
        obtain ⟨w963, e964⟩ := Tk.yes c795 (by omega)
        have q965 : h789 61 1 = h 61 1 := f791 61 1 (by decide +kernel)
        have q966 : h789 (h 61 1) 7 = h (h 61 1) 7 := jK 0 f791 (rg_T0_7_0_1 t770) (by omega) (by omega) (by decide)
        have k967 : debt9 tB tN (rv h 0) (h789 1 2) (rs v843 (h847 1 2)) := by rw [show rv h 0 = rv h789 0 by omega]; exact c857
        have m968 : Ot (h 61 1) h h789 := Ot.fr Ot.refl f791 (by decide)
        have m969 : Ot (h 61 1) h h847 := Ot.trans m968 (Ot.cast c858 q904)
        refine x_retI (np := 150) (x := 0) (by decide +kernel) (by decide) (Or.inr ⟨by decide +kernel, by omega, by omega⟩) ⟨_, rfl, (by decide), ?_⟩
        exact ⟨j848, f859, (by omega), (by omega), (by omega), (l9_debt w963 rfl (by omega) e964 rfl k967 (by omega) (by omega) (fun z => ⟨rfl, by omega, by omega, by omega, by omega⟩)), m969⟩
      have q782 : ¬ ((2147483652 + 4 * u777) ≤ 2147483688) := q782
      refine x_const (np := 20) (x := 9223372043297226753) (a := 2147483649) (by decide +kernel) (by decide) (by decide) ?_
      refine x_goto (np := 23) (x := 24) (by decide +kernel) ?_
      refine x_retI (np := 25) (x := 0) (by decide +kernel) (by decide) (Or.inr ⟨by decide +kernel, by omega, by omega⟩) ⟨_, rfl, (by decide), ?_⟩
      refine x_ifz (k := 1) (tg := 148) (np := 125) (by decide +kernel) (by decide) (by decide) (fun q970 => ?_) (fun q971 => ?_)
      · have q970 : 2147483649 ≠ 2147483648 := q970
        refine x_const (np := 149) (x := 9223372039002259456) (a := 2147483648) (by decide +kernel) (by decide) (by decide) ?_
        have b972 := jB (e := 7) 0 hJ (rg_T0_7_0_1 t770) (by omega) (by omega)
        have e973 : rv h 0 = (h (h 61 1) 7) := (congrArg (fun z => svq h z 0) rfl).trans rfl
        have e974 : rv h 1 = (h (h 61 1) 8) := (congrArg (fun z => svq h z 1) rfl).trans rfl
        have b975 := jB (e := 2) 0 hJ (rg_T1_2_0_1 t770) (by omega) (by omega)
        have e976 : rv h 2 = (h ((h 61 1) + 1) 2) := (congrArg (fun z => svq h z 2) rfl).trans rfl
        have b977 := jB (e := 2) 0 hJ (rg_T3_2_0_1 t770) (by omega) (by omega)
        have e978 : rv h 3 = (h ((h 61 1) + 3) 2) := (congrArg (fun z => svq h z 3) rfl).trans rfl
        have e979 : rv h 4 = (h ((h 61 1) + 5) 2) := (congrArg (fun z => svq h z 4) rfl).trans rfl
        have b980 := jB (e := 2) 0 hJ (rg_T7_2_0_1 t770) (by omega) (by omega)
        have e981 : rv h 5 = (h ((h 61 1) + 7) 2) := (congrArg (fun z => svq h z 5) rfl).trans rfl
        have w982 : ¬ Wd tB tN 0 (h 1 2) := by rw [show h 1 2 = h 1 2 from rfl]; exact (Is.no c6 (by omega))
        have w983 : ¬ Wd tB tN 6 (h 1 2) := by rw [show h 1 2 = h 1 2 from rfl]; exact (Is.no c16 (by omega))
        refine x_retI (np := 150) (x := 0) (by decide +kernel) (by decide) (Or.inr ⟨by decide +kernel, by omega, by omega⟩) ⟨_, rfl, (by decide), ?_⟩
        exact ⟨hJ, hF, (by omega), (by omega), (by omega), (l9_debt0 (Is.yes c25 (by omega)) rfl (by omega) (by omega)), Ot.refl⟩
      have q971 : ¬ (2147483649 ≠ 2147483648) := q971
      exfalso; omega
    have q19 : ¬ (v12 = 2147483648) := q19
    have b984 := c15 (by omega)
    refine x_aload (np := 63) (x := 0) (by decide +kernel) rfl (x_nc_le (by decide)) ?_
    have t985 : tw (h 61 1) := hJ.2.2.2.2.1
    refine x_getR (np := 66) (x := 577) (f := 1) (q := (h 61 1)) (by decide +kernel) (by decide) (by decide +kernel) rfl ?_
    have q986 : h (h 61 1) 1 = ((h 61 1) + 3) := tf_0_1 hJ t985
    refine x_getR (np := 69) (x := 513) (f := 1) (q := ((h 61 1) + 3)) (by decide +kernel) (by decide) (tg_0_513_1_1 t985) q986 ?_
    refine x_nI (t := 6) (mj := 66) (n := 1) (rc := 7) (ml := 1) (nr := 0) (np := 72) (as := [x_r ((h 61 1) + 3)]) (rest := []) (lo1 := [x_r ((h 61 1) + 3)]) (by decide +kernel) (by decide) (by decide +kernel) (x_rb_of (tr_3_7 t985)) rfl rfl (x_wr (tn_3 t985) x_wn) x_wn (by decide) rfl ?_
    refine x_aload (np := 1) (x := 0) (by decide +kernel) rfl (x_nc_le (tn_3 t985)) ?_
    have b987 := jB (e := 2) 0 hJ (rg_T3_2_0_1 t985) (by omega) (by omega)
    refine x_getC (np := 4) (x := 386) (f := 2) (q := (h ((h 61 1) + 3) 2)) (by decide +kernel) (by decide) (tg_3_386_2_0 t985) rfl (fun l988 => ?_)
    refine x_const (np := 5) (x := 9223372043297226753) (a := 2147483649) (by decide +kernel) (by decide) (by decide) ?_
    refine x_iadd (np := 6) (x := 0) (v := (1 + (h ((h 61 1) + 3) 2))) (by decide +kernel) l988 (by decide) (by omega) (by omega) ?_
    refine x_aload (np := 7) (x := 0) (by decide +kernel) rfl (x_nc_le (tn_3 t985)) ?_
    have b989 := jB (e := 0) 0 hJ (rg_T3_0_0_1 t985) (by omega) (by omega)
    have q990 : (h ((h 61 1) + 3) 0) = 2147483652 := by omega
    refine x_getC (np := 10) (x := 384) (f := 0) (q := 2147483652) (by decide +kernel) (by decide) (tg_3_384_0_0 t985) q990 (fun l991 => ?_)
    obtain ⟨u992, q993⟩ : ∃ z, (h ((h 61 1) + 3) 2) = 2147483648 + z := ⟨(h ((h 61 1) + 3) 2) - 2147483648, by omega⟩
    refine x_imul (np := 11) (x := 0) (i := (1 + u992)) (j := 4) (v := (2147483652 + 4 * u992)) (by decide +kernel) (by omega) (by omega) (by omega) (by omega) (by omega) (by decide) ?_
    refine x_aload (np := 12) (x := 0) (by decide +kernel) rfl (x_nc_le (tn_3 t985)) ?_
    have q995 : h ((h 61 1) + 3) 1 = ((h 61 1) + 4) := tf_3_1 hJ t985
    refine x_getR (np := 15) (x := 385) (f := 1) (q := ((h 61 1) + 4)) (by decide +kernel) (by decide) (tg_3_385_1_1 t985) q995 ?_
    refine x_alen (np := 16) (x := 0) (n := 40) (by decide +kernel) (tn_4 t985) (tl_4 t985).1 (tl_4 t985).2 (by decide) ?_
    show X _ _ _ _ _ _ _ _ [iv_c 2147483688, iv_c (2147483652 + 4 * u992)] _
    refine x_icmp (k := 5) (tg := 23) (np := 19) (by decide +kernel) (by decide) (by omega) (by decide) (fun q996 => ?_) (fun q997 => ?_)
    · have q996 : (2147483652 + 4 * u992) ≤ 2147483688 := q996
      refine x_const (np := 24) (x := 9223372039002259456) (a := 2147483648) (by decide +kernel) (by decide) (by decide) ?_
      refine x_retI (np := 25) (x := 0) (by decide +kernel) (by decide) (Or.inr ⟨by decide +kernel, by omega, by omega⟩) ⟨_, rfl, (by decide), ?_⟩
      refine x_ifz (k := 1) (tg := 98) (np := 75) (by decide +kernel) (by decide) (by decide) (fun q998 => ?_) (fun q999 => ?_)
      · have q998 : 2147483648 ≠ 2147483648 := q998
        exfalso; omega
      have q999 : ¬ (2147483648 ≠ 2147483648) := q999
      refine x_aload (np := 76) (x := 0) (by decide +kernel) rfl (x_nc_le (by decide)) ?_
      have q1000 : h 61 0 = 1 := by have z := jB (e := 0) 0 hJ rg_61_0_0_1 (by decide) (by decide); omega
      refine x_getR (np := 79) (x := 576) (f := 0) (q := 1) (by decide +kernel) (by decide) (by decide +kernel) q1000 ?_
      refine x_ldcB (i := 6) (idx := 58) (tx := "letter") (by rw [tb_y93]; exact List.mem_of_getElem? (i := 6) rfl) (by decide) (by rw [tb_b93]; decide +kernel) ?_
      refine x_cI (t := 6) (mj := 78) (n := 2) (rc := 8) (ml := 2) (nr := 0) (np := 84) (as := [x_r 1, x_b (6 + 1)]) (rest := []) (lo1 := [x_r 1, x_b (6 + 1)]) (by decide +kernel) (by decide) (by decide +kernel) (x_rb_of (by decide +kernel)) rfl rfl (x_wr (by decide) (x_wB (by decide) x_wn)) x_wn (by decide) rfl (c78_1_S0 hJ  (by decide) hT) (fun v1001 h1004 l1002 q1003 => ?_)
      obtain ⟨j1005, f1006, b1007, c1008, c1009, c1010⟩ := q1003
      have f1011 := Fr.trans hF f1006 (by decide)
      have b1012 := jB (e := 2) 0 j1005 rg_1_2_0_1 (by omega) (by omega)
      have b1013 : iv_tl 6 = 6 := by decide
      refine x_ifz (k := 0) (tg := 98) (np := 87) (by decide +kernel) (by decide) l1002 (fun q1014 => ?_) (fun q1015 => ?_)
      · have q1014 : v1001 = 2147483648 := q1014
        have b1016 := c1009 (by omega)
        refine x_const (np := 99) (x := 9223372039002259456) (a := 2147483648) (by decide +kernel) (by decide) (by decide) ?_
        have b1017 := jB (e := 7) 0 hJ (rg_T0_7_0_1 t985) (by omega) (by omega)
        have e1018 : rv h 0 = (h (h 61 1) 7) := (congrArg (fun z => svq h z 0) rfl).trans rfl
        have q1019 : h1004 61 1 = h 61 1 := f1006 61 1 (by decide +kernel)
        have q1020 : h1004 (h 61 1) 7 = h (h 61 1) 7 := jK 0 f1006 (rg_T0_7_0_1 t985) (by omega) (by omega) (by decide)
        have e1021 : rv h1004 0 = (h (h 61 1) 7) := (congrArg (fun z => svq h1004 z 0) q1019).trans q1020
        have e1022 : rv h 1 = (h (h 61 1) 8) := (congrArg (fun z => svq h z 1) rfl).trans rfl
        have q1023 : h1004 61 1 = h 61 1 := f1006 61 1 (by decide +kernel)
        have q1024 : h1004 (h 61 1) 8 = h (h 61 1) 8 := jK 0 f1006 (rg_T0_8_0_1 t985) (by omega) (by omega) (by decide)
        have e1025 : rv h1004 1 = (h (h 61 1) 8) := (congrArg (fun z => svq h1004 z 1) q1023).trans q1024
        have q1026 : h1004 61 1 = h 61 1 := f1006 61 1 (by decide +kernel)
        have q1027 : h1004 (h 61 1) 7 = h (h 61 1) 7 := jK 0 f1006 (rg_T0_7_0_1 t985) (by omega) (by omega) (by decide)
        have q1028 : h1004 61 1 = h 61 1 := f1006 61 1 (by decide +kernel)
        have q1029 : h1004 (h 61 1) 8 = h (h 61 1) 8 := jK 0 f1006 (rg_T0_8_0_1 t985) (by omega) (by omega) (by decide)
        have b1030 := jB (e := 2) 0 hJ (rg_T1_2_0_1 t985) (by omega) (by omega)
        have e1031 : rv h 2 = (h ((h 61 1) + 1) 2) := (congrArg (fun z => svq h z 2) rfl).trans rfl
        have q1032 : h1004 61 1 = h 61 1 := f1006 61 1 (by decide +kernel)
        have q1033 : h1004 ((h 61 1) + 1) 2 = h ((h 61 1) + 1) 2 := jK 0 f1006 (rg_T1_2_0_1 t985) (by omega) (by omega) (by decide)
        have e1034 : rv h1004 2 = (h ((h 61 1) + 1) 2) := (congrArg (fun z => svq h1004 z 2) q1032).trans q1033
        have e1035 : rv h 3 = (h ((h 61 1) + 3) 2) := (congrArg (fun z => svq h z 3) rfl).trans rfl
        have q1036 : h1004 61 1 = h 61 1 := f1006 61 1 (by decide +kernel)
        have q1037 : h1004 ((h 61 1) + 3) 2 = h ((h 61 1) + 3) 2 := jK 0 f1006 (rg_T3_2_0_1 t985) (by omega) (by omega) (by decide)
        have e1038 : rv h1004 3 = (h ((h 61 1) + 3) 2) := (congrArg (fun z => svq h1004 z 3) q1036).trans q1037
        have b1039 := jB (e := 2) 0 hJ (rg_T5_2_0_1 t985) (by omega) (by omega)
        have e1040 : rv h 4 = (h ((h 61 1) + 5) 2) := (congrArg (fun z => svq h z 4) rfl).trans rfl
        have q1041 : h1004 61 1 = h 61 1 := f1006 61 1 (by decide +kernel)
        have q1042 : h1004 ((h 61 1) + 5) 2 = h ((h 61 1) + 5) 2 := jK 0 f1006 (rg_T5_2_0_1 t985) (by omega) (by omega) (by decide)
        have e1043 : rv h1004 4 = (h ((h 61 1) + 5) 2) := (congrArg (fun z => svq h1004 z 4) q1041).trans q1042
        have b1044 := jB (e := 2) 0 hJ (rg_T7_2_0_1 t985) (by omega) (by omega)
        have e1045 : rv h 5 = (h ((h 61 1) + 7) 2) := (congrArg (fun z => svq h z 5) rfl).trans rfl
        have q1046 : h1004 61 1 = h 61 1 := f1006 61 1 (by decide +kernel)
        have q1047 : h1004 ((h 61 1) + 7) 2 = h ((h 61 1) + 7) 2 := jK 0 f1006 (rg_T7_2_0_1 t985) (by omega) (by omega) (by decide)
        have e1048 : rv h1004 5 = (h ((h 61 1) + 7) 2) := (congrArg (fun z => svq h1004 z 5) q1046).trans q1047
        have w1049 : ¬ Wd tB tN 0 (h 1 2) := by rw [show h 1 2 = h 1 2 from rfl]; exact (Is.no c6 (by omega))
        obtain ⟨w1050, e1051⟩ := Tk.no c1010 (by omega)
        have m1052 : Ot (h 61 1) h h1004 := Ot.fr Ot.refl f1006 (by decide)
        refine x_retI (np := 100) (x := 0) (by decide +kernel) (by decide) (Or.inr ⟨by decide +kernel, by omega, by omega⟩) ⟨_, rfl, (by decide), ?_⟩
        exact ⟨j1005, f1011, (by omega), (by omega), (by omega), (absurd (Is.yes c16 (by omega)) w1050), m1052⟩
      have q1015 : ¬ (v1001 = 2147483648) := q1015
      have b1053 := c1008 (by omega)
      refine x_aload (np := 88) (x := 0) (by decide +kernel) rfl (x_nc_le (by decide)) ?_
      have q1054 : h1004 61 1 = h 61 1 := f1006 61 1 (by decide +kernel)
      have q1055 : h1004 ((h 61 1) + 3) 2 = h ((h 61 1) + 3) 2 := jK 0 f1006 (rg_T3_2_0_1 t985) (by omega) (by omega) (by decide)
      have e1056 : rv h1004 3 = (h ((h 61 1) + 3) 2) := (congrArg (fun z => svq h1004 z 3) q1054).trans q1055
      have m1060 := Tp.fr hT f1006 (by decide) (by decide)
      refine x_cI (t := 6) (mj := 98) (n := 1) (rc := 10) (ml := 2) (nr := 0) (np := 91) (as := [x_r 61]) (rest := []) (lo1 := [x_r 61, 147573952589676412928]) (by decide +kernel) (by decide) (by decide +kernel) (x_rb_of (by decide +kernel)) rfl rfl (x_wr (by decide) x_wn) x_wn (by decide) rfl (c98_61 j1005  (by omega) m1060) (fun v1057 h1061 l1058 q1059 => ?_)
      obtain ⟨j1062, f1063, b1064, c1065, c1066, c1067, c1068, c1069, c1070, c1071, c1072⟩ := q1059
      have f1073 := Fr.trans f1011 f1063 (by decide)
      have q1074 : h1004 61 1 = h 61 1 := f1006 61 1 (by decide +kernel)
      have q1075 : h1004 (h 61 1) 7 = h (h 61 1) 7 := jK 0 f1006 (rg_T0_7_0_1 t985) (by omega) (by omega) (by decide)
      have b1076 := jB (e := 7) 0 hJ (rg_T0_7_0_1 t985) (by omega) (by omega)
      have e1077 : rv h1004 0 = (h (h 61 1) 7) := (congrArg (fun z => svq h1004 z 0) q1074).trans q1075
      have q1078 : h1061 61 1 = h1004 61 1 := f1063 61 1 (by decide +kernel)
      have q1079 : h1004 61 1 = h 61 1 := f1006 61 1 (by decide +kernel)
      have b1080 := jB (e := 7) 0 j1062 (rg_T0_7_0_1 t985) (by omega) (by omega)
      have e1081 : rv h1061 0 = (h1061 (h 61 1) 7) := (congrArg (fun z => svq h1061 z 0) (q1078.trans q1079)).trans rfl
      have q1082 : h1004 61 1 = h 61 1 := f1006 61 1 (by decide +kernel)
      have q1083 : h1004 (h 61 1) 8 = h (h 61 1) 8 := jK 0 f1006 (rg_T0_8_0_1 t985) (by omega) (by omega) (by decide)
      have e1084 : rv h1004 1 = (h (h 61 1) 8) := (congrArg (fun z => svq h1004 z 1) q1082).trans q1083
      have q1085 : h1061 61 1 = h1004 61 1 := f1063 61 1 (by decide +kernel)
      have q1086 : h1004 61 1 = h 61 1 := f1006 61 1 (by decide +kernel)
      have e1087 : rv h1061 1 = (h1061 (h 61 1) 8) := (congrArg (fun z => svq h1061 z 1) (q1085.trans q1086)).trans rfl
      have q1088 : h1004 61 1 = h 61 1 := f1006 61 1 (by decide +kernel)
      have q1089 : h1004 ((h 61 1) + 1) 2 = h ((h 61 1) + 1) 2 := jK 0 f1006 (rg_T1_2_0_1 t985) (by omega) (by omega) (by decide)
      have b1090 := jB (e := 2) 0 hJ (rg_T1_2_0_1 t985) (by omega) (by omega)
      have e1091 : rv h1004 2 = (h ((h 61 1) + 1) 2) := (congrArg (fun z => svq h1004 z 2) q1088).trans q1089
      have q1092 : h1061 61 1 = h1004 61 1 := f1063 61 1 (by decide +kernel)
      have q1093 : h1004 61 1 = h 61 1 := f1006 61 1 (by decide +kernel)
      have b1094 := jB (e := 2) 0 j1062 (rg_T1_2_0_1 t985) (by omega) (by omega)
      have e1095 : rv h1061 2 = (h1061 ((h 61 1) + 1) 2) := (congrArg (fun z => svq h1061 z 2) (q1092.trans q1093)).trans rfl
      have q1096 : h1004 61 1 = h 61 1 := f1006 61 1 (by decide +kernel)
      have q1097 : h1004 ((h 61 1) + 3) 2 = h ((h 61 1) + 3) 2 := jK 0 f1006 (rg_T3_2_0_1 t985) (by omega) (by omega) (by decide)
      have q1098 : h1061 61 1 = h1004 61 1 := f1063 61 1 (by decide +kernel)
      have q1099 : h1004 61 1 = h 61 1 := f1006 61 1 (by decide +kernel)
      have b1100 := jB (e := 2) 0 j1062 (rg_T3_2_0_1 t985) (by omega) (by omega)
      have e1101 : rv h1061 3 = (h1061 ((h 61 1) + 3) 2) := (congrArg (fun z => svq h1061 z 3) (q1098.trans q1099)).trans rfl
      have q1102 : h1004 61 1 = h 61 1 := f1006 61 1 (by decide +kernel)
      have q1103 : h1004 ((h 61 1) + 5) 2 = h ((h 61 1) + 5) 2 := jK 0 f1006 (rg_T5_2_0_1 t985) (by omega) (by omega) (by decide)
      have b1104 := jB (e := 2) 0 hJ (rg_T5_2_0_1 t985) (by omega) (by omega)
      have e1105 : rv h1004 4 = (h ((h 61 1) + 5) 2) := (congrArg (fun z => svq h1004 z 4) q1102).trans q1103
      have q1106 : h1061 61 1 = h1004 61 1 := f1063 61 1 (by decide +kernel)
      have q1107 : h1004 61 1 = h 61 1 := f1006 61 1 (by decide +kernel)
      have b1108 := jB (e := 2) 0 j1062 (rg_T5_2_0_1 t985) (by omega) (by omega)
      have e1109 : rv h1061 4 = (h1061 ((h 61 1) + 5) 2) := (congrArg (fun z => svq h1061 z 4) (q1106.trans q1107)).trans rfl
      have q1110 : h1004 61 1 = h 61 1 := f1006 61 1 (by decide +kernel)
      have q1111 : h1004 ((h 61 1) + 7) 2 = h ((h 61 1) + 7) 2 := jK 0 f1006 (rg_T7_2_0_1 t985) (by omega) (by omega) (by decide)
      have b1112 := jB (e := 2) 0 hJ (rg_T7_2_0_1 t985) (by omega) (by omega)
      have e1113 : rv h1004 5 = (h ((h 61 1) + 7) 2) := (congrArg (fun z => svq h1004 z 5) q1110).trans q1111
      have q1114 : h1061 61 1 = h1004 61 1 := f1063 61 1 (by decide +kernel)
      have q1115 : h1004 61 1 = h 61 1 := f1006 61 1 (by decide +kernel)
      have b1116 := jB (e := 2) 0 j1062 (rg_T7_2_0_1 t985) (by omega) (by omega)
      have e1117 : rv h1061 5 = (h1061 ((h 61 1) + 7) 2) := (congrArg (fun z => svq h1061 z 5) (q1114.trans q1115)).trans rfl
      have q1118 : h1004 61 1 = h 61 1 := f1006 61 1 (by decide +kernel)
      refine x_ifz (k := 0) (tg := 98) (np := 94) (by decide +kernel) (by decide) l1058 (fun q1119 => ?_) (fun q1120 => ?_)
      · have q1119 : v1057 = 2147483648 := q1119
        refine x_const (np := 99) (x := 9223372039002259456) (a := 2147483648) (by decide +kernel) (by decide) (by decide) ?_
        have e1121 : rv h 0 = (h (h 61 1) 7) := (congrArg (fun z => svq h z 0) rfl).trans rfl
        have q1122 : h1061 61 1 = h1004 61 1 := f1063 61 1 (by decide +kernel)
        have q1123 : h1004 61 1 = h 61 1 := f1006 61 1 (by decide +kernel)
        have e1124 : rv h 1 = (h (h 61 1) 8) := (congrArg (fun z => svq h z 1) rfl).trans rfl
        have q1125 : h1061 61 1 = h1004 61 1 := f1063 61 1 (by decide +kernel)
        have q1126 : h1004 61 1 = h 61 1 := f1006 61 1 (by decide +kernel)
        have q1127 : h1061 61 1 = h1004 61 1 := f1063 61 1 (by decide +kernel)
        have q1128 : h1004 61 1 = h 61 1 := f1006 61 1 (by decide +kernel)
        have q1129 : h1061 61 1 = h1004 61 1 := f1063 61 1 (by decide +kernel)
        have q1130 : h1004 61 1 = h 61 1 := f1006 61 1 (by decide +kernel)
        have e1131 : rv h 2 = (h ((h 61 1) + 1) 2) := (congrArg (fun z => svq h z 2) rfl).trans rfl
        have q1132 : h1061 61 1 = h1004 61 1 := f1063 61 1 (by decide +kernel)
        have q1133 : h1004 61 1 = h 61 1 := f1006 61 1 (by decide +kernel)
        have e1134 : rv h 3 = (h ((h 61 1) + 3) 2) := (congrArg (fun z => svq h z 3) rfl).trans rfl
        have q1135 : h1061 61 1 = h1004 61 1 := f1063 61 1 (by decide +kernel)
        have q1136 : h1004 61 1 = h 61 1 := f1006 61 1 (by decide +kernel)
        have e1137 : rv h 4 = (h ((h 61 1) + 5) 2) := (congrArg (fun z => svq h z 4) rfl).trans rfl
        have q1138 : h1061 61 1 = h1004 61 1 := f1063 61 1 (by decide +kernel)
        have q1139 : h1004 61 1 = h 61 1 := f1006 61 1 (by decide +kernel)
        have e1140 : rv h 5 = (h ((h 61 1) + 7) 2) := (congrArg (fun z => svq h z 5) rfl).trans rfl
        have q1141 : h1061 61 1 = h1004 61 1 := f1063 61 1 (by decide +kernel)
        have q1142 : h1004 61 1 = h 61 1 := f1006 61 1 (by decide +kernel)
        have w1143 : ¬ Wd tB tN 0 (h 1 2) := by rw [show h 1 2 = h 1 2 from rfl]; exact (Is.no c6 (by omega))
        obtain ⟨w1144, e1145⟩ := Tk.yes c1010 (by omega)
        have q1146 : h1004 61 1 = h 61 1 := f1006 61 1 (by decide +kernel)
        have q1147 : h1004 (h 61 1) 7 = h (h 61 1) 7 := jK 0 f1006 (rg_T0_7_0_1 t985) (by omega) (by omega) (by decide)
        have k1148 : letter9 tB tN (rv h 0) (h1004 1 2) (rs v1057 (h1061 1 2)) := by rw [show rv h 0 = rv h1004 0 by omega]; exact c1071
        have m1149 : Ot (h 61 1) h h1004 := Ot.fr Ot.refl f1006 (by decide)
        have m1150 : Ot (h 61 1) h h1061 := Ot.trans m1149 (Ot.cast c1072 q1118)
        refine x_retI (np := 100) (x := 0) (by decide +kernel) (by decide) (Or.inr ⟨by decide +kernel, by omega, by omega⟩) ⟨_, rfl, (by decide), ?_⟩
        exact ⟨j1062, f1073, (by omega), (by omega), (by omega), (l9_letter w1144 rfl (by omega) e1145 rfl k1148 (by omega) (by omega) (fun z => absurd z (by omega))), m1150⟩
      have q1120 : ¬ (v1057 = 2147483648) := q1120
      have b1151 := c1068 (by omega)
      refine x_const (np := 95) (x := 9223372043297226753) (a := 2147483649) (by decide +kernel) (by decide) (by decide) ?_
      refine x_goto (np := 98) (x := 99) (by decide +kernel) ?_
      have e1152 : rv h 0 = (h (h 61 1) 7) := (congrArg (fun z => svq h z 0) rfl).trans rfl
      have q1153 : h1061 61 1 = h1004 61 1 := f1063 61 1 (by decide +kernel)
      have q1154 : h1004 61 1 = h 61 1 := f1006 61 1 (by decide +kernel)
      have e1155 : rv h 1 = (h (h 61 1) 8) := (congrArg (fun z => svq h z 1) rfl).trans rfl
      have q1156 : h1061 61 1 = h1004 61 1 := f1063 61 1 (by decide +kernel)
      have q1157 : h1004 61 1 = h 61 1 := f1006 61 1 (by decide +kernel)
      have q1158 : h1061 61 1 = h1004 61 1 := f1063 61 1 (by decide +kernel)
      have q1159 : h1004 61 1 = h 61 1 := f1006 61 1 (by decide +kernel)
      have q1160 : h1061 61 1 = h1004 61 1 := f1063 61 1 (by decide +kernel)
      have q1161 : h1004 61 1 = h 61 1 := f1006 61 1 (by decide +kernel)
      have e1162 : rv h 2 = (h ((h 61 1) + 1) 2) := (congrArg (fun z => svq h z 2) rfl).trans rfl
      have q1163 : h1061 61 1 = h1004 61 1 := f1063 61 1 (by decide +kernel)
      have q1164 : h1004 61 1 = h 61 1 := f1006 61 1 (by decide +kernel)
      have e1165 : rv h 3 = (h ((h 61 1) + 3) 2) := (congrArg (fun z => svq h z 3) rfl).trans rfl
      have q1166 : h1061 61 1 = h1004 61 1 := f1063 61 1 (by decide +kernel)
      have q1167 : h1004 61 1 = h 61 1 := f1006 61 1 (by decide +kernel)
      have e1168 : rv h 4 = (h ((h 61 1) + 5) 2) := (congrArg (fun z => svq h z 4) rfl).trans rfl
      have q1169 : h1061 61 1 = h1004 61 1 := f1063 61 1 (by decide +kernel)
      have q1170 : h1004 61 1 = h 61 1 := f1006 61 1 (by decide +kernel)
      have e1171 : rv h 5 = (h ((h 61 1) + 7) 2) := (congrArg (fun z => svq h z 5) rfl).trans rfl
      have q1172 : h1061 61 1 = h1004 61 1 := f1063 61 1 (by decide +kernel)
      have q1173 : h1004 61 1 = h 61 1 := f1006 61 1 (by decide +kernel)
      have w1174 : ¬ Wd tB tN 0 (h 1 2) := by rw [show h 1 2 = h 1 2 from rfl]; exact (Is.no c6 (by omega))
      obtain ⟨w1175, e1176⟩ := Tk.yes c1010 (by omega)
      have q1177 : h1004 61 1 = h 61 1 := f1006 61 1 (by decide +kernel)
      have q1178 : h1004 (h 61 1) 7 = h (h 61 1) 7 := jK 0 f1006 (rg_T0_7_0_1 t985) (by omega) (by omega) (by decide)
      have k1179 : letter9 tB tN (rv h 0) (h1004 1 2) (rs v1057 (h1061 1 2)) := by rw [show rv h 0 = rv h1004 0 by omega]; exact c1071
      have m1180 : Ot (h 61 1) h h1004 := Ot.fr Ot.refl f1006 (by decide)
      have m1181 : Ot (h 61 1) h h1061 := Ot.trans m1180 (Ot.cast c1072 q1118)
      refine x_retI (np := 100) (x := 0) (by decide +kernel) (by decide) (Or.inr ⟨by decide +kernel, by omega, by omega⟩) ⟨_, rfl, (by decide), ?_⟩
      exact ⟨j1062, f1073, (by omega), (by omega), (by omega), (l9_letter w1175 rfl (by omega) e1176 rfl k1179 (by omega) (by omega) (fun z => ⟨rfl, by omega, by omega, by omega, by omega⟩)), m1181⟩
    have q997 : ¬ ((2147483652 + 4 * u992) ≤ 2147483688) := q997
    refine x_const (np := 20) (x := 9223372043297226753) (a := 2147483649) (by decide +kernel) (by decide) (by decide) ?_
    refine x_goto (np := 23) (x := 24) (by decide +kernel) ?_
    refine x_retI (np := 25) (x := 0) (by decide +kernel) (by decide) (Or.inr ⟨by decide +kernel, by omega, by omega⟩) ⟨_, rfl, (by decide), ?_⟩
    refine x_ifz (k := 1) (tg := 98) (np := 75) (by decide +kernel) (by decide) (by decide) (fun q1182 => ?_) (fun q1183 => ?_)
    · have q1182 : 2147483649 ≠ 2147483648 := q1182
      refine x_const (np := 99) (x := 9223372039002259456) (a := 2147483648) (by decide +kernel) (by decide) (by decide) ?_
      have b1184 := jB (e := 7) 0 hJ (rg_T0_7_0_1 t985) (by omega) (by omega)
      have e1185 : rv h 0 = (h (h 61 1) 7) := (congrArg (fun z => svq h z 0) rfl).trans rfl
      have e1186 : rv h 1 = (h (h 61 1) 8) := (congrArg (fun z => svq h z 1) rfl).trans rfl
      have b1187 := jB (e := 2) 0 hJ (rg_T1_2_0_1 t985) (by omega) (by omega)
      have e1188 : rv h 2 = (h ((h 61 1) + 1) 2) := (congrArg (fun z => svq h z 2) rfl).trans rfl
      have e1189 : rv h 3 = (h ((h 61 1) + 3) 2) := (congrArg (fun z => svq h z 3) rfl).trans rfl
      have b1190 := jB (e := 2) 0 hJ (rg_T5_2_0_1 t985) (by omega) (by omega)
      have e1191 : rv h 4 = (h ((h 61 1) + 5) 2) := (congrArg (fun z => svq h z 4) rfl).trans rfl
      have b1192 := jB (e := 2) 0 hJ (rg_T7_2_0_1 t985) (by omega) (by omega)
      have e1193 : rv h 5 = (h ((h 61 1) + 7) 2) := (congrArg (fun z => svq h z 5) rfl).trans rfl
      have w1194 : ¬ Wd tB tN 0 (h 1 2) := by rw [show h 1 2 = h 1 2 from rfl]; exact (Is.no c6 (by omega))
      refine x_retI (np := 100) (x := 0) (by decide +kernel) (by decide) (Or.inr ⟨by decide +kernel, by omega, by omega⟩) ⟨_, rfl, (by decide), ?_⟩
      exact ⟨hJ, hF, (by omega), (by omega), (by omega), (l9_letter0 (Is.yes c16 (by omega)) rfl (by omega) (by omega)), Ot.refl⟩
    have q1183 : ¬ (2147483649 ≠ 2147483648) := q1183
    exfalso; omega
  have q10 : ¬ (v2 = 2147483648) := q10
  have b1195 := c5 (by omega)
  refine x_aload (np := 13) (x := 0) (by decide +kernel) rfl (x_nc_le (by decide)) ?_
  have t1196 : tw (h 61 1) := hJ.2.2.2.2.1
  refine x_getR (np := 16) (x := 577) (f := 1) (q := (h 61 1)) (by decide +kernel) (by decide) (by decide +kernel) rfl ?_
  have q1197 : h (h 61 1) 0 = ((h 61 1) + 1) := tf_0_0 hJ t1196
  refine x_getR (np := 19) (x := 512) (f := 0) (q := ((h 61 1) + 1)) (by decide +kernel) (by decide) (tg_0_512_0_1 t1196) q1197 ?_
  refine x_nI (t := 6) (mj := 66) (n := 1) (rc := 7) (ml := 1) (nr := 0) (np := 22) (as := [x_r ((h 61 1) + 1)]) (rest := []) (lo1 := [x_r ((h 61 1) + 1)]) (by decide +kernel) (by decide) (by decide +kernel) (x_rb_of (tr_1_7 t1196)) rfl rfl (x_wr (tn_1 t1196) x_wn) x_wn (by decide) rfl ?_
  refine x_aload (np := 1) (x := 0) (by decide +kernel) rfl (x_nc_le (tn_1 t1196)) ?_
  have b1198 := jB (e := 2) 0 hJ (rg_T1_2_0_1 t1196) (by omega) (by omega)
  refine x_getC (np := 4) (x := 386) (f := 2) (q := (h ((h 61 1) + 1) 2)) (by decide +kernel) (by decide) (tg_1_386_2_0 t1196) rfl (fun l1199 => ?_)
  refine x_const (np := 5) (x := 9223372043297226753) (a := 2147483649) (by decide +kernel) (by decide) (by decide) ?_
  refine x_iadd (np := 6) (x := 0) (v := (1 + (h ((h 61 1) + 1) 2))) (by decide +kernel) l1199 (by decide) (by omega) (by omega) ?_
  refine x_aload (np := 7) (x := 0) (by decide +kernel) rfl (x_nc_le (tn_1 t1196)) ?_
  have b1200 := jB (e := 0) 0 hJ (rg_T1_0_0_1 t1196) (by omega) (by omega)
  have q1201 : (h ((h 61 1) + 1) 0) = 2147483655 := by omega
  refine x_getC (np := 10) (x := 384) (f := 0) (q := 2147483655) (by decide +kernel) (by decide) (tg_1_384_0_0 t1196) q1201 (fun l1202 => ?_)
  obtain ⟨u1203, q1204⟩ : ∃ z, (h ((h 61 1) + 1) 2) = 2147483648 + z := ⟨(h ((h 61 1) + 1) 2) - 2147483648, by omega⟩
  refine x_imul (np := 11) (x := 0) (i := (1 + u1203)) (j := 7) (v := (2147483655 + 7 * u1203)) (by decide +kernel) (by omega) (by omega) (by omega) (by omega) (by omega) (by decide) ?_
  refine x_aload (np := 12) (x := 0) (by decide +kernel) rfl (x_nc_le (tn_1 t1196)) ?_
  have q1206 : h ((h 61 1) + 1) 1 = ((h 61 1) + 2) := tf_1_1 hJ t1196
  refine x_getR (np := 15) (x := 385) (f := 1) (q := ((h 61 1) + 2)) (by decide +kernel) (by decide) (tg_1_385_1_1 t1196) q1206 ?_
  refine x_alen (np := 16) (x := 0) (n := 140) (by decide +kernel) (tn_2 t1196) (tl_2 t1196).1 (tl_2 t1196).2 (by decide) ?_
  show X _ _ _ _ _ _ _ _ [iv_c 2147483788, iv_c (2147483655 + 7 * u1203)] _
  refine x_icmp (k := 5) (tg := 23) (np := 19) (by decide +kernel) (by decide) (by omega) (by decide) (fun q1207 => ?_) (fun q1208 => ?_)
  · have q1207 : (2147483655 + 7 * u1203) ≤ 2147483788 := q1207
    refine x_const (np := 24) (x := 9223372039002259456) (a := 2147483648) (by decide +kernel) (by decide) (by decide) ?_
    refine x_retI (np := 25) (x := 0) (by decide +kernel) (by decide) (Or.inr ⟨by decide +kernel, by omega, by omega⟩) ⟨_, rfl, (by decide), ?_⟩
    refine x_ifz (k := 1) (tg := 48) (np := 25) (by decide +kernel) (by decide) (by decide) (fun q1209 => ?_) (fun q1210 => ?_)
    · have q1209 : 2147483648 ≠ 2147483648 := q1209
      exfalso; omega
    have q1210 : ¬ (2147483648 ≠ 2147483648) := q1210
    refine x_aload (np := 26) (x := 0) (by decide +kernel) rfl (x_nc_le (by decide)) ?_
    have q1211 : h 61 0 = 1 := by have z := jB (e := 0) 0 hJ rg_61_0_0_1 (by decide) (by decide); omega
    refine x_getR (np := 29) (x := 576) (f := 0) (q := 1) (by decide +kernel) (by decide) (by decide +kernel) q1211 ?_
    refine x_ldcB (i := 0) (idx := 35) (tx := "lend") (by rw [tb_y93]; exact List.mem_of_getElem? (i := 0) rfl) (by decide) (by rw [tb_b93]; decide +kernel) ?_
    refine x_cI (t := 6) (mj := 78) (n := 2) (rc := 8) (ml := 2) (nr := 0) (np := 34) (as := [x_r 1, x_b (0 + 1)]) (rest := []) (lo1 := [x_r 1, x_b (0 + 1)]) (by decide +kernel) (by decide) (by decide +kernel) (x_rb_of (by decide +kernel)) rfl rfl (x_wr (by decide) (x_wB (by decide) x_wn)) x_wn (by decide) rfl (c78_1_S0 hJ  (by decide) hT) (fun v1212 h1215 l1213 q1214 => ?_)
    obtain ⟨j1216, f1217, b1218, c1219, c1220, c1221⟩ := q1214
    have f1222 := Fr.trans hF f1217 (by decide)
    have b1223 := jB (e := 2) 0 j1216 rg_1_2_0_1 (by omega) (by omega)
    have b1224 : iv_tl 0 = 4 := by decide
    refine x_ifz (k := 0) (tg := 48) (np := 37) (by decide +kernel) (by decide) l1213 (fun q1225 => ?_) (fun q1226 => ?_)
    · have q1225 : v1212 = 2147483648 := q1225
      have b1227 := c1220 (by omega)
      refine x_const (np := 49) (x := 9223372039002259456) (a := 2147483648) (by decide +kernel) (by decide) (by decide) ?_
      have b1228 := jB (e := 7) 0 hJ (rg_T0_7_0_1 t1196) (by omega) (by omega)
      have e1229 : rv h 0 = (h (h 61 1) 7) := (congrArg (fun z => svq h z 0) rfl).trans rfl
      have q1230 : h1215 61 1 = h 61 1 := f1217 61 1 (by decide +kernel)
      have q1231 : h1215 (h 61 1) 7 = h (h 61 1) 7 := jK 0 f1217 (rg_T0_7_0_1 t1196) (by omega) (by omega) (by decide)
      have e1232 : rv h1215 0 = (h (h 61 1) 7) := (congrArg (fun z => svq h1215 z 0) q1230).trans q1231
      have e1233 : rv h 1 = (h (h 61 1) 8) := (congrArg (fun z => svq h z 1) rfl).trans rfl
      have q1234 : h1215 61 1 = h 61 1 := f1217 61 1 (by decide +kernel)
      have q1235 : h1215 (h 61 1) 8 = h (h 61 1) 8 := jK 0 f1217 (rg_T0_8_0_1 t1196) (by omega) (by omega) (by decide)
      have e1236 : rv h1215 1 = (h (h 61 1) 8) := (congrArg (fun z => svq h1215 z 1) q1234).trans q1235
      have q1237 : h1215 61 1 = h 61 1 := f1217 61 1 (by decide +kernel)
      have q1238 : h1215 (h 61 1) 7 = h (h 61 1) 7 := jK 0 f1217 (rg_T0_7_0_1 t1196) (by omega) (by omega) (by decide)
      have q1239 : h1215 61 1 = h 61 1 := f1217 61 1 (by decide +kernel)
      have q1240 : h1215 (h 61 1) 8 = h (h 61 1) 8 := jK 0 f1217 (rg_T0_8_0_1 t1196) (by omega) (by omega) (by decide)
      have e1241 : rv h 2 = (h ((h 61 1) + 1) 2) := (congrArg (fun z => svq h z 2) rfl).trans rfl
      have q1242 : h1215 61 1 = h 61 1 := f1217 61 1 (by decide +kernel)
      have q1243 : h1215 ((h 61 1) + 1) 2 = h ((h 61 1) + 1) 2 := jK 0 f1217 (rg_T1_2_0_1 t1196) (by omega) (by omega) (by decide)
      have e1244 : rv h1215 2 = (h ((h 61 1) + 1) 2) := (congrArg (fun z => svq h1215 z 2) q1242).trans q1243
      have b1245 := jB (e := 2) 0 hJ (rg_T3_2_0_1 t1196) (by omega) (by omega)
      have e1246 : rv h 3 = (h ((h 61 1) + 3) 2) := (congrArg (fun z => svq h z 3) rfl).trans rfl
      have q1247 : h1215 61 1 = h 61 1 := f1217 61 1 (by decide +kernel)
      have q1248 : h1215 ((h 61 1) + 3) 2 = h ((h 61 1) + 3) 2 := jK 0 f1217 (rg_T3_2_0_1 t1196) (by omega) (by omega) (by decide)
      have e1249 : rv h1215 3 = (h ((h 61 1) + 3) 2) := (congrArg (fun z => svq h1215 z 3) q1247).trans q1248
      have b1250 := jB (e := 2) 0 hJ (rg_T5_2_0_1 t1196) (by omega) (by omega)
      have e1251 : rv h 4 = (h ((h 61 1) + 5) 2) := (congrArg (fun z => svq h z 4) rfl).trans rfl
      have q1252 : h1215 61 1 = h 61 1 := f1217 61 1 (by decide +kernel)
      have q1253 : h1215 ((h 61 1) + 5) 2 = h ((h 61 1) + 5) 2 := jK 0 f1217 (rg_T5_2_0_1 t1196) (by omega) (by omega) (by decide)
      have e1254 : rv h1215 4 = (h ((h 61 1) + 5) 2) := (congrArg (fun z => svq h1215 z 4) q1252).trans q1253
      have b1255 := jB (e := 2) 0 hJ (rg_T7_2_0_1 t1196) (by omega) (by omega)
      have e1256 : rv h 5 = (h ((h 61 1) + 7) 2) := (congrArg (fun z => svq h z 5) rfl).trans rfl
      have q1257 : h1215 61 1 = h 61 1 := f1217 61 1 (by decide +kernel)
      have q1258 : h1215 ((h 61 1) + 7) 2 = h ((h 61 1) + 7) 2 := jK 0 f1217 (rg_T7_2_0_1 t1196) (by omega) (by omega) (by decide)
      have e1259 : rv h1215 5 = (h ((h 61 1) + 7) 2) := (congrArg (fun z => svq h1215 z 5) q1257).trans q1258
      obtain ⟨w1260, e1261⟩ := Tk.no c1221 (by omega)
      have m1262 : Ot (h 61 1) h h1215 := Ot.fr Ot.refl f1217 (by decide)
      refine x_retI (np := 50) (x := 0) (by decide +kernel) (by decide) (Or.inr ⟨by decide +kernel, by omega, by omega⟩) ⟨_, rfl, (by decide), ?_⟩
      exact ⟨j1216, f1222, (by omega), (by omega), (by omega), (absurd (Is.yes c6 (by omega)) w1260), m1262⟩
    have q1226 : ¬ (v1212 = 2147483648) := q1226
    have b1263 := c1219 (by omega)
    refine x_aload (np := 38) (x := 0) (by decide +kernel) rfl (x_nc_le (by decide)) ?_
    have q1264 : h1215 61 1 = h 61 1 := f1217 61 1 (by decide +kernel)
    have q1265 : h1215 ((h 61 1) + 1) 2 = h ((h 61 1) + 1) 2 := jK 0 f1217 (rg_T1_2_0_1 t1196) (by omega) (by omega) (by decide)
    have e1266 : rv h1215 2 = (h ((h 61 1) + 1) 2) := (congrArg (fun z => svq h1215 z 2) q1264).trans q1265
    have m1270 := Tp.fr hT f1217 (by decide) (by decide)
    refine x_cI (t := 6) (mj := 94) (n := 1) (rc := 10) (ml := 2) (nr := 0) (np := 41) (as := [x_r 61]) (rest := []) (lo1 := [x_r 61, 147573952589676412928]) (by decide +kernel) (by decide) (by decide +kernel) (x_rb_of (by decide +kernel)) rfl rfl (x_wr (by decide) x_wn) x_wn (by decide) rfl (c94_61 j1216  (by omega) m1270) (fun v1267 h1271 l1268 q1269 => ?_)
    obtain ⟨j1272, f1273, b1274, c1275, c1276, c1277, c1278, c1279, c1280, c1281, c1282⟩ := q1269
    have f1283 := Fr.trans f1222 f1273 (by decide)
    have q1284 : h1215 61 1 = h 61 1 := f1217 61 1 (by decide +kernel)
    have q1285 : h1215 (h 61 1) 7 = h (h 61 1) 7 := jK 0 f1217 (rg_T0_7_0_1 t1196) (by omega) (by omega) (by decide)
    have b1286 := jB (e := 7) 0 hJ (rg_T0_7_0_1 t1196) (by omega) (by omega)
    have e1287 : rv h1215 0 = (h (h 61 1) 7) := (congrArg (fun z => svq h1215 z 0) q1284).trans q1285
    have q1288 : h1271 61 1 = h1215 61 1 := f1273 61 1 (by decide +kernel)
    have q1289 : h1215 61 1 = h 61 1 := f1217 61 1 (by decide +kernel)
    have b1290 := jB (e := 7) 0 j1272 (rg_T0_7_0_1 t1196) (by omega) (by omega)
    have e1291 : rv h1271 0 = (h1271 (h 61 1) 7) := (congrArg (fun z => svq h1271 z 0) (q1288.trans q1289)).trans rfl
    have q1292 : h1215 61 1 = h 61 1 := f1217 61 1 (by decide +kernel)
    have q1293 : h1215 (h 61 1) 8 = h (h 61 1) 8 := jK 0 f1217 (rg_T0_8_0_1 t1196) (by omega) (by omega) (by decide)
    have e1294 : rv h1215 1 = (h (h 61 1) 8) := (congrArg (fun z => svq h1215 z 1) q1292).trans q1293
    have q1295 : h1271 61 1 = h1215 61 1 := f1273 61 1 (by decide +kernel)
    have q1296 : h1215 61 1 = h 61 1 := f1217 61 1 (by decide +kernel)
    have e1297 : rv h1271 1 = (h1271 (h 61 1) 8) := (congrArg (fun z => svq h1271 z 1) (q1295.trans q1296)).trans rfl
    have q1298 : h1215 61 1 = h 61 1 := f1217 61 1 (by decide +kernel)
    have q1299 : h1215 ((h 61 1) + 1) 2 = h ((h 61 1) + 1) 2 := jK 0 f1217 (rg_T1_2_0_1 t1196) (by omega) (by omega) (by decide)
    have q1300 : h1271 61 1 = h1215 61 1 := f1273 61 1 (by decide +kernel)
    have q1301 : h1215 61 1 = h 61 1 := f1217 61 1 (by decide +kernel)
    have b1302 := jB (e := 2) 0 j1272 (rg_T1_2_0_1 t1196) (by omega) (by omega)
    have e1303 : rv h1271 2 = (h1271 ((h 61 1) + 1) 2) := (congrArg (fun z => svq h1271 z 2) (q1300.trans q1301)).trans rfl
    have q1304 : h1215 61 1 = h 61 1 := f1217 61 1 (by decide +kernel)
    have q1305 : h1215 ((h 61 1) + 3) 2 = h ((h 61 1) + 3) 2 := jK 0 f1217 (rg_T3_2_0_1 t1196) (by omega) (by omega) (by decide)
    have b1306 := jB (e := 2) 0 hJ (rg_T3_2_0_1 t1196) (by omega) (by omega)
    have e1307 : rv h1215 3 = (h ((h 61 1) + 3) 2) := (congrArg (fun z => svq h1215 z 3) q1304).trans q1305
    have q1308 : h1271 61 1 = h1215 61 1 := f1273 61 1 (by decide +kernel)
    have q1309 : h1215 61 1 = h 61 1 := f1217 61 1 (by decide +kernel)
    have b1310 := jB (e := 2) 0 j1272 (rg_T3_2_0_1 t1196) (by omega) (by omega)
    have e1311 : rv h1271 3 = (h1271 ((h 61 1) + 3) 2) := (congrArg (fun z => svq h1271 z 3) (q1308.trans q1309)).trans rfl
    have q1312 : h1215 61 1 = h 61 1 := f1217 61 1 (by decide +kernel)
    have q1313 : h1215 ((h 61 1) + 5) 2 = h ((h 61 1) + 5) 2 := jK 0 f1217 (rg_T5_2_0_1 t1196) (by omega) (by omega) (by decide)
    have b1314 := jB (e := 2) 0 hJ (rg_T5_2_0_1 t1196) (by omega) (by omega)
    have e1315 : rv h1215 4 = (h ((h 61 1) + 5) 2) := (congrArg (fun z => svq h1215 z 4) q1312).trans q1313
    have q1316 : h1271 61 1 = h1215 61 1 := f1273 61 1 (by decide +kernel)
    have q1317 : h1215 61 1 = h 61 1 := f1217 61 1 (by decide +kernel)
    have b1318 := jB (e := 2) 0 j1272 (rg_T5_2_0_1 t1196) (by omega) (by omega)
    have e1319 : rv h1271 4 = (h1271 ((h 61 1) + 5) 2) := (congrArg (fun z => svq h1271 z 4) (q1316.trans q1317)).trans rfl
    have q1320 : h1215 61 1 = h 61 1 := f1217 61 1 (by decide +kernel)
    have q1321 : h1215 ((h 61 1) + 7) 2 = h ((h 61 1) + 7) 2 := jK 0 f1217 (rg_T7_2_0_1 t1196) (by omega) (by omega) (by decide)
    have b1322 := jB (e := 2) 0 hJ (rg_T7_2_0_1 t1196) (by omega) (by omega)
    have e1323 : rv h1215 5 = (h ((h 61 1) + 7) 2) := (congrArg (fun z => svq h1215 z 5) q1320).trans q1321
    have q1324 : h1271 61 1 = h1215 61 1 := f1273 61 1 (by decide +kernel)
    have q1325 : h1215 61 1 = h 61 1 := f1217 61 1 (by decide +kernel)
    have b1326 := jB (e := 2) 0 j1272 (rg_T7_2_0_1 t1196) (by omega) (by omega)
    have e1327 : rv h1271 5 = (h1271 ((h 61 1) + 7) 2) := (congrArg (fun z => svq h1271 z 5) (q1324.trans q1325)).trans rfl
    have q1328 : h1215 61 1 = h 61 1 := f1217 61 1 (by decide +kernel)
    refine x_ifz (k := 0) (tg := 48) (np := 44) (by decide +kernel) (by decide) l1268 (fun q1329 => ?_) (fun q1330 => ?_)
    · have q1329 : v1267 = 2147483648 := q1329
      refine x_const (np := 49) (x := 9223372039002259456) (a := 2147483648) (by decide +kernel) (by decide) (by decide) ?_
      have e1331 : rv h 0 = (h (h 61 1) 7) := (congrArg (fun z => svq h z 0) rfl).trans rfl
      have q1332 : h1271 61 1 = h1215 61 1 := f1273 61 1 (by decide +kernel)
      have q1333 : h1215 61 1 = h 61 1 := f1217 61 1 (by decide +kernel)
      have e1334 : rv h 1 = (h (h 61 1) 8) := (congrArg (fun z => svq h z 1) rfl).trans rfl
      have q1335 : h1271 61 1 = h1215 61 1 := f1273 61 1 (by decide +kernel)
      have q1336 : h1215 61 1 = h 61 1 := f1217 61 1 (by decide +kernel)
      have q1337 : h1271 61 1 = h1215 61 1 := f1273 61 1 (by decide +kernel)
      have q1338 : h1215 61 1 = h 61 1 := f1217 61 1 (by decide +kernel)
      have q1339 : h1271 61 1 = h1215 61 1 := f1273 61 1 (by decide +kernel)
      have q1340 : h1215 61 1 = h 61 1 := f1217 61 1 (by decide +kernel)
      have e1341 : rv h 2 = (h ((h 61 1) + 1) 2) := (congrArg (fun z => svq h z 2) rfl).trans rfl
      have q1342 : h1271 61 1 = h1215 61 1 := f1273 61 1 (by decide +kernel)
      have q1343 : h1215 61 1 = h 61 1 := f1217 61 1 (by decide +kernel)
      have e1344 : rv h 3 = (h ((h 61 1) + 3) 2) := (congrArg (fun z => svq h z 3) rfl).trans rfl
      have q1345 : h1271 61 1 = h1215 61 1 := f1273 61 1 (by decide +kernel)
      have q1346 : h1215 61 1 = h 61 1 := f1217 61 1 (by decide +kernel)
      have e1347 : rv h 4 = (h ((h 61 1) + 5) 2) := (congrArg (fun z => svq h z 4) rfl).trans rfl
      have q1348 : h1271 61 1 = h1215 61 1 := f1273 61 1 (by decide +kernel)
      have q1349 : h1215 61 1 = h 61 1 := f1217 61 1 (by decide +kernel)
      have e1350 : rv h 5 = (h ((h 61 1) + 7) 2) := (congrArg (fun z => svq h z 5) rfl).trans rfl
      have q1351 : h1271 61 1 = h1215 61 1 := f1273 61 1 (by decide +kernel)
      have q1352 : h1215 61 1 = h 61 1 := f1217 61 1 (by decide +kernel)
      obtain ⟨w1353, e1354⟩ := Tk.yes c1221 (by omega)
      have q1355 : h1215 61 1 = h 61 1 := f1217 61 1 (by decide +kernel)
      have q1356 : h1215 (h 61 1) 7 = h (h 61 1) 7 := jK 0 f1217 (rg_T0_7_0_1 t1196) (by omega) (by omega) (by decide)
      have k1357 : loan9 tB tN (rv h 0) (h1215 1 2) (rs v1267 (h1271 1 2)) := by rw [show rv h 0 = rv h1215 0 by omega]; exact c1281
      have m1358 : Ot (h 61 1) h h1215 := Ot.fr Ot.refl f1217 (by decide)
      have m1359 : Ot (h 61 1) h h1271 := Ot.trans m1358 (Ot.cast c1282 q1328)
      refine x_retI (np := 50) (x := 0) (by decide +kernel) (by decide) (Or.inr ⟨by decide +kernel, by omega, by omega⟩) ⟨_, rfl, (by decide), ?_⟩
      exact ⟨j1272, f1283, (by omega), (by omega), (by omega), (l9_lend w1353 rfl (by omega) e1354 rfl k1357 (by omega) (by omega) (fun z => absurd z (by omega))), m1359⟩
    have q1330 : ¬ (v1267 = 2147483648) := q1330
    have b1360 := c1277 (by omega)
    refine x_const (np := 45) (x := 9223372043297226753) (a := 2147483649) (by decide +kernel) (by decide) (by decide) ?_
    refine x_goto (np := 48) (x := 49) (by decide +kernel) ?_
    have e1361 : rv h 0 = (h (h 61 1) 7) := (congrArg (fun z => svq h z 0) rfl).trans rfl
    have q1362 : h1271 61 1 = h1215 61 1 := f1273 61 1 (by decide +kernel)
    have q1363 : h1215 61 1 = h 61 1 := f1217 61 1 (by decide +kernel)
    have e1364 : rv h 1 = (h (h 61 1) 8) := (congrArg (fun z => svq h z 1) rfl).trans rfl
    have q1365 : h1271 61 1 = h1215 61 1 := f1273 61 1 (by decide +kernel)
    have q1366 : h1215 61 1 = h 61 1 := f1217 61 1 (by decide +kernel)
    have q1367 : h1271 61 1 = h1215 61 1 := f1273 61 1 (by decide +kernel)
    have q1368 : h1215 61 1 = h 61 1 := f1217 61 1 (by decide +kernel)
    have q1369 : h1271 61 1 = h1215 61 1 := f1273 61 1 (by decide +kernel)
    have q1370 : h1215 61 1 = h 61 1 := f1217 61 1 (by decide +kernel)
    have e1371 : rv h 2 = (h ((h 61 1) + 1) 2) := (congrArg (fun z => svq h z 2) rfl).trans rfl
    have q1372 : h1271 61 1 = h1215 61 1 := f1273 61 1 (by decide +kernel)
    have q1373 : h1215 61 1 = h 61 1 := f1217 61 1 (by decide +kernel)
    have e1374 : rv h 3 = (h ((h 61 1) + 3) 2) := (congrArg (fun z => svq h z 3) rfl).trans rfl
    have q1375 : h1271 61 1 = h1215 61 1 := f1273 61 1 (by decide +kernel)
    have q1376 : h1215 61 1 = h 61 1 := f1217 61 1 (by decide +kernel)
    have e1377 : rv h 4 = (h ((h 61 1) + 5) 2) := (congrArg (fun z => svq h z 4) rfl).trans rfl
    have q1378 : h1271 61 1 = h1215 61 1 := f1273 61 1 (by decide +kernel)
    have q1379 : h1215 61 1 = h 61 1 := f1217 61 1 (by decide +kernel)
    have e1380 : rv h 5 = (h ((h 61 1) + 7) 2) := (congrArg (fun z => svq h z 5) rfl).trans rfl
    have q1381 : h1271 61 1 = h1215 61 1 := f1273 61 1 (by decide +kernel)
    have q1382 : h1215 61 1 = h 61 1 := f1217 61 1 (by decide +kernel)
    obtain ⟨w1383, e1384⟩ := Tk.yes c1221 (by omega)
    have q1385 : h1215 61 1 = h 61 1 := f1217 61 1 (by decide +kernel)
    have q1386 : h1215 (h 61 1) 7 = h (h 61 1) 7 := jK 0 f1217 (rg_T0_7_0_1 t1196) (by omega) (by omega) (by decide)
    have k1387 : loan9 tB tN (rv h 0) (h1215 1 2) (rs v1267 (h1271 1 2)) := by rw [show rv h 0 = rv h1215 0 by omega]; exact c1281
    have m1388 : Ot (h 61 1) h h1215 := Ot.fr Ot.refl f1217 (by decide)
    have m1389 : Ot (h 61 1) h h1271 := Ot.trans m1388 (Ot.cast c1282 q1328)
    refine x_retI (np := 50) (x := 0) (by decide +kernel) (by decide) (Or.inr ⟨by decide +kernel, by omega, by omega⟩) ⟨_, rfl, (by decide), ?_⟩
    exact ⟨j1272, f1283, (by omega), (by omega), (by omega), (l9_lend w1383 rfl (by omega) e1384 rfl k1387 (by omega) (by omega) (fun z => ⟨rfl, by omega, by omega, by omega, by omega⟩)), m1389⟩
  have q1208 : ¬ ((2147483655 + 7 * u1203) ≤ 2147483788) := q1208
  refine x_const (np := 20) (x := 9223372043297226753) (a := 2147483649) (by decide +kernel) (by decide) (by decide) ?_
  refine x_goto (np := 23) (x := 24) (by decide +kernel) ?_
  refine x_retI (np := 25) (x := 0) (by decide +kernel) (by decide) (Or.inr ⟨by decide +kernel, by omega, by omega⟩) ⟨_, rfl, (by decide), ?_⟩
  refine x_ifz (k := 1) (tg := 48) (np := 25) (by decide +kernel) (by decide) (by decide) (fun q1390 => ?_) (fun q1391 => ?_)
  · have q1390 : 2147483649 ≠ 2147483648 := q1390
    refine x_const (np := 49) (x := 9223372039002259456) (a := 2147483648) (by decide +kernel) (by decide) (by decide) ?_
    have b1392 := jB (e := 7) 0 hJ (rg_T0_7_0_1 t1196) (by omega) (by omega)
    have e1393 : rv h 0 = (h (h 61 1) 7) := (congrArg (fun z => svq h z 0) rfl).trans rfl
    have e1394 : rv h 1 = (h (h 61 1) 8) := (congrArg (fun z => svq h z 1) rfl).trans rfl
    have e1395 : rv h 2 = (h ((h 61 1) + 1) 2) := (congrArg (fun z => svq h z 2) rfl).trans rfl
    have b1396 := jB (e := 2) 0 hJ (rg_T3_2_0_1 t1196) (by omega) (by omega)
    have e1397 : rv h 3 = (h ((h 61 1) + 3) 2) := (congrArg (fun z => svq h z 3) rfl).trans rfl
    have b1398 := jB (e := 2) 0 hJ (rg_T5_2_0_1 t1196) (by omega) (by omega)
    have e1399 : rv h 4 = (h ((h 61 1) + 5) 2) := (congrArg (fun z => svq h z 4) rfl).trans rfl
    have b1400 := jB (e := 2) 0 hJ (rg_T7_2_0_1 t1196) (by omega) (by omega)
    have e1401 : rv h 5 = (h ((h 61 1) + 7) 2) := (congrArg (fun z => svq h z 5) rfl).trans rfl
    refine x_retI (np := 50) (x := 0) (by decide +kernel) (by decide) (Or.inr ⟨by decide +kernel, by omega, by omega⟩) ⟨_, rfl, (by decide), ?_⟩
    exact ⟨hJ, hF, (by omega), (by omega), (by omega), (l9_lend0 (Is.yes c6 (by omega)) rfl (by omega) (by omega)), Ot.refl⟩
  have q1391 : ¬ (2147483649 ≠ 2147483648) := q1391
  exfalso; omega
set_option maxHeartbeats 0 in
/-- LentNames$Tape.isSign(C)Z -/
theorem c75_1 {sc : Nat × Nat} {d a1 : Nat} {h : xh} {tB : Nat → Nat} {tN : Nat} (hJ : J h) (ba1 : 2147483648 ≤ a1 ∧ a1 ≤ 2147483775) (hT : Tp tB tN h) : X sc 75 (d + 1) (xI fun r h' => h' = h ∧ (2147483648 ≤ r ∧ r ≤ 2147483649) ∧ (r = 2147483649 → h 1 2 + 1 ≤ 2147484048) ∧ Is (Sg tB tN a1 (h 1 2)) r) 0 0 0 [x_r 1, iv_c a1] [] h := by
  have la1 : a1 < 4294967296 := by omega
  refine x_aload (np := 1) (x := 0) (by decide +kernel) rfl (x_nc_le (by decide)) ?_
  refine x_aload (np := 2) (x := 0) (by decide +kernel) rfl (x_nc_le (by decide)) ?_
  have b1 := jB (e := 2) 0 hJ rg_1_2_0_1 (by omega) (by omega)
  refine x_getC (np := 5) (x := 450) (f := 2) (q := (h 1 2)) (by decide +kernel) (by decide) (by decide +kernel) rfl (fun l2 => ?_)
  refine x_nI (t := 6) (mj := 81) (n := 2) (rc := 8) (ml := 2) (nr := 0) (np := 8) (as := [x_r 1, iv_c (h 1 2)]) (rest := []) (lo1 := [x_r 1, iv_c (h 1 2)]) (by decide +kernel) (by decide) (by decide +kernel) (x_rb_of (by decide +kernel)) rfl rfl (x_wr (by decide) (x_wi l2 x_wn)) x_wn (by decide) rfl ?_
  refine x_iload (np := 1) (x := 1) (by decide +kernel) rfl l2 ?_
  refine x_aload (np := 2) (x := 0) (by decide +kernel) rfl (x_nc_le (by decide)) ?_
  have b3 := jB (e := 1) 0 hJ rg_1_1_0_1 (by omega) (by omega)
  refine x_getC (np := 5) (x := 449) (f := 1) (q := (h 1 1)) (by decide +kernel) (by decide) (by decide +kernel) rfl (fun l4 => ?_)
  refine x_icmp (k := 3) (tg := 17) (np := 8) (by decide +kernel) (by decide) l2 l4 (fun q5 => ?_) (fun q6 => ?_)
  · have q5 : (h 1 1) ≤ (h 1 2) := q5
    refine x_const (np := 18) (x := 9223372034707292159) (a := 2147483647) (by decide +kernel) (by decide) (by decide) ?_
    refine x_retI (np := 19) (x := 0) (by decide +kernel) (by decide) (Or.inl (by decide +kernel)) ⟨_, rfl, (by decide), ?_⟩
    refine x_iload (np := 9) (x := 1) (by decide +kernel) rfl la1 ?_
    refine x_icmp (k := 1) (tg := 16) (np := 12) (by decide +kernel) (by decide) (by decide) la1 (fun q7 => ?_) (fun q8 => ?_)
    · have q7 : 2147483647 ≠ a1 := q7
      refine x_const (np := 17) (x := 9223372039002259456) (a := 2147483648) (by decide +kernel) (by decide) (by decide) ?_
      have z9 := hT.1
      refine x_retI (np := 18) (x := 0) (by decide +kernel) (by decide) (Or.inr ⟨by decide +kernel, by omega, by omega⟩) ⟨_, rfl, (by decide), ?_⟩
      exact ⟨rfl, (by omega), (fun z => by omega), (Is.mk0 (by omega) (fun z => by have z1 := z.1; have z2 := z.2; omega))⟩
    have q8 : ¬ (2147483647 ≠ a1) := q8
    exfalso; omega
  have q6 : ¬ ((h 1 1) ≤ (h 1 2)) := q6
  refine x_aload (np := 9) (x := 0) (by decide +kernel) rfl (x_nc_le (by decide)) ?_
  have q10 : h 1 0 = 2 := by have z := jB (e := 0) 0 hJ rg_1_0_0_1 (by decide) (by decide); omega
  refine x_getR (np := 12) (x := 448) (f := 0) (q := 2) (by decide +kernel) (by decide) (by decide +kernel) q10 ?_
  refine x_iload (np := 13) (x := 1) (by decide +kernel) rfl l2 ?_
  obtain ⟨u11, q12⟩ : ∃ z, (h 1 2) = 2147483648 + z := ⟨(h 1 2) - 2147483648, by omega⟩
  refine x_aldC (np := 14) (x := 0) (n := 400) (i := u11) (q := (h 2 u11)) (by decide +kernel) (by decide +kernel) (by omega) (by omega) (by decide) rfl (fun l13 => ?_)
  refine x_goto (np := 17) (x := 18) (by decide +kernel) ?_
  refine x_retI (np := 19) (x := 0) (by decide +kernel) l13 (Or.inl (by decide +kernel)) ⟨_, rfl, l13, ?_⟩
  refine x_iload (np := 9) (x := 1) (by decide +kernel) rfl la1 ?_
  refine x_icmp (k := 1) (tg := 16) (np := 12) (by decide +kernel) (by decide) l13 la1 (fun q14 => ?_) (fun q15 => ?_)
  · have q14 : (h 2 u11) ≠ a1 := q14
    refine x_const (np := 17) (x := 9223372039002259456) (a := 2147483648) (by decide +kernel) (by decide) (by decide) ?_
    have z16 := hT.1
    have z17 := Tp.at (p := (h 1 2)) (u := u11) hT (by omega) (by omega)
    refine x_retI (np := 18) (x := 0) (by decide +kernel) (by decide) (Or.inr ⟨by decide +kernel, by omega, by omega⟩) ⟨_, rfl, (by decide), ?_⟩
    exact ⟨rfl, (by omega), (fun z => by omega), (Is.mk0 (by omega) (fun z => by have z1 := z.1; have z2 := z.2; omega))⟩
  have q15 : ¬ ((h 2 u11) ≠ a1) := q15
  refine x_const (np := 13) (x := 9223372043297226753) (a := 2147483649) (by decide +kernel) (by decide) (by decide) ?_
  refine x_goto (np := 16) (x := 17) (by decide +kernel) ?_
  have z18 := hT.1
  have z19 := Tp.at (p := (h 1 2)) (u := u11) hT (by omega) (by omega)
  refine x_retI (np := 18) (x := 0) (by decide +kernel) (by decide) (Or.inr ⟨by decide +kernel, by omega, by omega⟩) ⟨_, rfl, (by decide), ?_⟩
  exact ⟨rfl, (by omega), (fun z => by omega), (Is.mk1 (by omega) ⟨by omega, by omega⟩)⟩
set_option maxHeartbeats 0 in
/-- LentNames$Tape.takesSign(C)Z -/
theorem c76_1 {sc : Nat × Nat} {d a1 : Nat} {h : xh} {tB : Nat → Nat} {tN : Nat} (hJ : J h) (ba1 : 2147483648 ≤ a1 ∧ a1 ≤ 2147483775) (hT : Tp tB tN h) : X sc 76 (d + 2) (xI fun r h' => J h' ∧ Fr 33 h h' ∧ (2147483648 ≤ r ∧ r ≤ 2147483649) ∧ (r = 2147483649 → h 1 2 + 1 ≤ h' 1 2) ∧ (r = 2147483648 → h' 1 2 = h 1 2) ∧ Tk (Sg tB tN a1 (h 1 2)) tB tN (h 1 2) 1 r (h' 1 2)) 0 0 0 [x_r 1, iv_c a1] [] h := by
  have la1 : a1 < 4294967296 := by omega
  have hF := Fr.refl 33 h
  refine x_aload (np := 1) (x := 0) (by decide +kernel) rfl (x_nc_le (by decide)) ?_
  refine x_iload (np := 2) (x := 1) (by decide +kernel) rfl la1 ?_
  refine x_cP (t := 6) (mj := 75) (n := 2) (rc := 8) (ml := 2) (nr := 0) (np := 5) (as := [x_r 1, iv_c a1]) (rest := []) (lo1 := [x_r 1, iv_c a1]) (by decide +kernel) (by decide) (by decide +kernel) (x_rb_of (by decide +kernel)) rfl rfl (x_wr (by decide) (x_wi la1 x_wn)) x_wn (by decide) rfl (c75_1 hJ  (by omega) hT) (fun v1 l2 q3 => ?_)
  obtain ⟨b6, c4, c5⟩ := q3
  have b7 := jB (e := 1) 0 hJ rg_1_1_0_1 (by omega) (by omega)
  have b8 := jB (e := 2) 0 hJ rg_1_2_0_1 (by omega) (by omega)
  refine x_ifz (k := 1) (tg := 10) (np := 8) (by decide +kernel) (by decide) l2 (fun q9 => ?_) (fun q10 => ?_)
  · have q9 : v1 ≠ 2147483648 := q9
    have b11 := c4 (by omega)
    refine x_aload (np := 11) (x := 0) (by decide +kernel) rfl (x_nc_le (by decide)) ?_
    refine x_aload (np := 12) (x := 0) (by decide +kernel) rfl (x_nc_le (by decide)) ?_
    refine x_getC (np := 15) (x := 450) (f := 2) (q := (h 1 2)) (by decide +kernel) (by decide) (by decide +kernel) rfl (fun l12 => ?_)
    refine x_const (np := 16) (x := 9223372043297226753) (a := 2147483649) (by decide +kernel) (by decide) (by decide) ?_
    refine x_iadd (np := 17) (x := 0) (v := (1 + (h 1 2))) (by decide +kernel) l12 (by decide) (by omega) (by omega) ?_
    refine x_cV (t := 6) (mj := 80) (n := 2) (rc := 8) (ml := 2) (nr := 0) (np := 20) (as := [x_r 1, iv_c (1 + (h 1 2))]) (rest := []) (lo1 := [x_r 1, iv_c (1 + (h 1 2))]) (by decide +kernel) (by decide) (by decide +kernel) (x_rb_of (by decide +kernel)) rfl rfl (x_wr (by decide) (x_wi (by omega) x_wn)) x_wn (by decide) rfl (c80_1 hJ  (by omega) hT) (fun h16 q15 => ?_)
    obtain ⟨j17, f18, c21, c22⟩ := q15
    have f23 := Fr.trans hF f18 (by decide)
    have b24 := jB (e := 2) 0 j17 rg_1_2_0_1 (by omega) (by omega)
    refine x_const (np := 21) (x := 9223372043297226753) (a := 2147483649) (by decide +kernel) (by decide) (by decide) ?_
    refine x_retI (np := 22) (x := 0) (by decide +kernel) (by decide) (Or.inr ⟨by decide +kernel, by omega, by omega⟩) ⟨_, rfl, (by decide), ?_⟩
    exact ⟨j17, f23, (by omega), (fun z => by omega), (fun z => by omega), (Tk.mk1 (by omega) (Is.yes c5 (by omega)) c22 (by omega))⟩
  have q10 : ¬ (v1 ≠ 2147483648) := q10
  refine x_const (np := 9) (x := 9223372039002259456) (a := 2147483648) (by decide +kernel) (by decide) (by decide) ?_
  refine x_retI (np := 10) (x := 0) (by decide +kernel) (by decide) (Or.inr ⟨by decide +kernel, by omega, by omega⟩) ⟨_, rfl, (by decide), ?_⟩
  exact ⟨hJ, hF, (by omega), (fun z => by omega), (fun z => by omega), (Tk.mk0 (by omega) (Is.no c5 (by omega)) rfl)⟩
set_option maxHeartbeats 0 in
/-- LentNames$TownReader.reads(LLentNames$Town;)Z -/
theorem c92_61_T0 {sc : Nat × Nat} {d ra1 : Nat} {h : xh} {tB : Nat → Nat} {tN : Nat} (hJ : J h) (ta1 : tw ra1) (hT : Tp tB tN h) : X sc 92 (d + 9) (xI fun r h' => J h' ∧ Fr 281474976727201 h h' ∧ (2147483648 ≤ r ∧ r ≤ 2147483649) ∧ (h' ra1 7 = h ra1 7) ∧ (h' ra1 8 = h ra1 8) ∧ Tt tB tN (h ra1 7) (h (ra1 + 1) 2) (h (ra1 + 3) 2) (h (ra1 + 5) 2) (h (ra1 + 7) 2) (rs4 r (h' (ra1 + 1) 2) (h' (ra1 + 3) 2) (h' (ra1 + 5) 2) (h' (ra1 + 7) 2)) ∧ Ot ra1 h h') 0 0 0 [x_r 61, x_r ra1, 147573952589676412928] [] h := by
  have hF := Fr.refl 281474976727201 h
  refine x_aload (np := 1) (x := 0) (by decide +kernel) rfl (x_nc_le (by decide)) ?_
  refine x_aload (np := 2) (x := 1) (by decide +kernel) rfl (x_nc_le (tn_0 ta1)) ?_
  refine x_putR (np := 5) (x := 8769) (f := 1) (by decide +kernel) (by decide +kernel) (tn_0 ta1) (by decide) ?_
  have j2 := J_upW (k := 61) (i := 1) hJ ta1 (by decide)
  have f4 := Fr.up (k := 61) (i := 1) (v := ra1) hF (by decide +kernel)
  generalize e3 : x_up h 61 1 ra1 = h1 at j2 f4 ⊢
  refine x_aload (np := 6) (x := 0) (by decide +kernel) rfl (x_nc_le (by decide)) ?_
  have q5 : h1 61 0 = 1 := by have z := jB (e := 0) 0 j2 rg_61_0_0_1 (by decide) (by decide); omega
  refine x_getR (np := 9) (x := 576) (f := 0) (q := 1) (by decide +kernel) (by decide) (by decide +kernel) q5 ?_
  refine x_nV (t := 6) (mj := 73) (n := 1) (rc := 8) (ml := 1) (nr := 0) (np := 12) (as := [x_r 1]) (rest := []) (lo1 := [x_r 1]) (by decide +kernel) (by decide) (by decide +kernel) (x_rb_of (by decide +kernel)) rfl rfl (x_wr (by decide) x_wn) x_wn (by decide) rfl ?_
  refine x_aload (np := 1) (x := 0) (by decide +kernel) rfl (x_nc_le (by decide)) ?_
  refine x_const (np := 2) (x := 9223372039002259456) (a := 2147483648) (by decide +kernel) (by decide) (by decide) ?_
  have m9 : Tp tB tN h1 := by rw [← e3]; exact Tp.oth hT (by decide) (by decide)
  refine x_cV (t := 6) (mj := 80) (n := 2) (rc := 8) (ml := 2) (nr := 0) (np := 5) (as := [x_r 1, iv_c 2147483648]) (rest := []) (lo1 := [x_r 1, iv_c 2147483648]) (by decide +kernel) (by decide) (by decide +kernel) (x_rb_of (by decide +kernel)) rfl rfl (x_wr (by decide) (x_wi (by decide) x_wn)) x_wn (by decide) rfl (c80_1 j2  (by omega) m9) (fun h10 q8 => ?_)
  obtain ⟨j11, f12, c15, c16⟩ := q8
  have f17 := Fr.trans f4 f12 (by decide)
  have b18 := jB (e := 2) 0 j11 rg_1_2_0_1 (by omega) (by omega)
  refine x_retV (np := 6) (x := 0) (by decide +kernel) (by decide +kernel) ⟨rfl, ?_⟩
  refine x_aload (np := 13) (x := 0) (by decide +kernel) rfl (x_nc_le (by decide)) ?_
  have q19 : h10 61 0 = 1 := by have z := jB (e := 0) 0 j11 rg_61_0_0_1 (by decide) (by decide); omega
  refine x_getR (np := 16) (x := 576) (f := 0) (q := 1) (by decide +kernel) (by decide) (by decide +kernel) q19 ?_
  refine x_nI (t := 6) (mj := 74) (n := 1) (rc := 8) (ml := 1) (nr := 0) (np := 19) (as := [x_r 1]) (rest := []) (lo1 := [x_r 1]) (by decide +kernel) (by decide) (by decide +kernel) (x_rb_of (by decide +kernel)) rfl rfl (x_wr (by decide) x_wn) x_wn (by decide) rfl ?_
  refine x_aload (np := 1) (x := 0) (by decide +kernel) rfl (x_nc_le (by decide)) ?_
  refine x_getC (np := 4) (x := 450) (f := 2) (q := (h10 1 2)) (by decide +kernel) (by decide) (by decide +kernel) rfl (fun l20 => ?_)
  refine x_aload (np := 5) (x := 0) (by decide +kernel) rfl (x_nc_le (by decide)) ?_
  have q21 : h10 1 1 = h1 1 1 := jK 0 f12 rg_1_1_0_1 (by omega) (by omega) (by decide)
  have q22 : h1 1 1 = h 1 1 := by rw [← e3]; exact x_up_k (by decide)
  have b23 := jB (e := 1) 0 hJ rg_1_1_0_1 (by omega) (by omega)
  refine x_getC (np := 8) (x := 449) (f := 1) (q := (h 1 1)) (by decide +kernel) (by decide) (by decide +kernel) (q21.trans q22) (fun l24 => ?_)
  refine x_icmp (k := 2) (tg := 15) (np := 11) (by decide +kernel) (by decide) l20 l24 (fun q25 => ?_) (fun q26 => ?_)
  · have q25 : (h10 1 2) < (h 1 1) := q25
    refine x_const (np := 16) (x := 9223372039002259456) (a := 2147483648) (by decide +kernel) (by decide) (by decide) ?_
    refine x_retI (np := 17) (x := 0) (by decide +kernel) (by decide) (Or.inr ⟨by decide +kernel, by omega, by omega⟩) ⟨_, rfl, (by decide), ?_⟩
    refine x_ifz (k := 0) (tg := 24) (np := 22) (by decide +kernel) (by decide) (by decide) (fun q27 => ?_) (fun q28 => ?_)
    · have q27 : 2147483648 = 2147483648 := q27
      refine x_const (np := 25) (x := 9223372039002259456) (a := 2147483648) (by decide +kernel) (by decide) (by decide) ?_
      refine x_istore (np := 26) (x := 2) (lo' := [x_r 61, x_r ra1, iv_c 2147483648]) (by decide +kernel) (by decide) (Nat.le_of_ble_eq_true rfl) rfl ?_
      have p1436 : ∀ (n : Nat) (v1431 : Nat) (h1433 : xh), 4294967296 - v1431 < n → (2147483648 ≤ v1431 ∧ v1431 ≤ 2147483662) → rv h1433 0 = h ra1 7 → rv h1433 1 = h ra1 8 → J h1433 → Fr 281474976710817 h10 h1433 → Tl tB tN (h ra1 7) (h (ra1 + 1) 2) (h (ra1 + 3) 2) (h (ra1 + 5) 2) (h (ra1 + 7) 2) (2147483662 - v1431) (rv h1433 2) (rv h1433 3) (rv h1433 4) (rv h1433 5) (h1433 1 2) → Ot ra1 h h1433 → X sc 92 (d + 9) (xI fun r h' => J h' ∧ Fr 281474976727201 h h' ∧ (2147483648 ≤ r ∧ r ≤ 2147483649) ∧ (h' ra1 7 = h ra1 7) ∧ (h' ra1 8 = h ra1 8) ∧ Tt tB tN (h ra1 7) (h (ra1 + 1) 2) (h (ra1 + 3) 2) (h (ra1 + 5) 2) (h (ra1 + 7) 2) (rs4 r (h' (ra1 + 1) 2) (h' (ra1 + 3) 2) (h' (ra1 + 5) 2) (h' (ra1 + 7) 2)) ∧ Ot ra1 h h') 0 0 26 [x_r 61, x_r ra1, iv_c v1431] [] h1433 := by
        intro n
        induction n with
        | zero => intro v1431 h1433 q1441; exact absurd q1441 (Nat.not_lt_zero _)
        | succ n i1442 =>
          intro v1431 h1433 q1441 b1432 b1437 b1438 j1435 f1434 m1439 m1440
          have f1443 := Fr.trans f17 f1434 (by decide)
          have b1444 := jB (e := 2) 0 j1435 rg_1_2_0_1 (by omega) (by omega)
          have q1445 : h1433 61 1 = h10 61 1 := f1434 61 1 (by decide +kernel)
          have q1446 : h10 61 1 = h1 61 1 := f12 61 1 (by decide +kernel)
          have q1447 : h1 61 1 = ra1 := by rw [← e3]; exact x_up_at
          have b1448 := jB (e := 7) 0 j1435 (rg_T0_7_0_1 ta1) (by omega) (by omega)
          have e1449 : rv h1433 0 = (h1433 ra1 7) := (congrArg (fun z => svq h1433 z 0) ((q1445.trans q1446).trans q1447)).trans rfl
          have q1450 : h1433 61 1 = h10 61 1 := f1434 61 1 (by decide +kernel)
          have q1451 : h10 61 1 = h1 61 1 := f12 61 1 (by decide +kernel)
          have q1452 : h1 61 1 = ra1 := by rw [← e3]; exact x_up_at
          have e1453 : rv h1433 1 = (h1433 ra1 8) := (congrArg (fun z => svq h1433 z 1) ((q1450.trans q1451).trans q1452)).trans rfl
          have q1454 : h1433 61 1 = h10 61 1 := f1434 61 1 (by decide +kernel)
          have q1455 : h10 61 1 = h1 61 1 := f12 61 1 (by decide +kernel)
          have q1456 : h1 61 1 = ra1 := by rw [← e3]; exact x_up_at
          have b1457 := jB (e := 2) 0 j1435 (rg_T1_2_0_1 ta1) (by omega) (by omega)
          have e1458 : rv h1433 2 = (h1433 (ra1 + 1) 2) := (congrArg (fun z => svq h1433 z 2) ((q1454.trans q1455).trans q1456)).trans rfl
          have q1459 : h1433 61 1 = h10 61 1 := f1434 61 1 (by decide +kernel)
          have q1460 : h10 61 1 = h1 61 1 := f12 61 1 (by decide +kernel)
          have q1461 : h1 61 1 = ra1 := by rw [← e3]; exact x_up_at
          have b1462 := jB (e := 2) 0 j1435 (rg_T3_2_0_1 ta1) (by omega) (by omega)
          have e1463 : rv h1433 3 = (h1433 (ra1 + 3) 2) := (congrArg (fun z => svq h1433 z 3) ((q1459.trans q1460).trans q1461)).trans rfl
          have q1464 : h1433 61 1 = h10 61 1 := f1434 61 1 (by decide +kernel)
          have q1465 : h10 61 1 = h1 61 1 := f12 61 1 (by decide +kernel)
          have q1466 : h1 61 1 = ra1 := by rw [← e3]; exact x_up_at
          have b1467 := jB (e := 2) 0 j1435 (rg_T5_2_0_1 ta1) (by omega) (by omega)
          have e1468 : rv h1433 4 = (h1433 (ra1 + 5) 2) := (congrArg (fun z => svq h1433 z 4) ((q1464.trans q1465).trans q1466)).trans rfl
          have q1469 : h1433 61 1 = h10 61 1 := f1434 61 1 (by decide +kernel)
          have q1470 : h10 61 1 = h1 61 1 := f12 61 1 (by decide +kernel)
          have q1471 : h1 61 1 = ra1 := by rw [← e3]; exact x_up_at
          have b1472 := jB (e := 2) 0 j1435 (rg_T7_2_0_1 ta1) (by omega) (by omega)
          have e1473 : rv h1433 5 = (h1433 (ra1 + 7) 2) := (congrArg (fun z => svq h1433 z 5) ((q1469.trans q1470).trans q1471)).trans rfl
          have b1474 := jB (e := 7) 0 hJ (rg_T0_7_0_1 ta1) (by omega) (by omega)
          refine x_iload (np := 27) (x := 2) (by decide +kernel) rfl (by omega) ?_
          refine x_const (np := 29) (x := 9223372099131801614) (a := 2147483662) (by decide +kernel) (by decide) (by decide) ?_
          refine x_icmp (k := 3) (tg := 73) (np := 32) (by decide +kernel) (by decide) (by omega) (by decide) (fun q1475 => ?_) (fun q1476 => ?_)
          · have q1475 : 2147483662 ≤ v1431 := q1475
            refine x_const (np := 74) (x := 9223372039002259456) (a := 2147483648) (by decide +kernel) (by decide) (by decide) ?_
            have b1477 := jB (e := 2) 0 hJ (rg_T1_2_0_1 ta1) (by omega) (by omega)
            have b1478 := jB (e := 2) 0 hJ (rg_T3_2_0_1 ta1) (by omega) (by omega)
            have b1479 := jB (e := 2) 0 hJ (rg_T5_2_0_1 ta1) (by omega) (by omega)
            have b1480 := jB (e := 2) 0 hJ (rg_T7_2_0_1 ta1) (by omega) (by omega)
            refine x_retI (np := 75) (x := 0) (by decide +kernel) (by decide) (Or.inr ⟨by decide +kernel, by omega, by omega⟩) ⟨_, rfl, (by decide), ?_⟩
            exact ⟨j1435, f1443, (by omega), (by omega), (by omega), (Tt.n0 (by omega) (Tl.full m1439 (by omega))), m1440⟩
          have q1476 : ¬ (2147483662 ≤ v1431) := q1476
          refine x_aload (np := 33) (x := 0) (by decide +kernel) rfl (x_nc_le (by decide)) ?_
          have m1485 := Tp.fr m9 f12 (by decide) (by decide)
          have m1484 := Tp.fr m1485 f1434 (by decide) (by decide)
          refine x_cI (t := 6) (mj := 93) (n := 1) (rc := 10) (ml := 1) (nr := 0) (np := 36) (as := [x_r 61]) (rest := []) (lo1 := [x_r 61]) (by decide +kernel) (by decide) (by decide +kernel) (x_rb_of (by decide +kernel)) rfl rfl (x_wr (by decide) x_wn) x_wn (by decide) rfl (c93_61 j1435  m1484) (fun v1481 h1486 l1482 q1483 => ?_)
          obtain ⟨j1487, f1488, b1489, c1490, c1491, c1492, c1493⟩ := q1483
          have f1494 := Fr.trans f1443 f1488 (by decide)
          have f1495 := Fr.trans f1434 f1488 (by decide)
          have q1496 : h1433 61 1 = h10 61 1 := f1434 61 1 (by decide +kernel)
          have q1497 : h10 61 1 = h1 61 1 := f12 61 1 (by decide +kernel)
          have q1498 : h1 61 1 = ra1 := by rw [← e3]; exact x_up_at
          have q1499 : h1486 61 1 = h1433 61 1 := f1488 61 1 (by decide +kernel)
          have q1500 : h1433 61 1 = h10 61 1 := f1434 61 1 (by decide +kernel)
          have q1501 : h10 61 1 = h1 61 1 := f12 61 1 (by decide +kernel)
          have q1502 : h1 61 1 = ra1 := by rw [← e3]; exact x_up_at
          have b1503 := jB (e := 7) 0 j1487 (rg_T0_7_0_1 ta1) (by omega) (by omega)
          have e1504 : rv h1486 0 = (h1486 ra1 7) := (congrArg (fun z => svq h1486 z 0) (((q1499.trans q1500).trans q1501).trans q1502)).trans rfl
          have q1505 : h1433 61 1 = h10 61 1 := f1434 61 1 (by decide +kernel)
          have q1506 : h10 61 1 = h1 61 1 := f12 61 1 (by decide +kernel)
          have q1507 : h1 61 1 = ra1 := by rw [← e3]; exact x_up_at
          have q1508 : h1486 61 1 = h1433 61 1 := f1488 61 1 (by decide +kernel)
          have q1509 : h1433 61 1 = h10 61 1 := f1434 61 1 (by decide +kernel)
          have q1510 : h10 61 1 = h1 61 1 := f12 61 1 (by decide +kernel)
          have q1511 : h1 61 1 = ra1 := by rw [← e3]; exact x_up_at
          have e1512 : rv h1486 1 = (h1486 ra1 8) := (congrArg (fun z => svq h1486 z 1) (((q1508.trans q1509).trans q1510).trans q1511)).trans rfl
          have q1513 : h1433 61 1 = h10 61 1 := f1434 61 1 (by decide +kernel)
          have q1514 : h10 61 1 = h1 61 1 := f12 61 1 (by decide +kernel)
          have q1515 : h1 61 1 = ra1 := by rw [← e3]; exact x_up_at
          refine x_ifz (k := 1) (tg := 41) (np := 39) (by decide +kernel) (by decide) l1482 (fun q1516 => ?_) (fun q1517 => ?_)
          · have q1516 : v1481 ≠ 2147483648 := q1516
            refine x_aload (np := 42) (x := 0) (by decide +kernel) rfl (x_nc_le (by decide)) ?_
            have q1518 : h1486 61 0 = 1 := by have z := jB (e := 0) 0 j1487 rg_61_0_0_1 (by decide) (by decide); omega
            refine x_getR (np := 45) (x := 576) (f := 0) (q := 1) (by decide +kernel) (by decide) (by decide +kernel) q1518 ?_
            refine x_nI (t := 6) (mj := 74) (n := 1) (rc := 8) (ml := 1) (nr := 0) (np := 48) (as := [x_r 1]) (rest := []) (lo1 := [x_r 1]) (by decide +kernel) (by decide) (by decide +kernel) (x_rb_of (by decide +kernel)) rfl rfl (x_wr (by decide) x_wn) x_wn (by decide) rfl ?_
            refine x_aload (np := 1) (x := 0) (by decide +kernel) rfl (x_nc_le (by decide)) ?_
            have b1519 := jB (e := 2) 0 j1487 rg_1_2_0_1 (by omega) (by omega)
            refine x_getC (np := 4) (x := 450) (f := 2) (q := (h1486 1 2)) (by decide +kernel) (by decide) (by decide +kernel) rfl (fun l1520 => ?_)
            refine x_aload (np := 5) (x := 0) (by decide +kernel) rfl (x_nc_le (by decide)) ?_
            have q1521 : h1486 1 1 = h1433 1 1 := jK 0 f1488 rg_1_1_0_1 (by omega) (by omega) (by decide)
            have q1522 : h1433 1 1 = h10 1 1 := jK 0 f1434 rg_1_1_0_1 (by omega) (by omega) (by decide)
            have q1523 : h10 1 1 = h1 1 1 := jK 0 f12 rg_1_1_0_1 (by omega) (by omega) (by decide)
            have q1524 : h1 1 1 = h 1 1 := by rw [← e3]; exact x_up_k (by decide)
            refine x_getC (np := 8) (x := 449) (f := 1) (q := (h 1 1)) (by decide +kernel) (by decide) (by decide +kernel) (((q1521.trans q1522).trans q1523).trans q1524) (fun l1525 => ?_)
            refine x_icmp (k := 2) (tg := 15) (np := 11) (by decide +kernel) (by decide) l1520 l24 (fun q1526 => ?_) (fun q1527 => ?_)
            · have q1526 : (h1486 1 2) < (h 1 1) := q1526
              refine x_const (np := 16) (x := 9223372039002259456) (a := 2147483648) (by decide +kernel) (by decide) (by decide) ?_
              refine x_retI (np := 17) (x := 0) (by decide +kernel) (by decide) (Or.inr ⟨by decide +kernel, by omega, by omega⟩) ⟨_, rfl, (by decide), ?_⟩
              refine x_ifz (k := 0) (tg := 53) (np := 51) (by decide +kernel) (by decide) (by decide) (fun q1528 => ?_) (fun q1529 => ?_)
              · have q1528 : 2147483648 = 2147483648 := q1528
                refine x_aload (np := 54) (x := 0) (by decide +kernel) rfl (x_nc_le (by decide)) ?_
                have q1530 : h1486 61 0 = 1 := by have z := jB (e := 0) 0 j1487 rg_61_0_0_1 (by decide) (by decide); omega
                refine x_getR (np := 57) (x := 576) (f := 0) (q := 1) (by decide +kernel) (by decide) (by decide +kernel) q1530 ?_
                refine x_const (np := 59) (x := 9223372292405329979) (a := 2147483707) (by decide +kernel) (by decide) (by decide) ?_
                have m1534 := Tp.fr m1484 f1488 (by decide) (by decide)
                refine x_cI (t := 6) (mj := 76) (n := 2) (rc := 8) (ml := 2) (nr := 0) (np := 62) (as := [x_r 1, iv_c 2147483707]) (rest := []) (lo1 := [x_r 1, iv_c 2147483707]) (by decide +kernel) (by decide) (by decide +kernel) (x_rb_of (by decide +kernel)) rfl rfl (x_wr (by decide) (x_wi (by decide) x_wn)) x_wn (by decide) rfl (c76_1 j1487  (by omega) m1534) (fun v1531 h1535 l1532 q1533 => ?_)
                obtain ⟨j1536, f1537, b1538, c1539, c1540, c1541⟩ := q1533
                have f1542 := Fr.trans f1494 f1537 (by decide)
                have f1543 := Fr.trans f1495 f1537 (by decide)
                have b1544 := jB (e := 2) 0 j1536 rg_1_2_0_1 (by omega) (by omega)
                refine x_ifz (k := 1) (tg := 67) (np := 65) (by decide +kernel) (by decide) l1532 (fun q1545 => ?_) (fun q1546 => ?_)
                · have q1545 : v1531 ≠ 2147483648 := q1545
                  have b1547 := c1539 (by omega)
                  refine x_iinc (np := 70) (i := 2) (j := 2147483649) (v := (1 + v1431)) (lo' := [x_r 61, x_r ra1, iv_c (1 + v1431)]) (by decide +kernel) (by decide) (by decide) rfl (by omega) (by omega) (by omega) rfl ?_
                  refine x_goto (np := 73) (x := 26) (by decide +kernel) ?_
                  have q1548 : h1535 61 1 = h1486 61 1 := f1537 61 1 (by decide +kernel)
                  have q1549 : h1486 61 1 = h1433 61 1 := f1488 61 1 (by decide +kernel)
                  have q1550 : h1433 61 1 = h10 61 1 := f1434 61 1 (by decide +kernel)
                  have q1551 : h10 61 1 = h1 61 1 := f12 61 1 (by decide +kernel)
                  have q1552 : h1 61 1 = ra1 := by rw [← e3]; exact x_up_at
                  have q1553 : h1535 ra1 7 = h1486 ra1 7 := jK 0 f1537 (rg_T0_7_0_1 ta1) (by omega) (by omega) (by decide)
                  have e1554 : rv h1535 0 = (h1486 ra1 7) := (congrArg (fun z => svq h1535 z 0) ((((q1548.trans q1549).trans q1550).trans q1551).trans q1552)).trans q1553
                  have q1555 : h1535 61 1 = h1486 61 1 := f1537 61 1 (by decide +kernel)
                  have q1556 : h1486 61 1 = h1433 61 1 := f1488 61 1 (by decide +kernel)
                  have q1557 : h1433 61 1 = h10 61 1 := f1434 61 1 (by decide +kernel)
                  have q1558 : h10 61 1 = h1 61 1 := f12 61 1 (by decide +kernel)
                  have q1559 : h1 61 1 = ra1 := by rw [← e3]; exact x_up_at
                  have q1560 : h1535 ra1 8 = h1486 ra1 8 := jK 0 f1537 (rg_T0_8_0_1 ta1) (by omega) (by omega) (by decide)
                  have e1561 : rv h1535 1 = (h1486 ra1 8) := (congrArg (fun z => svq h1535 z 1) ((((q1555.trans q1556).trans q1557).trans q1558).trans q1559)).trans q1560
                  obtain ⟨w1562, e1563⟩ := Tk.yes c1541 (by omega)
                  have q1565 : h1433 61 1 = h10 61 1 := f1434 61 1 (by decide +kernel)
                  have q1566 : h10 61 1 = h1 61 1 := f12 61 1 (by decide +kernel)
                  have q1567 : h1 61 1 = ra1 := by rw [← e3]; exact x_up_at
                  have q1568 : h1433 61 1 = h10 61 1 := f1434 61 1 (by decide +kernel)
                  have q1569 : h10 61 1 = h1 61 1 := f12 61 1 (by decide +kernel)
                  have q1570 : h1 61 1 = ra1 := by rw [← e3]; exact x_up_at
                  have q1571 : h1433 61 1 = h10 61 1 := f1434 61 1 (by decide +kernel)
                  have q1572 : h10 61 1 = h1 61 1 := f12 61 1 (by decide +kernel)
                  have q1573 : h1 61 1 = ra1 := by rw [← e3]; exact x_up_at
                  have q1574 : h1433 61 1 = h10 61 1 := f1434 61 1 (by decide +kernel)
                  have q1575 : h10 61 1 = h1 61 1 := f12 61 1 (by decide +kernel)
                  have q1576 : h1 61 1 = ra1 := by rw [← e3]; exact x_up_at
                  have q1577 : h1433 61 1 = h10 61 1 := f1434 61 1 (by decide +kernel)
                  have q1578 : h10 61 1 = h1 61 1 := f12 61 1 (by decide +kernel)
                  have q1579 : h1 61 1 = ra1 := by rw [← e3]; exact x_up_at
                  have q1580 : h1433 61 1 = h10 61 1 := f1434 61 1 (by decide +kernel)
                  have q1581 : h10 61 1 = h1 61 1 := f12 61 1 (by decide +kernel)
                  have q1582 : h1 61 1 = ra1 := by rw [← e3]; exact x_up_at
                  have q1583 : h1433 61 1 = h10 61 1 := f1434 61 1 (by decide +kernel)
                  have q1584 : h10 61 1 = h1 61 1 := f12 61 1 (by decide +kernel)
                  have q1585 : h1 61 1 = ra1 := by rw [← e3]; exact x_up_at
                  have q1586 : h1433 61 1 = h10 61 1 := f1434 61 1 (by decide +kernel)
                  have q1587 : h10 61 1 = h1 61 1 := f12 61 1 (by decide +kernel)
                  have q1588 : h1 61 1 = ra1 := by rw [← e3]; exact x_up_at
                  have q1589 : h1433 61 1 = h10 61 1 := f1434 61 1 (by decide +kernel)
                  have q1590 : h10 61 1 = h1 61 1 := f12 61 1 (by decide +kernel)
                  have q1591 : h1 61 1 = ra1 := by rw [← e3]; exact x_up_at
                  have k1564 := l9_pe (pe' := h ra1 7) (l1 := rv h1433 2) (t1 := rv h1433 3) (d1 := rv h1433 4) (s1 := rv h1433 5) c1492 (by omega) (by omega) (by omega) (by omega) (by omega)
                  have q1593 : h1535 61 1 = h1486 61 1 := f1537 61 1 (by decide +kernel)
                  have q1594 : h1486 61 1 = h1433 61 1 := f1488 61 1 (by decide +kernel)
                  have q1595 : h1433 61 1 = h10 61 1 := f1434 61 1 (by decide +kernel)
                  have q1596 : h10 61 1 = h1 61 1 := f12 61 1 (by decide +kernel)
                  have q1597 : h1 61 1 = ra1 := by rw [← e3]; exact x_up_at
                  have q1598 : h1535 (ra1 + 1) 2 = h1486 (ra1 + 1) 2 := jK 0 f1537 (rg_T1_2_0_1 ta1) (by omega) (by omega) (by decide)
                  have b1599 := jB (e := 2) 0 j1487 (rg_T1_2_0_1 ta1) (by omega) (by omega)
                  have e1600 : rv h1535 2 = (h1486 (ra1 + 1) 2) := (congrArg (fun z => svq h1535 z 2) ((((q1593.trans q1594).trans q1595).trans q1596).trans q1597)).trans q1598
                  have q1601 : h1486 61 1 = h1433 61 1 := f1488 61 1 (by decide +kernel)
                  have q1602 : h1433 61 1 = h10 61 1 := f1434 61 1 (by decide +kernel)
                  have q1603 : h10 61 1 = h1 61 1 := f12 61 1 (by decide +kernel)
                  have q1604 : h1 61 1 = ra1 := by rw [← e3]; exact x_up_at
                  have e1605 : rv h1486 2 = (h1486 (ra1 + 1) 2) := (congrArg (fun z => svq h1486 z 2) (((q1601.trans q1602).trans q1603).trans q1604)).trans rfl
                  have q1606 : h1535 61 1 = h1486 61 1 := f1537 61 1 (by decide +kernel)
                  have q1607 : h1486 61 1 = h1433 61 1 := f1488 61 1 (by decide +kernel)
                  have q1608 : h1433 61 1 = h10 61 1 := f1434 61 1 (by decide +kernel)
                  have q1609 : h10 61 1 = h1 61 1 := f12 61 1 (by decide +kernel)
                  have q1610 : h1 61 1 = ra1 := by rw [← e3]; exact x_up_at
                  have q1611 : h1535 (ra1 + 3) 2 = h1486 (ra1 + 3) 2 := jK 0 f1537 (rg_T3_2_0_1 ta1) (by omega) (by omega) (by decide)
                  have b1612 := jB (e := 2) 0 j1487 (rg_T3_2_0_1 ta1) (by omega) (by omega)
                  have e1613 : rv h1535 3 = (h1486 (ra1 + 3) 2) := (congrArg (fun z => svq h1535 z 3) ((((q1606.trans q1607).trans q1608).trans q1609).trans q1610)).trans q1611
                  have q1614 : h1486 61 1 = h1433 61 1 := f1488 61 1 (by decide +kernel)
                  have q1615 : h1433 61 1 = h10 61 1 := f1434 61 1 (by decide +kernel)
                  have q1616 : h10 61 1 = h1 61 1 := f12 61 1 (by decide +kernel)
                  have q1617 : h1 61 1 = ra1 := by rw [← e3]; exact x_up_at
                  have e1618 : rv h1486 3 = (h1486 (ra1 + 3) 2) := (congrArg (fun z => svq h1486 z 3) (((q1614.trans q1615).trans q1616).trans q1617)).trans rfl
                  have q1619 : h1535 61 1 = h1486 61 1 := f1537 61 1 (by decide +kernel)
                  have q1620 : h1486 61 1 = h1433 61 1 := f1488 61 1 (by decide +kernel)
                  have q1621 : h1433 61 1 = h10 61 1 := f1434 61 1 (by decide +kernel)
                  have q1622 : h10 61 1 = h1 61 1 := f12 61 1 (by decide +kernel)
                  have q1623 : h1 61 1 = ra1 := by rw [← e3]; exact x_up_at
                  have q1624 : h1535 (ra1 + 5) 2 = h1486 (ra1 + 5) 2 := jK 0 f1537 (rg_T5_2_0_1 ta1) (by omega) (by omega) (by decide)
                  have b1625 := jB (e := 2) 0 j1487 (rg_T5_2_0_1 ta1) (by omega) (by omega)
                  have e1626 : rv h1535 4 = (h1486 (ra1 + 5) 2) := (congrArg (fun z => svq h1535 z 4) ((((q1619.trans q1620).trans q1621).trans q1622).trans q1623)).trans q1624
                  have q1627 : h1486 61 1 = h1433 61 1 := f1488 61 1 (by decide +kernel)
                  have q1628 : h1433 61 1 = h10 61 1 := f1434 61 1 (by decide +kernel)
                  have q1629 : h10 61 1 = h1 61 1 := f12 61 1 (by decide +kernel)
                  have q1630 : h1 61 1 = ra1 := by rw [← e3]; exact x_up_at
                  have e1631 : rv h1486 4 = (h1486 (ra1 + 5) 2) := (congrArg (fun z => svq h1486 z 4) (((q1627.trans q1628).trans q1629).trans q1630)).trans rfl
                  have q1632 : h1535 61 1 = h1486 61 1 := f1537 61 1 (by decide +kernel)
                  have q1633 : h1486 61 1 = h1433 61 1 := f1488 61 1 (by decide +kernel)
                  have q1634 : h1433 61 1 = h10 61 1 := f1434 61 1 (by decide +kernel)
                  have q1635 : h10 61 1 = h1 61 1 := f12 61 1 (by decide +kernel)
                  have q1636 : h1 61 1 = ra1 := by rw [← e3]; exact x_up_at
                  have q1637 : h1535 (ra1 + 7) 2 = h1486 (ra1 + 7) 2 := jK 0 f1537 (rg_T7_2_0_1 ta1) (by omega) (by omega) (by decide)
                  have b1638 := jB (e := 2) 0 j1487 (rg_T7_2_0_1 ta1) (by omega) (by omega)
                  have e1639 : rv h1535 5 = (h1486 (ra1 + 7) 2) := (congrArg (fun z => svq h1535 z 5) ((((q1632.trans q1633).trans q1634).trans q1635).trans q1636)).trans q1637
                  have q1640 : h1486 61 1 = h1433 61 1 := f1488 61 1 (by decide +kernel)
                  have q1641 : h1433 61 1 = h10 61 1 := f1434 61 1 (by decide +kernel)
                  have q1642 : h10 61 1 = h1 61 1 := f12 61 1 (by decide +kernel)
                  have q1643 : h1 61 1 = ra1 := by rw [← e3]; exact x_up_at
                  have e1644 : rv h1486 5 = (h1486 (ra1 + 7) 2) := (congrArg (fun z => svq h1486 z 5) (((q1640.trans q1641).trans q1642).trans q1643)).trans rfl
                  have m1592 : Tl tB tN (h ra1 7) (h (ra1 + 1) 2) (h (ra1 + 3) 2) (h (ra1 + 5) 2) (h (ra1 + 7) 2) (2147483662 - (1 + v1431)) (rv h1535 2) (rv h1535 3) (rv h1535 4) (rv h1535 5) (h1535 1 2) := by
                    rw [show rv h1535 2 = rv h1486 2 by omega, show rv h1535 3 = rv h1486 3 by omega, show rv h1535 4 = rv h1486 4 by omega, show rv h1535 5 = rv h1486 5 by omega]
                    exact Tl.go (m' := 2147483662 - (1 + v1431)) m1439 (by omega) k1564 rfl (by omega) w1562 rfl e1563 rfl
                  have m1645 : Ot ra1 h h1486 := Ot.trans m1440 (Ot.cast c1493 ((q1513.trans q1514).trans q1515))
                  have m1646 : Ot ra1 h h1535 := Ot.fr m1645 f1537 (by decide)
                  exact i1442 (1 + v1431) h1535 (by omega) (by omega) (by omega) (by omega) j1536 f1543 m1592 m1646
                have q1546 : ¬ (v1531 ≠ 2147483648) := q1546
                have b1647 := c1540 (by omega)
                refine x_const (np := 66) (x := 9223372039002259456) (a := 2147483648) (by decide +kernel) (by decide) (by decide) ?_
                have q1648 : h1535 ra1 7 = h1486 ra1 7 := jK 0 f1537 (rg_T0_7_0_1 ta1) (by omega) (by omega) (by decide)
                have q1649 : h1535 ra1 8 = h1486 ra1 8 := jK 0 f1537 (rg_T0_8_0_1 ta1) (by omega) (by omega) (by decide)
                have m1650 : Ot ra1 h h1486 := Ot.trans m1440 (Ot.cast c1493 ((q1513.trans q1514).trans q1515))
                have m1651 : Ot ra1 h h1535 := Ot.fr m1650 f1537 (by decide)
                have q1652 : h1535 (ra1 + 1) 2 = h1486 (ra1 + 1) 2 := jK 0 f1537 (rg_T1_2_0_1 ta1) (by omega) (by omega) (by decide)
                have b1653 := jB (e := 2) 0 j1487 (rg_T1_2_0_1 ta1) (by omega) (by omega)
                have b1654 := jB (e := 2) 0 hJ (rg_T1_2_0_1 ta1) (by omega) (by omega)
                have q1655 : h1535 (ra1 + 3) 2 = h1486 (ra1 + 3) 2 := jK 0 f1537 (rg_T3_2_0_1 ta1) (by omega) (by omega) (by decide)
                have b1656 := jB (e := 2) 0 j1487 (rg_T3_2_0_1 ta1) (by omega) (by omega)
                have b1657 := jB (e := 2) 0 hJ (rg_T3_2_0_1 ta1) (by omega) (by omega)
                have q1658 : h1535 (ra1 + 5) 2 = h1486 (ra1 + 5) 2 := jK 0 f1537 (rg_T5_2_0_1 ta1) (by omega) (by omega) (by decide)
                have b1659 := jB (e := 2) 0 j1487 (rg_T5_2_0_1 ta1) (by omega) (by omega)
                have b1660 := jB (e := 2) 0 hJ (rg_T5_2_0_1 ta1) (by omega) (by omega)
                have q1661 : h1535 (ra1 + 7) 2 = h1486 (ra1 + 7) 2 := jK 0 f1537 (rg_T7_2_0_1 ta1) (by omega) (by omega) (by decide)
                have b1662 := jB (e := 2) 0 j1487 (rg_T7_2_0_1 ta1) (by omega) (by omega)
                have b1663 := jB (e := 2) 0 hJ (rg_T7_2_0_1 ta1) (by omega) (by omega)
                have q1665 : h1433 61 1 = h10 61 1 := f1434 61 1 (by decide +kernel)
                have q1666 : h10 61 1 = h1 61 1 := f12 61 1 (by decide +kernel)
                have q1667 : h1 61 1 = ra1 := by rw [← e3]; exact x_up_at
                have q1668 : h1433 61 1 = h10 61 1 := f1434 61 1 (by decide +kernel)
                have q1669 : h10 61 1 = h1 61 1 := f12 61 1 (by decide +kernel)
                have q1670 : h1 61 1 = ra1 := by rw [← e3]; exact x_up_at
                have q1671 : h1433 61 1 = h10 61 1 := f1434 61 1 (by decide +kernel)
                have q1672 : h10 61 1 = h1 61 1 := f12 61 1 (by decide +kernel)
                have q1673 : h1 61 1 = ra1 := by rw [← e3]; exact x_up_at
                have q1674 : h1433 61 1 = h10 61 1 := f1434 61 1 (by decide +kernel)
                have q1675 : h10 61 1 = h1 61 1 := f12 61 1 (by decide +kernel)
                have q1676 : h1 61 1 = ra1 := by rw [← e3]; exact x_up_at
                have q1677 : h1433 61 1 = h10 61 1 := f1434 61 1 (by decide +kernel)
                have q1678 : h10 61 1 = h1 61 1 := f12 61 1 (by decide +kernel)
                have q1679 : h1 61 1 = ra1 := by rw [← e3]; exact x_up_at
                have q1680 : h1433 61 1 = h10 61 1 := f1434 61 1 (by decide +kernel)
                have q1681 : h10 61 1 = h1 61 1 := f12 61 1 (by decide +kernel)
                have q1682 : h1 61 1 = ra1 := by rw [← e3]; exact x_up_at
                have q1683 : h1433 61 1 = h10 61 1 := f1434 61 1 (by decide +kernel)
                have q1684 : h10 61 1 = h1 61 1 := f12 61 1 (by decide +kernel)
                have q1685 : h1 61 1 = ra1 := by rw [← e3]; exact x_up_at
                have q1686 : h1433 61 1 = h10 61 1 := f1434 61 1 (by decide +kernel)
                have q1687 : h10 61 1 = h1 61 1 := f12 61 1 (by decide +kernel)
                have q1688 : h1 61 1 = ra1 := by rw [← e3]; exact x_up_at
                have q1689 : h1433 61 1 = h10 61 1 := f1434 61 1 (by decide +kernel)
                have q1690 : h10 61 1 = h1 61 1 := f12 61 1 (by decide +kernel)
                have q1691 : h1 61 1 = ra1 := by rw [← e3]; exact x_up_at
                have k1664 := l9_pe (pe' := h ra1 7) (l1 := rv h1433 2) (t1 := rv h1433 3) (d1 := rv h1433 4) (s1 := rv h1433 5) c1492 (by omega) (by omega) (by omega) (by omega) (by omega)
                have q1692 : h1486 1 1 = h1433 1 1 := jK 0 f1488 rg_1_1_0_1 (by omega) (by omega) (by decide)
                have q1693 : h1433 1 1 = h10 1 1 := jK 0 f1434 rg_1_1_0_1 (by omega) (by omega) (by decide)
                have q1694 : h10 1 1 = h1 1 1 := jK 0 f12 rg_1_1_0_1 (by omega) (by omega) (by decide)
                have q1695 : h1 1 1 = h 1 1 := by rw [← e3]; exact x_up_k (by decide)
                have z1696 := m1534.1
                have q1697 : h1486 61 1 = h1433 61 1 := f1488 61 1 (by decide +kernel)
                have q1698 : h1433 61 1 = h10 61 1 := f1434 61 1 (by decide +kernel)
                have q1699 : h10 61 1 = h1 61 1 := f12 61 1 (by decide +kernel)
                have q1700 : h1 61 1 = ra1 := by rw [← e3]; exact x_up_at
                have e1701 : rv h1486 2 = (h1486 (ra1 + 1) 2) := (congrArg (fun z => svq h1486 z 2) (((q1697.trans q1698).trans q1699).trans q1700)).trans rfl
                have q1702 : h1486 61 1 = h1433 61 1 := f1488 61 1 (by decide +kernel)
                have q1703 : h1433 61 1 = h10 61 1 := f1434 61 1 (by decide +kernel)
                have q1704 : h10 61 1 = h1 61 1 := f12 61 1 (by decide +kernel)
                have q1705 : h1 61 1 = ra1 := by rw [← e3]; exact x_up_at
                have e1706 : rv h1486 3 = (h1486 (ra1 + 3) 2) := (congrArg (fun z => svq h1486 z 3) (((q1702.trans q1703).trans q1704).trans q1705)).trans rfl
                have q1707 : h1486 61 1 = h1433 61 1 := f1488 61 1 (by decide +kernel)
                have q1708 : h1433 61 1 = h10 61 1 := f1434 61 1 (by decide +kernel)
                have q1709 : h10 61 1 = h1 61 1 := f12 61 1 (by decide +kernel)
                have q1710 : h1 61 1 = ra1 := by rw [← e3]; exact x_up_at
                have e1711 : rv h1486 4 = (h1486 (ra1 + 5) 2) := (congrArg (fun z => svq h1486 z 4) (((q1707.trans q1708).trans q1709).trans q1710)).trans rfl
                have q1712 : h1486 61 1 = h1433 61 1 := f1488 61 1 (by decide +kernel)
                have q1713 : h1433 61 1 = h10 61 1 := f1434 61 1 (by decide +kernel)
                have q1714 : h10 61 1 = h1 61 1 := f12 61 1 (by decide +kernel)
                have q1715 : h1 61 1 = ra1 := by rw [← e3]; exact x_up_at
                have e1716 : rv h1486 5 = (h1486 (ra1 + 7) 2) := (congrArg (fun z => svq h1486 z 5) (((q1712.trans q1713).trans q1714).trans q1715)).trans rfl
                obtain ⟨w1717, e1718⟩ := Tk.no c1541 (by omega)
                refine x_retI (np := 67) (x := 0) (by decide +kernel) (by decide) (Or.inr ⟨by decide +kernel, by omega, by omega⟩) ⟨_, rfl, (by decide), ?_⟩
                exact ⟨j1536, f1542, (by omega), (by omega), (by omega), (Tt.n0 (by omega) (Tl.bad m1439 (by omega) k1664 rfl (by omega) (by omega) w1717 rfl)), m1651⟩
              have q1529 : ¬ (2147483648 = 2147483648) := q1529
              exfalso; omega
            have q1527 : ¬ ((h1486 1 2) < (h 1 1)) := q1527
            refine x_const (np := 12) (x := 9223372043297226753) (a := 2147483649) (by decide +kernel) (by decide) (by decide) ?_
            refine x_goto (np := 15) (x := 16) (by decide +kernel) ?_
            refine x_retI (np := 17) (x := 0) (by decide +kernel) (by decide) (Or.inr ⟨by decide +kernel, by omega, by omega⟩) ⟨_, rfl, (by decide), ?_⟩
            refine x_ifz (k := 0) (tg := 53) (np := 51) (by decide +kernel) (by decide) (by decide) (fun q1719 => ?_) (fun q1720 => ?_)
            · have q1719 : 2147483649 = 2147483648 := q1719
              exfalso; omega
            have q1720 : ¬ (2147483649 = 2147483648) := q1720
            refine x_const (np := 52) (x := 9223372043297226753) (a := 2147483649) (by decide +kernel) (by decide) (by decide) ?_
            have m1721 : Ot ra1 h h1486 := Ot.trans m1440 (Ot.cast c1493 ((q1513.trans q1514).trans q1515))
            have b1722 := jB (e := 2) 0 j1487 (rg_T1_2_0_1 ta1) (by omega) (by omega)
            have b1723 := jB (e := 2) 0 hJ (rg_T1_2_0_1 ta1) (by omega) (by omega)
            have b1724 := jB (e := 2) 0 j1487 (rg_T3_2_0_1 ta1) (by omega) (by omega)
            have b1725 := jB (e := 2) 0 hJ (rg_T3_2_0_1 ta1) (by omega) (by omega)
            have b1726 := jB (e := 2) 0 j1487 (rg_T5_2_0_1 ta1) (by omega) (by omega)
            have b1727 := jB (e := 2) 0 hJ (rg_T5_2_0_1 ta1) (by omega) (by omega)
            have b1728 := jB (e := 2) 0 j1487 (rg_T7_2_0_1 ta1) (by omega) (by omega)
            have b1729 := jB (e := 2) 0 hJ (rg_T7_2_0_1 ta1) (by omega) (by omega)
            have q1731 : h1433 61 1 = h10 61 1 := f1434 61 1 (by decide +kernel)
            have q1732 : h10 61 1 = h1 61 1 := f12 61 1 (by decide +kernel)
            have q1733 : h1 61 1 = ra1 := by rw [← e3]; exact x_up_at
            have q1734 : h1433 61 1 = h10 61 1 := f1434 61 1 (by decide +kernel)
            have q1735 : h10 61 1 = h1 61 1 := f12 61 1 (by decide +kernel)
            have q1736 : h1 61 1 = ra1 := by rw [← e3]; exact x_up_at
            have q1737 : h1433 61 1 = h10 61 1 := f1434 61 1 (by decide +kernel)
            have q1738 : h10 61 1 = h1 61 1 := f12 61 1 (by decide +kernel)
            have q1739 : h1 61 1 = ra1 := by rw [← e3]; exact x_up_at
            have q1740 : h1433 61 1 = h10 61 1 := f1434 61 1 (by decide +kernel)
            have q1741 : h10 61 1 = h1 61 1 := f12 61 1 (by decide +kernel)
            have q1742 : h1 61 1 = ra1 := by rw [← e3]; exact x_up_at
            have q1743 : h1433 61 1 = h10 61 1 := f1434 61 1 (by decide +kernel)
            have q1744 : h10 61 1 = h1 61 1 := f12 61 1 (by decide +kernel)
            have q1745 : h1 61 1 = ra1 := by rw [← e3]; exact x_up_at
            have q1746 : h1433 61 1 = h10 61 1 := f1434 61 1 (by decide +kernel)
            have q1747 : h10 61 1 = h1 61 1 := f12 61 1 (by decide +kernel)
            have q1748 : h1 61 1 = ra1 := by rw [← e3]; exact x_up_at
            have q1749 : h1433 61 1 = h10 61 1 := f1434 61 1 (by decide +kernel)
            have q1750 : h10 61 1 = h1 61 1 := f12 61 1 (by decide +kernel)
            have q1751 : h1 61 1 = ra1 := by rw [← e3]; exact x_up_at
            have q1752 : h1433 61 1 = h10 61 1 := f1434 61 1 (by decide +kernel)
            have q1753 : h10 61 1 = h1 61 1 := f12 61 1 (by decide +kernel)
            have q1754 : h1 61 1 = ra1 := by rw [← e3]; exact x_up_at
            have q1755 : h1433 61 1 = h10 61 1 := f1434 61 1 (by decide +kernel)
            have q1756 : h10 61 1 = h1 61 1 := f12 61 1 (by decide +kernel)
            have q1757 : h1 61 1 = ra1 := by rw [← e3]; exact x_up_at
            have k1730 := l9_pe (pe' := h ra1 7) (l1 := rv h1433 2) (t1 := rv h1433 3) (d1 := rv h1433 4) (s1 := rv h1433 5) c1492 (by omega) (by omega) (by omega) (by omega) (by omega)
            have q1758 : h1486 1 1 = h1433 1 1 := jK 0 f1488 rg_1_1_0_1 (by omega) (by omega) (by decide)
            have q1759 : h1433 1 1 = h10 1 1 := jK 0 f1434 rg_1_1_0_1 (by omega) (by omega) (by decide)
            have q1760 : h10 1 1 = h1 1 1 := jK 0 f12 rg_1_1_0_1 (by omega) (by omega) (by decide)
            have q1761 : h1 1 1 = h 1 1 := by rw [← e3]; exact x_up_k (by decide)
            have m1763 := Tp.fr m1484 f1488 (by decide) (by decide)
            have z1762 := m1763.1
            have q1764 : h1486 61 1 = h1433 61 1 := f1488 61 1 (by decide +kernel)
            have q1765 : h1433 61 1 = h10 61 1 := f1434 61 1 (by decide +kernel)
            have q1766 : h10 61 1 = h1 61 1 := f12 61 1 (by decide +kernel)
            have q1767 : h1 61 1 = ra1 := by rw [← e3]; exact x_up_at
            have e1768 : rv h1486 2 = (h1486 (ra1 + 1) 2) := (congrArg (fun z => svq h1486 z 2) (((q1764.trans q1765).trans q1766).trans q1767)).trans rfl
            have q1769 : h1486 61 1 = h1433 61 1 := f1488 61 1 (by decide +kernel)
            have q1770 : h1433 61 1 = h10 61 1 := f1434 61 1 (by decide +kernel)
            have q1771 : h10 61 1 = h1 61 1 := f12 61 1 (by decide +kernel)
            have q1772 : h1 61 1 = ra1 := by rw [← e3]; exact x_up_at
            have e1773 : rv h1486 3 = (h1486 (ra1 + 3) 2) := (congrArg (fun z => svq h1486 z 3) (((q1769.trans q1770).trans q1771).trans q1772)).trans rfl
            have q1774 : h1486 61 1 = h1433 61 1 := f1488 61 1 (by decide +kernel)
            have q1775 : h1433 61 1 = h10 61 1 := f1434 61 1 (by decide +kernel)
            have q1776 : h10 61 1 = h1 61 1 := f12 61 1 (by decide +kernel)
            have q1777 : h1 61 1 = ra1 := by rw [← e3]; exact x_up_at
            have e1778 : rv h1486 4 = (h1486 (ra1 + 5) 2) := (congrArg (fun z => svq h1486 z 4) (((q1774.trans q1775).trans q1776).trans q1777)).trans rfl
            have q1779 : h1486 61 1 = h1433 61 1 := f1488 61 1 (by decide +kernel)
            have q1780 : h1433 61 1 = h10 61 1 := f1434 61 1 (by decide +kernel)
            have q1781 : h10 61 1 = h1 61 1 := f12 61 1 (by decide +kernel)
            have q1782 : h1 61 1 = ra1 := by rw [← e3]; exact x_up_at
            have e1783 : rv h1486 5 = (h1486 (ra1 + 7) 2) := (congrArg (fun z => svq h1486 z 5) (((q1779.trans q1780).trans q1781).trans q1782)).trans rfl
            refine x_retI (np := 53) (x := 0) (by decide +kernel) (by decide) (Or.inr ⟨by decide +kernel, by omega, by omega⟩) ⟨_, rfl, (by decide), ?_⟩
            exact ⟨j1487, f1494, (by omega), (by omega), (by omega), (Tt.s1 (by omega) (Tl.fin m1439 (by omega) k1730 rfl (by omega) (by omega)) (by omega) (by omega) (by omega) (by omega)), m1721⟩
          have q1517 : ¬ (v1481 ≠ 2147483648) := q1517
          refine x_const (np := 40) (x := 9223372039002259456) (a := 2147483648) (by decide +kernel) (by decide) (by decide) ?_
          have m1784 : Ot ra1 h h1486 := Ot.trans m1440 (Ot.cast c1493 ((q1513.trans q1514).trans q1515))
          have b1785 := jB (e := 2) 0 j1487 (rg_T1_2_0_1 ta1) (by omega) (by omega)
          have b1786 := jB (e := 2) 0 hJ (rg_T1_2_0_1 ta1) (by omega) (by omega)
          have b1787 := jB (e := 2) 0 j1487 (rg_T3_2_0_1 ta1) (by omega) (by omega)
          have b1788 := jB (e := 2) 0 hJ (rg_T3_2_0_1 ta1) (by omega) (by omega)
          have b1789 := jB (e := 2) 0 j1487 (rg_T5_2_0_1 ta1) (by omega) (by omega)
          have b1790 := jB (e := 2) 0 hJ (rg_T5_2_0_1 ta1) (by omega) (by omega)
          have b1791 := jB (e := 2) 0 j1487 (rg_T7_2_0_1 ta1) (by omega) (by omega)
          have b1792 := jB (e := 2) 0 hJ (rg_T7_2_0_1 ta1) (by omega) (by omega)
          have q1794 : h1433 61 1 = h10 61 1 := f1434 61 1 (by decide +kernel)
          have q1795 : h10 61 1 = h1 61 1 := f12 61 1 (by decide +kernel)
          have q1796 : h1 61 1 = ra1 := by rw [← e3]; exact x_up_at
          have q1797 : h1433 61 1 = h10 61 1 := f1434 61 1 (by decide +kernel)
          have q1798 : h10 61 1 = h1 61 1 := f12 61 1 (by decide +kernel)
          have q1799 : h1 61 1 = ra1 := by rw [← e3]; exact x_up_at
          have q1800 : h1433 61 1 = h10 61 1 := f1434 61 1 (by decide +kernel)
          have q1801 : h10 61 1 = h1 61 1 := f12 61 1 (by decide +kernel)
          have q1802 : h1 61 1 = ra1 := by rw [← e3]; exact x_up_at
          have q1803 : h1433 61 1 = h10 61 1 := f1434 61 1 (by decide +kernel)
          have q1804 : h10 61 1 = h1 61 1 := f12 61 1 (by decide +kernel)
          have q1805 : h1 61 1 = ra1 := by rw [← e3]; exact x_up_at
          have q1806 : h1433 61 1 = h10 61 1 := f1434 61 1 (by decide +kernel)
          have q1807 : h10 61 1 = h1 61 1 := f12 61 1 (by decide +kernel)
          have q1808 : h1 61 1 = ra1 := by rw [← e3]; exact x_up_at
          have q1809 : h1433 61 1 = h10 61 1 := f1434 61 1 (by decide +kernel)
          have q1810 : h10 61 1 = h1 61 1 := f12 61 1 (by decide +kernel)
          have q1811 : h1 61 1 = ra1 := by rw [← e3]; exact x_up_at
          have q1812 : h1433 61 1 = h10 61 1 := f1434 61 1 (by decide +kernel)
          have q1813 : h10 61 1 = h1 61 1 := f12 61 1 (by decide +kernel)
          have q1814 : h1 61 1 = ra1 := by rw [← e3]; exact x_up_at
          have q1815 : h1433 61 1 = h10 61 1 := f1434 61 1 (by decide +kernel)
          have q1816 : h10 61 1 = h1 61 1 := f12 61 1 (by decide +kernel)
          have q1817 : h1 61 1 = ra1 := by rw [← e3]; exact x_up_at
          have q1818 : h1433 61 1 = h10 61 1 := f1434 61 1 (by decide +kernel)
          have q1819 : h10 61 1 = h1 61 1 := f12 61 1 (by decide +kernel)
          have q1820 : h1 61 1 = ra1 := by rw [← e3]; exact x_up_at
          have k1793 := l9_pe (pe' := h ra1 7) (l1 := rv h1433 2) (t1 := rv h1433 3) (d1 := rv h1433 4) (s1 := rv h1433 5) c1492 (by omega) (by omega) (by omega) (by omega) (by omega)
          refine x_retI (np := 41) (x := 0) (by decide +kernel) (by decide) (Or.inr ⟨by decide +kernel, by omega, by omega⟩) ⟨_, rfl, (by decide), ?_⟩
          exact ⟨j1487, f1494, (by omega), (by omega), (by omega), (Tt.n0 (by omega) (Tl.no m1439 (by omega) k1793 rfl (by omega))), m1784⟩
      have b1821 := jB (e := 7) 0 hJ (rg_T0_7_0_1 ta1) (by omega) (by omega)
      have q1822 : h10 61 1 = h1 61 1 := f12 61 1 (by decide +kernel)
      have q1823 : h1 61 1 = ra1 := by rw [← e3]; exact x_up_at
      have q1824 : h10 ra1 7 = h1 ra1 7 := jK 0 f12 (rg_T0_7_0_1 ta1) (by omega) (by omega) (by decide)
      have q1825 : h1 ra1 7 = h ra1 7 := by rw [← e3]; exact x_up_k (tne_0_61 ta1)
      have e1826 : rv h10 0 = (h ra1 7) := (congrArg (fun z => svq h10 z 0) (q1822.trans q1823)).trans (q1824.trans q1825)
      have q1827 : h10 61 1 = h1 61 1 := f12 61 1 (by decide +kernel)
      have q1828 : h1 61 1 = ra1 := by rw [← e3]; exact x_up_at
      have q1829 : h10 ra1 8 = h1 ra1 8 := jK 0 f12 (rg_T0_8_0_1 ta1) (by omega) (by omega) (by decide)
      have q1830 : h1 ra1 8 = h ra1 8 := by rw [← e3]; exact x_up_k (tne_0_61 ta1)
      have e1831 : rv h10 1 = (h ra1 8) := (congrArg (fun z => svq h10 z 1) (q1827.trans q1828)).trans (q1829.trans q1830)
      have q1832 : h10 1 1 = h1 1 1 := jK 0 f12 rg_1_1_0_1 (by omega) (by omega) (by decide)
      have q1833 : h1 1 1 = h 1 1 := by rw [← e3]; exact x_up_k (by decide)
      have m1835 := Tp.fr m9 f12 (by decide) (by decide)
      have z1834 := m1835.1
      have b1837 := jB (e := 2) 0 hJ (rg_T1_2_0_1 ta1) (by omega) (by omega)
      have q1838 : h10 61 1 = h1 61 1 := f12 61 1 (by decide +kernel)
      have q1839 : h1 61 1 = ra1 := by rw [← e3]; exact x_up_at
      have q1840 : h10 (ra1 + 1) 2 = h1 (ra1 + 1) 2 := jK 0 f12 (rg_T1_2_0_1 ta1) (by omega) (by omega) (by decide)
      have q1841 : h1 (ra1 + 1) 2 = h (ra1 + 1) 2 := by rw [← e3]; exact x_up_k (tne_1_61 ta1)
      have e1842 : rv h10 2 = (h (ra1 + 1) 2) := (congrArg (fun z => svq h10 z 2) (q1838.trans q1839)).trans (q1840.trans q1841)
      have b1843 := jB (e := 2) 0 hJ (rg_T3_2_0_1 ta1) (by omega) (by omega)
      have q1844 : h10 61 1 = h1 61 1 := f12 61 1 (by decide +kernel)
      have q1845 : h1 61 1 = ra1 := by rw [← e3]; exact x_up_at
      have q1846 : h10 (ra1 + 3) 2 = h1 (ra1 + 3) 2 := jK 0 f12 (rg_T3_2_0_1 ta1) (by omega) (by omega) (by decide)
      have q1847 : h1 (ra1 + 3) 2 = h (ra1 + 3) 2 := by rw [← e3]; exact x_up_k (tne_3_61 ta1)
      have e1848 : rv h10 3 = (h (ra1 + 3) 2) := (congrArg (fun z => svq h10 z 3) (q1844.trans q1845)).trans (q1846.trans q1847)
      have b1849 := jB (e := 2) 0 hJ (rg_T5_2_0_1 ta1) (by omega) (by omega)
      have q1850 : h10 61 1 = h1 61 1 := f12 61 1 (by decide +kernel)
      have q1851 : h1 61 1 = ra1 := by rw [← e3]; exact x_up_at
      have q1852 : h10 (ra1 + 5) 2 = h1 (ra1 + 5) 2 := jK 0 f12 (rg_T5_2_0_1 ta1) (by omega) (by omega) (by decide)
      have q1853 : h1 (ra1 + 5) 2 = h (ra1 + 5) 2 := by rw [← e3]; exact x_up_k (tne_5_61 ta1)
      have e1854 : rv h10 4 = (h (ra1 + 5) 2) := (congrArg (fun z => svq h10 z 4) (q1850.trans q1851)).trans (q1852.trans q1853)
      have b1855 := jB (e := 2) 0 hJ (rg_T7_2_0_1 ta1) (by omega) (by omega)
      have q1856 : h10 61 1 = h1 61 1 := f12 61 1 (by decide +kernel)
      have q1857 : h1 61 1 = ra1 := by rw [← e3]; exact x_up_at
      have q1858 : h10 (ra1 + 7) 2 = h1 (ra1 + 7) 2 := jK 0 f12 (rg_T7_2_0_1 ta1) (by omega) (by omega) (by decide)
      have q1859 : h1 (ra1 + 7) 2 = h (ra1 + 7) 2 := by rw [← e3]; exact x_up_k (tne_7_61 ta1)
      have e1860 : rv h10 5 = (h (ra1 + 7) 2) := (congrArg (fun z => svq h10 z 5) (q1856.trans q1857)).trans (q1858.trans q1859)
      have m1836 : Tl tB tN (h ra1 7) (h (ra1 + 1) 2) (h (ra1 + 3) 2) (h (ra1 + 5) 2) (h (ra1 + 7) 2) (2147483662 - 2147483648) (rv h10 2) (rv h10 3) (rv h10 4) (rv h10 5) (h10 1 2) := by
        rw [show rv h10 2 = h (ra1 + 1) 2 by omega, show rv h10 3 = h (ra1 + 3) 2 by omega, show rv h10 4 = h (ra1 + 5) 2 by omega, show rv h10 5 = h (ra1 + 7) 2 by omega]
        exact Tl.zero ((show h10 1 2 = h10 1 2 by omega).trans c16) (by omega) rfl
      have m1861 : Ot ra1 h h1 := by rw [← e3]; exact Ot.oth Ot.refl (by decide)
      have m1862 : Ot ra1 h h10 := Ot.fr m1861 f12 (by decide)
      exact p1436 _ 2147483648 h10 (Nat.lt_succ_self _) (by omega) (by omega) (by omega) j11 (Fr.refl _ _) m1836 m1862
    have q28 : ¬ (2147483648 = 2147483648) := q28
    exfalso; omega
  have q26 : ¬ ((h10 1 2) < (h 1 1)) := q26
  refine x_const (np := 12) (x := 9223372043297226753) (a := 2147483649) (by decide +kernel) (by decide) (by decide) ?_
  refine x_goto (np := 15) (x := 16) (by decide +kernel) ?_
  refine x_retI (np := 17) (x := 0) (by decide +kernel) (by decide) (Or.inr ⟨by decide +kernel, by omega, by omega⟩) ⟨_, rfl, (by decide), ?_⟩
  refine x_ifz (k := 0) (tg := 24) (np := 22) (by decide +kernel) (by decide) (by decide) (fun q1863 => ?_) (fun q1864 => ?_)
  · have q1863 : 2147483649 = 2147483648 := q1863
    exfalso; omega
  have q1864 : ¬ (2147483649 = 2147483648) := q1864
  refine x_const (np := 23) (x := 9223372043297226753) (a := 2147483649) (by decide +kernel) (by decide) (by decide) ?_
  have b1865 := jB (e := 7) 0 hJ (rg_T0_7_0_1 ta1) (by omega) (by omega)
  have q1866 : h10 ra1 7 = h1 ra1 7 := jK 0 f12 (rg_T0_7_0_1 ta1) (by omega) (by omega) (by decide)
  have q1867 : h1 ra1 7 = h ra1 7 := by rw [← e3]; exact x_up_k (tne_0_61 ta1)
  have q1868 : h10 ra1 8 = h1 ra1 8 := jK 0 f12 (rg_T0_8_0_1 ta1) (by omega) (by omega) (by decide)
  have q1869 : h1 ra1 8 = h ra1 8 := by rw [← e3]; exact x_up_k (tne_0_61 ta1)
  have m1870 : Ot ra1 h h1 := by rw [← e3]; exact Ot.oth Ot.refl (by decide)
  have m1871 : Ot ra1 h h10 := Ot.fr m1870 f12 (by decide)
  have q1872 : h10 (ra1 + 1) 2 = h1 (ra1 + 1) 2 := jK 0 f12 (rg_T1_2_0_1 ta1) (by omega) (by omega) (by decide)
  have q1873 : h1 (ra1 + 1) 2 = h (ra1 + 1) 2 := by rw [← e3]; exact x_up_k (tne_1_61 ta1)
  have b1874 := jB (e := 2) 0 hJ (rg_T1_2_0_1 ta1) (by omega) (by omega)
  have q1875 : h10 (ra1 + 3) 2 = h1 (ra1 + 3) 2 := jK 0 f12 (rg_T3_2_0_1 ta1) (by omega) (by omega) (by decide)
  have q1876 : h1 (ra1 + 3) 2 = h (ra1 + 3) 2 := by rw [← e3]; exact x_up_k (tne_3_61 ta1)
  have b1877 := jB (e := 2) 0 hJ (rg_T3_2_0_1 ta1) (by omega) (by omega)
  have q1878 : h10 (ra1 + 5) 2 = h1 (ra1 + 5) 2 := jK 0 f12 (rg_T5_2_0_1 ta1) (by omega) (by omega) (by decide)
  have q1879 : h1 (ra1 + 5) 2 = h (ra1 + 5) 2 := by rw [← e3]; exact x_up_k (tne_5_61 ta1)
  have b1880 := jB (e := 2) 0 hJ (rg_T5_2_0_1 ta1) (by omega) (by omega)
  have q1881 : h10 (ra1 + 7) 2 = h1 (ra1 + 7) 2 := jK 0 f12 (rg_T7_2_0_1 ta1) (by omega) (by omega) (by decide)
  have q1882 : h1 (ra1 + 7) 2 = h (ra1 + 7) 2 := by rw [← e3]; exact x_up_k (tne_7_61 ta1)
  have b1883 := jB (e := 2) 0 hJ (rg_T7_2_0_1 ta1) (by omega) (by omega)
  have q1884 : h10 1 1 = h1 1 1 := jK 0 f12 rg_1_1_0_1 (by omega) (by omega) (by decide)
  have q1885 : h1 1 1 = h 1 1 := by rw [← e3]; exact x_up_k (by decide)
  have m1887 := Tp.fr m9 f12 (by decide) (by decide)
  have z1886 := m1887.1
  refine x_retI (np := 24) (x := 0) (by decide +kernel) (by decide) (Or.inr ⟨by decide +kernel, by omega, by omega⟩) ⟨_, rfl, (by decide), ?_⟩
  exact ⟨j11, f17, (by omega), (by omega), (by omega), (Tt.s1 (by omega) (Tt.nil c16 (by omega) rfl) (by omega) (by omega) (by omega) (by omega)), m1871⟩
