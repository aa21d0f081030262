/-! ===== methods ===== -/
set_option maxHeartbeats 0 in
/-- LentNames$TownReader.readLine()Z -/
theorem c93_61 {sc : Nat × Nat} {d  : Nat} {h : xh} {tB : Nat → Nat} {tN : Nat} (hJ : J h) (hT : Tp tB tN h) : X sc 93 (d + 8) (xI fun r h' => J h' ∧ Fr 63331869759897761 h h' ∧ (2147483648 ≤ r ∧ r ≤ 2147483649) ∧ (rv h' 0 = rv h 0) ∧ (rv h' 1 = rv h 1) ∧ line9 tB tN (rv h 0) (rv h 2) (rv h 3) (rv h 4) (rv h 5) (h 1 2) (rs5 r (h' 1 2) (rv h' 2) (rv h' 3) (rv h' 4) (rv h' 5)) ∧ Ot (h 61 1) h h' ∧ (r = 2147483649 → Wl (wq h (h 61 1)) (wq h' (h 61 1)) (rv h 3) (rv h' 3)) ∧ (r = 2147483649 → Lx tB tN (rv h 0) (h 1 2) (fun b => xq h (h 61 1) b) (fun b => xq h' (h 61 1) b)) ∧ (r = 2147483649 → Sl tB tN (rv h 0) (rv h 5) (h 1 2) (ab (aq h (h 61 1)) (bq h (h 61 1))) (ab (aq h' (h 61 1)) (bq h' (h 61 1))))) 0 0 0 [x_r 61] [] h := by
  have hF := Fr.refl 63331869759897761 h
  refine x_aload (np := 1) (x := 0) (by decide +kernel) rfl (x_nc_le (by decide)) ?_
  have q1 : h 61 0 = 1 := by have z := jB (e := 0) 0 hJ rg_61_0_0_1 (by decide) (by decide); omega
  refine x_getR (np := 4) (x := 576) (f := 0) (q := 1) (by decide +kernel) (by decide) (by decide +kernel) q1 ?_
  refine x_ldcB (i := 0) (idx := 35) (tx := "lend") (by rw [tb_y93]; exact List.mem_of_getElem? (i := 0) rfl) (by decide) (by rw [tb_b93]; decide +kernel) ?_
  refine x_cP (t := 6) (mj := 77) (n := 2) (rc := 8) (ml := 4) (nr := 0) (np := 9) (as := [x_r 1, x_b (0 + 1)]) (rest := []) (lo1 := [x_r 1, x_b (0 + 1), 147573952589676412928, 147573952589676412928]) (by decide +kernel) (by decide) (by decide +kernel) (x_rb_of (by decide +kernel)) rfl rfl (x_wr (by decide) (x_wB (by decide) x_wn)) x_wn (by decide) rfl (c77_1_S0 hJ  (by decide) hT) (fun v2 l3 q4 => ?_)
  obtain ⟨b7, c5, c6⟩ := q4
  have b8 := jB (e := 2) 0 hJ rg_1_2_0_1 (by first | decide | omega) (by first | decide | omega)
  refine x_ifz (k := 0) (tg := 50) (np := 12) (by decide +kernel) (by decide) l3 (fun q9 => ?_) (fun q10 => ?_)
  · have q9 : v2 = 2147483648 := q9
    refine x_aload (np := 51) (x := 0) (by decide +kernel) rfl (x_nc_le (by decide)) ?_
    have q11 : h 61 0 = 1 := by have z := jB (e := 0) 0 hJ rg_61_0_0_1 (by decide) (by decide); omega
    refine x_getR (np := 54) (x := 576) (f := 0) (q := 1) (by decide +kernel) (by decide) (by decide +kernel) q11 ?_
    refine x_ldcB (i := 6) (idx := 58) (tx := "letter") (by rw [tb_y93]; exact List.mem_of_getElem? (i := 6) rfl) (by decide) (by rw [tb_b93]; decide +kernel) ?_
    refine x_cP (t := 6) (mj := 77) (n := 2) (rc := 8) (ml := 4) (nr := 0) (np := 59) (as := [x_r 1, x_b (6 + 1)]) (rest := []) (lo1 := [x_r 1, x_b (6 + 1), 147573952589676412928, 147573952589676412928]) (by decide +kernel) (by decide) (by decide +kernel) (x_rb_of (by decide +kernel)) rfl rfl (x_wr (by decide) (x_wB (by decide) x_wn)) x_wn (by decide) rfl (c77_1_S0 hJ  (by decide) hT) (fun v12 l13 q14 => ?_)
    obtain ⟨b17, c15, c16⟩ := q14
    refine x_ifz (k := 0) (tg := 100) (np := 62) (by decide +kernel) (by decide) l13 (fun q18 => ?_) (fun q19 => ?_)
    · have q18 : v12 = 2147483648 := q18
      refine x_aload (np := 101) (x := 0) (by decide +kernel) rfl (x_nc_le (by decide)) ?_
      have q20 : h 61 0 = 1 := by have z := jB (e := 0) 0 hJ rg_61_0_0_1 (by decide) (by decide); omega
      refine x_getR (np := 104) (x := 576) (f := 0) (q := 1) (by decide +kernel) (by decide) (by decide +kernel) q20 ?_
      refine x_ldcB (i := 8) (idx := 66) (tx := "debt") (by rw [tb_y93]; exact List.mem_of_getElem? (i := 8) rfl) (by decide) (by rw [tb_b93]; decide +kernel) ?_
      refine x_cP (t := 6) (mj := 77) (n := 2) (rc := 8) (ml := 4) (nr := 0) (np := 109) (as := [x_r 1, x_b (8 + 1)]) (rest := []) (lo1 := [x_r 1, x_b (8 + 1), 147573952589676412928, 147573952589676412928]) (by decide +kernel) (by decide) (by decide +kernel) (x_rb_of (by decide +kernel)) rfl rfl (x_wr (by decide) (x_wB (by decide) x_wn)) x_wn (by decide) rfl (c77_1_S0 hJ  (by decide) hT) (fun v21 l22 q23 => ?_)
      obtain ⟨b26, c24, c25⟩ := q23
      refine x_ifz (k := 0) (tg := 150) (np := 112) (by decide +kernel) (by decide) l22 (fun q27 => ?_) (fun q28 => ?_)
      · have q27 : v21 = 2147483648 := q27
        refine x_aload (np := 151) (x := 0) (by decide +kernel) rfl (x_nc_le (by decide)) ?_
        have q29 : h 61 0 = 1 := by have z := jB (e := 0) 0 hJ rg_61_0_0_1 (by decide) (by decide); omega
        refine x_getR (np := 154) (x := 576) (f := 0) (q := 1) (by decide +kernel) (by decide) (by decide +kernel) q29 ?_
        refine x_ldcB (i := 13) (idx := 74) (tx := "seen") (by rw [tb_y93]; exact List.mem_of_getElem? (i := 13) rfl) (by decide) (by rw [tb_b93]; decide +kernel) ?_
        refine x_cP (t := 6) (mj := 77) (n := 2) (rc := 8) (ml := 4) (nr := 0) (np := 159) (as := [x_r 1, x_b (13 + 1)]) (rest := []) (lo1 := [x_r 1, x_b (13 + 1), 147573952589676412928, 147573952589676412928]) (by decide +kernel) (by decide) (by decide +kernel) (x_rb_of (by decide +kernel)) rfl rfl (x_wr (by decide) (x_wB (by decide) x_wn)) x_wn (by decide) rfl (c77_1_S0 hJ  (by decide) hT) (fun v30 l31 q32 => ?_)
        obtain ⟨b35, c33, c34⟩ := q32
        refine x_ifz (k := 0) (tg := 200) (np := 162) (by decide +kernel) (by decide) l31 (fun q36 => ?_) (fun q37 => ?_)
        · have q36 : v30 = 2147483648 := q36
          refine x_aload (np := 201) (x := 0) (by decide +kernel) rfl (x_nc_le (by decide)) ?_
          have q38 : h 61 0 = 1 := by have z := jB (e := 0) 0 hJ rg_61_0_0_1 (by decide) (by decide); omega
          refine x_getR (np := 204) (x := 576) (f := 0) (q := 1) (by decide +kernel) (by decide) (by decide +kernel) q38 ?_
          refine x_ldcB (i := 17) (idx := 82) (tx := "late") (by rw [tb_y93]; exact List.mem_of_getElem? (i := 17) rfl) (by decide) (by rw [tb_b93]; decide +kernel) ?_
          refine x_cI (t := 6) (mj := 78) (n := 2) (rc := 8) (ml := 2) (nr := 0) (np := 209) (as := [x_r 1, x_b (17 + 1)]) (rest := []) (lo1 := [x_r 1, x_b (17 + 1)]) (by decide +kernel) (by decide) (by decide +kernel) (x_rb_of (by decide +kernel)) rfl rfl (x_wr (by decide) (x_wB (by decide) x_wn)) x_wn (by decide) rfl (c78_1_S0 hJ  (by decide) hT) (fun v39 h42 l40 q41 => ?_)
          obtain ⟨j43, f44, b45, c46, c47, c48⟩ := q41
          have f49 := Fr.trans hF f44 (by decide)
          have b50 := jB (e := 2) 0 j43 rg_1_2_0_1 (by first | decide | omega) (by first | decide | omega)
          have b51 : iv_tl 17 = 4 := by decide
          refine x_ifz (k := 0) (tg := 217) (np := 212) (by decide +kernel) (by decide) l40 (fun q52 => ?_) (fun q53 => ?_)
          · have q52 : v39 = 2147483648 := q52
            have b54 := c47 (by first | decide | omega)
            refine x_aload (np := 218) (x := 0) (by decide +kernel) rfl (x_nc_le (by decide)) ?_
            have q55 : h42 61 0 = 1 := by have z := jB (e := 0) 0 j43 rg_61_0_0_1 (by decide) (by decide); omega
            refine x_getR (np := 221) (x := 576) (f := 0) (q := 1) (by decide +kernel) (by decide) (by decide +kernel) q55 ?_
            refine x_ldcB (i := 19) (idx := 87) (tx := "dies") (by rw [tb_y93]; exact List.mem_of_getElem? (i := 19) rfl) (by decide) (by rw [tb_b93]; decide +kernel) ?_
            have m59 := Tp.fr hT f44 (by decide) (by decide)
            refine x_cI (t := 6) (mj := 78) (n := 2) (rc := 8) (ml := 2) (nr := 0) (np := 226) (as := [x_r 1, x_b (19 + 1)]) (rest := []) (lo1 := [x_r 1, x_b (19 + 1)]) (by decide +kernel) (by decide) (by decide +kernel) (x_rb_of (by decide +kernel)) rfl rfl (x_wr (by decide) (x_wB (by decide) x_wn)) x_wn (by decide) rfl (c78_1_S0 j43  (by decide) m59) (fun v56 h60 l57 q58 => ?_)
            obtain ⟨j61, f62, b63, c64, c65, c66⟩ := q58
            have f67 := Fr.trans f49 f62 (by decide)
            have b68 := jB (e := 2) 0 j61 rg_1_2_0_1 (by first | decide | omega) (by first | decide | omega)
            have b69 : iv_tl 19 = 4 := by decide
            refine x_ifz (k := 0) (tg := 234) (np := 229) (by decide +kernel) (by decide) l57 (fun q70 => ?_) (fun q71 => ?_)
            · have q70 : v56 = 2147483648 := q70
              have b72 := c65 (by first | decide | omega)
              refine x_aload (np := 235) (x := 0) (by decide +kernel) rfl (x_nc_le (by decide)) ?_
              have q73 : h60 61 0 = 1 := by have z := jB (e := 0) 0 j61 rg_61_0_0_1 (by decide) (by decide); omega
              refine x_getR (np := 238) (x := 576) (f := 0) (q := 1) (by decide +kernel) (by decide) (by decide +kernel) q73 ?_
              refine x_ldcB (i := 20) (idx := 92) (tx := "court") (by rw [tb_y93]; exact List.mem_of_getElem? (i := 20) rfl) (by decide) (by rw [tb_b93]; decide +kernel) ?_
              have m77 := Tp.fr m59 f62 (by decide) (by decide)
              refine x_cI (t := 6) (mj := 78) (n := 2) (rc := 8) (ml := 2) (nr := 0) (np := 243) (as := [x_r 1, x_b (20 + 1)]) (rest := []) (lo1 := [x_r 1, x_b (20 + 1)]) (by decide +kernel) (by decide) (by decide +kernel) (x_rb_of (by decide +kernel)) rfl rfl (x_wr (by decide) (x_wB (by decide) x_wn)) x_wn (by decide) rfl (c78_1_S0 j61  (by decide) m77) (fun v74 h78 l75 q76 => ?_)
              obtain ⟨j79, f80, b81, c82, c83, c84⟩ := q76
              have f85 := Fr.trans f67 f80 (by decide)
              have b86 := jB (e := 2) 0 j79 rg_1_2_0_1 (by first | decide | omega) (by first | decide | omega)
              have b87 : iv_tl 20 = 5 := by decide
              refine x_ifz (k := 0) (tg := 257) (np := 246) (by decide +kernel) (by decide) l75 (fun q88 => ?_) (fun q89 => ?_)
              · have q88 : v74 = 2147483648 := q88
                have b90 := c83 (by first | decide | omega)
                refine x_const (np := 258) (x := 9223372039002259456) (a := 2147483648) (by decide +kernel) (by decide) (by decide) ?_
                have t91 : tw (h 61 1) := hJ.2.2.2.2.1
                have b92 := jB (e := 7) 0 hJ (rg_T0_7_0_1 t91) (by first | decide | omega) (by first | decide | omega)
                have e93 : rv h 0 = (h (h 61 1) 7) := (congrArg (fun z => svq h z 0) rfl).trans rfl
                have q94 : h78 61 1 = h60 61 1 := f80 61 1 (by decide +kernel)
                have q95 : h60 61 1 = h42 61 1 := f62 61 1 (by decide +kernel)
                have q96 : h42 61 1 = h 61 1 := f44 61 1 (by decide +kernel)
                have q97 : h78 (h 61 1) 7 = h60 (h 61 1) 7 := jK 0 f80 (rg_T0_7_0_1 t91) (by first | decide | omega) (by first | decide | omega) (by decide)
                have q98 : h60 (h 61 1) 7 = h42 (h 61 1) 7 := jK 0 f62 (rg_T0_7_0_1 t91) (by first | decide | omega) (by first | decide | omega) (by decide)
                have q99 : h42 (h 61 1) 7 = h (h 61 1) 7 := jK 0 f44 (rg_T0_7_0_1 t91) (by first | decide | omega) (by first | decide | omega) (by decide)
                have e100 : rv h78 0 = (h (h 61 1) 7) := (congrArg (fun z => svq h78 z 0) ((q94.trans q95).trans q96)).trans ((q97.trans q98).trans q99)
                have e101 : rv h 1 = (h (h 61 1) 8) := (congrArg (fun z => svq h z 1) rfl).trans rfl
                have q102 : h78 61 1 = h60 61 1 := f80 61 1 (by decide +kernel)
                have q103 : h60 61 1 = h42 61 1 := f62 61 1 (by decide +kernel)
                have q104 : h42 61 1 = h 61 1 := f44 61 1 (by decide +kernel)
                have q105 : h78 (h 61 1) 8 = h60 (h 61 1) 8 := jK 0 f80 (rg_T0_8_0_1 t91) (by first | decide | omega) (by first | decide | omega) (by decide)
                have q106 : h60 (h 61 1) 8 = h42 (h 61 1) 8 := jK 0 f62 (rg_T0_8_0_1 t91) (by first | decide | omega) (by first | decide | omega) (by decide)
                have q107 : h42 (h 61 1) 8 = h (h 61 1) 8 := jK 0 f44 (rg_T0_8_0_1 t91) (by first | decide | omega) (by first | decide | omega) (by decide)
                have e108 : rv h78 1 = (h (h 61 1) 8) := (congrArg (fun z => svq h78 z 1) ((q102.trans q103).trans q104)).trans ((q105.trans q106).trans q107)
                have q109 : h78 61 1 = h60 61 1 := f80 61 1 (by decide +kernel)
                have q110 : h60 61 1 = h42 61 1 := f62 61 1 (by decide +kernel)
                have q111 : h42 61 1 = h 61 1 := f44 61 1 (by decide +kernel)
                have q112 : h78 (h 61 1) 7 = h60 (h 61 1) 7 := jK 0 f80 (rg_T0_7_0_1 t91) (by first | decide | omega) (by first | decide | omega) (by decide)
                have q113 : h60 (h 61 1) 7 = h42 (h 61 1) 7 := jK 0 f62 (rg_T0_7_0_1 t91) (by first | decide | omega) (by first | decide | omega) (by decide)
                have q114 : h42 (h 61 1) 7 = h (h 61 1) 7 := jK 0 f44 (rg_T0_7_0_1 t91) (by first | decide | omega) (by first | decide | omega) (by decide)
                have q115 : h78 61 1 = h60 61 1 := f80 61 1 (by decide +kernel)
                have q116 : h60 61 1 = h42 61 1 := f62 61 1 (by decide +kernel)
                have q117 : h42 61 1 = h 61 1 := f44 61 1 (by decide +kernel)
                have q118 : h78 (h 61 1) 8 = h60 (h 61 1) 8 := jK 0 f80 (rg_T0_8_0_1 t91) (by first | decide | omega) (by first | decide | omega) (by decide)
                have q119 : h60 (h 61 1) 8 = h42 (h 61 1) 8 := jK 0 f62 (rg_T0_8_0_1 t91) (by first | decide | omega) (by first | decide | omega) (by decide)
                have q120 : h42 (h 61 1) 8 = h (h 61 1) 8 := jK 0 f44 (rg_T0_8_0_1 t91) (by first | decide | omega) (by first | decide | omega) (by decide)
                have b121 := jB (e := 2) 0 hJ (rg_T1_2_0_1 t91) (by first | decide | omega) (by first | decide | omega)
                have e122 : rv h 2 = (h ((h 61 1) + 1) 2) := (congrArg (fun z => svq h z 2) rfl).trans rfl
                have q123 : h78 61 1 = h60 61 1 := f80 61 1 (by decide +kernel)
                have q124 : h60 61 1 = h42 61 1 := f62 61 1 (by decide +kernel)
                have q125 : h42 61 1 = h 61 1 := f44 61 1 (by decide +kernel)
                have q126 : h78 ((h 61 1) + 1) 2 = h60 ((h 61 1) + 1) 2 := jK 0 f80 (rg_T1_2_0_1 t91) (by first | decide | omega) (by first | decide | omega) (by decide)
                have q127 : h60 ((h 61 1) + 1) 2 = h42 ((h 61 1) + 1) 2 := jK 0 f62 (rg_T1_2_0_1 t91) (by first | decide | omega) (by first | decide | omega) (by decide)
                have q128 : h42 ((h 61 1) + 1) 2 = h ((h 61 1) + 1) 2 := jK 0 f44 (rg_T1_2_0_1 t91) (by first | decide | omega) (by first | decide | omega) (by decide)
                have e129 : rv h78 2 = (h ((h 61 1) + 1) 2) := (congrArg (fun z => svq h78 z 2) ((q123.trans q124).trans q125)).trans ((q126.trans q127).trans q128)
                have b130 := jB (e := 2) 0 hJ (rg_T3_2_0_1 t91) (by first | decide | omega) (by first | decide | omega)
                have e131 : rv h 3 = (h ((h 61 1) + 3) 2) := (congrArg (fun z => svq h z 3) rfl).trans rfl
                have q132 : h78 61 1 = h60 61 1 := f80 61 1 (by decide +kernel)
                have q133 : h60 61 1 = h42 61 1 := f62 61 1 (by decide +kernel)
                have q134 : h42 61 1 = h 61 1 := f44 61 1 (by decide +kernel)
                have q135 : h78 ((h 61 1) + 3) 2 = h60 ((h 61 1) + 3) 2 := jK 0 f80 (rg_T3_2_0_1 t91) (by first | decide | omega) (by first | decide | omega) (by decide)
                have q136 : h60 ((h 61 1) + 3) 2 = h42 ((h 61 1) + 3) 2 := jK 0 f62 (rg_T3_2_0_1 t91) (by first | decide | omega) (by first | decide | omega) (by decide)
                have q137 : h42 ((h 61 1) + 3) 2 = h ((h 61 1) + 3) 2 := jK 0 f44 (rg_T3_2_0_1 t91) (by first | decide | omega) (by first | decide | omega) (by decide)
                have e138 : rv h78 3 = (h ((h 61 1) + 3) 2) := (congrArg (fun z => svq h78 z 3) ((q132.trans q133).trans q134)).trans ((q135.trans q136).trans q137)
                have b139 := jB (e := 2) 0 hJ (rg_T5_2_0_1 t91) (by first | decide | omega) (by first | decide | omega)
                have e140 : rv h 4 = (h ((h 61 1) + 5) 2) := (congrArg (fun z => svq h z 4) rfl).trans rfl
                have q141 : h78 61 1 = h60 61 1 := f80 61 1 (by decide +kernel)
                have q142 : h60 61 1 = h42 61 1 := f62 61 1 (by decide +kernel)
                have q143 : h42 61 1 = h 61 1 := f44 61 1 (by decide +kernel)
                have q144 : h78 ((h 61 1) + 5) 2 = h60 ((h 61 1) + 5) 2 := jK 0 f80 (rg_T5_2_0_1 t91) (by first | decide | omega) (by first | decide | omega) (by decide)
                have q145 : h60 ((h 61 1) + 5) 2 = h42 ((h 61 1) + 5) 2 := jK 0 f62 (rg_T5_2_0_1 t91) (by first | decide | omega) (by first | decide | omega) (by decide)
                have q146 : h42 ((h 61 1) + 5) 2 = h ((h 61 1) + 5) 2 := jK 0 f44 (rg_T5_2_0_1 t91) (by first | decide | omega) (by first | decide | omega) (by decide)
                have e147 : rv h78 4 = (h ((h 61 1) + 5) 2) := (congrArg (fun z => svq h78 z 4) ((q141.trans q142).trans q143)).trans ((q144.trans q145).trans q146)
                have b148 := jB (e := 2) 0 hJ (rg_T7_2_0_1 t91) (by first | decide | omega) (by first | decide | omega)
                have e149 : rv h 5 = (h ((h 61 1) + 7) 2) := (congrArg (fun z => svq h z 5) rfl).trans rfl
                have q150 : h78 61 1 = h60 61 1 := f80 61 1 (by decide +kernel)
                have q151 : h60 61 1 = h42 61 1 := f62 61 1 (by decide +kernel)
                have q152 : h42 61 1 = h 61 1 := f44 61 1 (by decide +kernel)
                have q153 : h78 ((h 61 1) + 7) 2 = h60 ((h 61 1) + 7) 2 := jK 0 f80 (rg_T7_2_0_1 t91) (by first | decide | omega) (by first | decide | omega) (by decide)
                have q154 : h60 ((h 61 1) + 7) 2 = h42 ((h 61 1) + 7) 2 := jK 0 f62 (rg_T7_2_0_1 t91) (by first | decide | omega) (by first | decide | omega) (by decide)
                have q155 : h42 ((h 61 1) + 7) 2 = h ((h 61 1) + 7) 2 := jK 0 f44 (rg_T7_2_0_1 t91) (by first | decide | omega) (by first | decide | omega) (by decide)
                have e156 : rv h78 5 = (h ((h 61 1) + 7) 2) := (congrArg (fun z => svq h78 z 5) ((q150.trans q151).trans q152)).trans ((q153.trans q154).trans q155)
                have w157 : ¬ Wd tB tN 0 (h 1 2) := by rw [show h 1 2 = h 1 2 from rfl]; exact (Is.no c6 (by first | decide | omega))
                have w158 : ¬ Wd tB tN 6 (h 1 2) := by rw [show h 1 2 = h 1 2 from rfl]; exact (Is.no c16 (by first | decide | omega))
                have w159 : ¬ Wd tB tN 8 (h 1 2) := by rw [show h 1 2 = h 1 2 from rfl]; exact (Is.no c25 (by first | decide | omega))
                have w160 : ¬ Wd tB tN 13 (h 1 2) := by rw [show h 1 2 = h 1 2 from rfl]; exact (Is.no c34 (by first | decide | omega))
                obtain ⟨w161, e162⟩ := Tk.no c48 (by first | decide | omega)
                have w163 : ¬ Wd tB tN 17 (h 1 2) := by rw [show h 1 2 = h 1 2 from rfl]; exact w161
                obtain ⟨w164, e165⟩ := Tk.no c66 (by first | decide | omega)
                have w166 : ¬ Wd tB tN 19 (h 1 2) := by rw [show h 1 2 = h42 1 2 from (show h42 1 2 = h 1 2 by first | decide | omega).symm]; exact w164
                obtain ⟨w167, e168⟩ := Tk.no c84 (by first | decide | omega)
                have w169 : ¬ Wd tB tN 20 (h 1 2) := by rw [show h 1 2 = h60 1 2 from (show h60 1 2 = h 1 2 by first | decide | omega).symm]; exact w167
                have m170 : Ot (h 61 1) h h42 := Ot.fr Ot.refl f44 (by decide)
                have m171 : Ot (h 61 1) h h60 := Ot.fr m170 f62 (by decide)
                have m172 : Ot (h 61 1) h h78 := Ot.fr m171 f80 (by decide)
                refine x_retI (np := 259) (x := 0) (by decide +kernel) (by decide) (Or.inr ⟨by decide +kernel, by first | decide | omega, by first | decide | omega⟩) ⟨_, rfl, (by decide), ?_⟩
                exact ⟨j79, f85, (by first | decide | omega), (by first | decide | omega), (by first | decide | omega), (l9_no w157 w158 w159 w160 w163 w166 w169 (by first | decide | omega)), m172, (fun z => absurd z (by first | decide | omega)), (fun z => absurd z (by first | decide | omega)), (fun z => absurd z (by first | decide | omega))⟩
              have q89 : ¬ (v74 = 2147483648) := q89
              have b173 := c82 (by first | decide | omega)
              refine x_aload (np := 247) (x := 0) (by decide +kernel) rfl (x_nc_le (by decide)) ?_
              have m177 := Tp.fr m77 f80 (by decide) (by decide)
              refine x_cI (t := 6) (mj := 97) (n := 1) (rc := 10) (ml := 2) (nr := 0) (np := 250) (as := [x_r 61]) (rest := []) (lo1 := [x_r 61, 147573952589676412928]) (by decide +kernel) (by decide) (by decide +kernel) (x_rb_of (by decide +kernel)) rfl rfl (x_wr (by decide) x_wn) x_wn (by decide) rfl (c97_61 j79  m177) (fun v174 h178 l175 q176 => ?_)
              obtain ⟨j179, f180, b181, c182⟩ := q176
              have f183 := Fr.trans f85 f180 (by decide)
              refine x_ifz (k := 0) (tg := 257) (np := 253) (by decide +kernel) (by decide) l175 (fun q184 => ?_) (fun q185 => ?_)
              · have q184 : v174 = 2147483648 := q184
                refine x_const (np := 258) (x := 9223372039002259456) (a := 2147483648) (by decide +kernel) (by decide) (by decide) ?_
                have t186 : tw (h 61 1) := hJ.2.2.2.2.1
                have b187 := jB (e := 7) 0 hJ (rg_T0_7_0_1 t186) (by first | decide | omega) (by first | decide | omega)
                have e188 : rv h 0 = (h (h 61 1) 7) := (congrArg (fun z => svq h z 0) rfl).trans rfl
                have q189 : h178 61 1 = h78 61 1 := f180 61 1 (by decide +kernel)
                have q190 : h78 61 1 = h60 61 1 := f80 61 1 (by decide +kernel)
                have q191 : h60 61 1 = h42 61 1 := f62 61 1 (by decide +kernel)
                have q192 : h42 61 1 = h 61 1 := f44 61 1 (by decide +kernel)
                have q193 : h178 (h 61 1) 7 = h78 (h 61 1) 7 := jK 0 f180 (rg_T0_7_0_1 t186) (by first | decide | omega) (by first | decide | omega) (by decide)
                have q194 : h78 (h 61 1) 7 = h60 (h 61 1) 7 := jK 0 f80 (rg_T0_7_0_1 t186) (by first | decide | omega) (by first | decide | omega) (by decide)
                have q195 : h60 (h 61 1) 7 = h42 (h 61 1) 7 := jK 0 f62 (rg_T0_7_0_1 t186) (by first | decide | omega) (by first | decide | omega) (by decide)
                have q196 : h42 (h 61 1) 7 = h (h 61 1) 7 := jK 0 f44 (rg_T0_7_0_1 t186) (by first | decide | omega) (by first | decide | omega) (by decide)
                have e197 : rv h178 0 = (h (h 61 1) 7) := (congrArg (fun z => svq h178 z 0) (((q189.trans q190).trans q191).trans q192)).trans (((q193.trans q194).trans q195).trans q196)
                have e198 : rv h 1 = (h (h 61 1) 8) := (congrArg (fun z => svq h z 1) rfl).trans rfl
                have q199 : h178 61 1 = h78 61 1 := f180 61 1 (by decide +kernel)
                have q200 : h78 61 1 = h60 61 1 := f80 61 1 (by decide +kernel)
                have q201 : h60 61 1 = h42 61 1 := f62 61 1 (by decide +kernel)
                have q202 : h42 61 1 = h 61 1 := f44 61 1 (by decide +kernel)
                have q203 : h178 (h 61 1) 8 = h78 (h 61 1) 8 := jK 0 f180 (rg_T0_8_0_1 t186) (by first | decide | omega) (by first | decide | omega) (by decide)
                have q204 : h78 (h 61 1) 8 = h60 (h 61 1) 8 := jK 0 f80 (rg_T0_8_0_1 t186) (by first | decide | omega) (by first | decide | omega) (by decide)
                have q205 : h60 (h 61 1) 8 = h42 (h 61 1) 8 := jK 0 f62 (rg_T0_8_0_1 t186) (by first | decide | omega) (by first | decide | omega) (by decide)
                have q206 : h42 (h 61 1) 8 = h (h 61 1) 8 := jK 0 f44 (rg_T0_8_0_1 t186) (by first | decide | omega) (by first | decide | omega) (by decide)
                have e207 : rv h178 1 = (h (h 61 1) 8) := (congrArg (fun z => svq h178 z 1) (((q199.trans q200).trans q201).trans q202)).trans (((q203.trans q204).trans q205).trans q206)
                have q208 : h178 61 1 = h78 61 1 := f180 61 1 (by decide +kernel)
                have q209 : h78 61 1 = h60 61 1 := f80 61 1 (by decide +kernel)
                have q210 : h60 61 1 = h42 61 1 := f62 61 1 (by decide +kernel)
                have q211 : h42 61 1 = h 61 1 := f44 61 1 (by decide +kernel)
                have q212 : h178 (h 61 1) 7 = h78 (h 61 1) 7 := jK 0 f180 (rg_T0_7_0_1 t186) (by first | decide | omega) (by first | decide | omega) (by decide)
                have q213 : h78 (h 61 1) 7 = h60 (h 61 1) 7 := jK 0 f80 (rg_T0_7_0_1 t186) (by first | decide | omega) (by first | decide | omega) (by decide)
                have q214 : h60 (h 61 1) 7 = h42 (h 61 1) 7 := jK 0 f62 (rg_T0_7_0_1 t186) (by first | decide | omega) (by first | decide | omega) (by decide)
                have q215 : h42 (h 61 1) 7 = h (h 61 1) 7 := jK 0 f44 (rg_T0_7_0_1 t186) (by first | decide | omega) (by first | decide | omega) (by decide)
                have q216 : h178 61 1 = h78 61 1 := f180 61 1 (by decide +kernel)
                have q217 : h78 61 1 = h60 61 1 := f80 61 1 (by decide +kernel)
                have q218 : h60 61 1 = h42 61 1 := f62 61 1 (by decide +kernel)
                have q219 : h42 61 1 = h 61 1 := f44 61 1 (by decide +kernel)
                have q220 : h178 (h 61 1) 8 = h78 (h 61 1) 8 := jK 0 f180 (rg_T0_8_0_1 t186) (by first | decide | omega) (by first | decide | omega) (by decide)
                have q221 : h78 (h 61 1) 8 = h60 (h 61 1) 8 := jK 0 f80 (rg_T0_8_0_1 t186) (by first | decide | omega) (by first | decide | omega) (by decide)
                have q222 : h60 (h 61 1) 8 = h42 (h 61 1) 8 := jK 0 f62 (rg_T0_8_0_1 t186) (by first | decide | omega) (by first | decide | omega) (by decide)
                have q223 : h42 (h 61 1) 8 = h (h 61 1) 8 := jK 0 f44 (rg_T0_8_0_1 t186) (by first | decide | omega) (by first | decide | omega) (by decide)
                have b224 := jB (e := 2) 0 hJ (rg_T1_2_0_1 t186) (by first | decide | omega) (by first | decide | omega)
                have e225 : rv h 2 = (h ((h 61 1) + 1) 2) := (congrArg (fun z => svq h z 2) rfl).trans rfl
                have q226 : h178 61 1 = h78 61 1 := f180 61 1 (by decide +kernel)
                have q227 : h78 61 1 = h60 61 1 := f80 61 1 (by decide +kernel)
                have q228 : h60 61 1 = h42 61 1 := f62 61 1 (by decide +kernel)
                have q229 : h42 61 1 = h 61 1 := f44 61 1 (by decide +kernel)
                have q230 : h178 ((h 61 1) + 1) 2 = h78 ((h 61 1) + 1) 2 := jK 0 f180 (rg_T1_2_0_1 t186) (by first | decide | omega) (by first | decide | omega) (by decide)
                have q231 : h78 ((h 61 1) + 1) 2 = h60 ((h 61 1) + 1) 2 := jK 0 f80 (rg_T1_2_0_1 t186) (by first | decide | omega) (by first | decide | omega) (by decide)
                have q232 : h60 ((h 61 1) + 1) 2 = h42 ((h 61 1) + 1) 2 := jK 0 f62 (rg_T1_2_0_1 t186) (by first | decide | omega) (by first | decide | omega) (by decide)
                have q233 : h42 ((h 61 1) + 1) 2 = h ((h 61 1) + 1) 2 := jK 0 f44 (rg_T1_2_0_1 t186) (by first | decide | omega) (by first | decide | omega) (by decide)
                have e234 : rv h178 2 = (h ((h 61 1) + 1) 2) := (congrArg (fun z => svq h178 z 2) (((q226.trans q227).trans q228).trans q229)).trans (((q230.trans q231).trans q232).trans q233)
                have b235 := jB (e := 2) 0 hJ (rg_T3_2_0_1 t186) (by first | decide | omega) (by first | decide | omega)
                have e236 : rv h 3 = (h ((h 61 1) + 3) 2) := (congrArg (fun z => svq h z 3) rfl).trans rfl
                have q237 : h178 61 1 = h78 61 1 := f180 61 1 (by decide +kernel)
                have q238 : h78 61 1 = h60 61 1 := f80 61 1 (by decide +kernel)
                have q239 : h60 61 1 = h42 61 1 := f62 61 1 (by decide +kernel)
                have q240 : h42 61 1 = h 61 1 := f44 61 1 (by decide +kernel)
                have q241 : h178 ((h 61 1) + 3) 2 = h78 ((h 61 1) + 3) 2 := jK 0 f180 (rg_T3_2_0_1 t186) (by first | decide | omega) (by first | decide | omega) (by decide)
                have q242 : h78 ((h 61 1) + 3) 2 = h60 ((h 61 1) + 3) 2 := jK 0 f80 (rg_T3_2_0_1 t186) (by first | decide | omega) (by first | decide | omega) (by decide)
                have q243 : h60 ((h 61 1) + 3) 2 = h42 ((h 61 1) + 3) 2 := jK 0 f62 (rg_T3_2_0_1 t186) (by first | decide | omega) (by first | decide | omega) (by decide)
                have q244 : h42 ((h 61 1) + 3) 2 = h ((h 61 1) + 3) 2 := jK 0 f44 (rg_T3_2_0_1 t186) (by first | decide | omega) (by first | decide | omega) (by decide)
                have e245 : rv h178 3 = (h ((h 61 1) + 3) 2) := (congrArg (fun z => svq h178 z 3) (((q237.trans q238).trans q239).trans q240)).trans (((q241.trans q242).trans q243).trans q244)
                have b246 := jB (e := 2) 0 hJ (rg_T5_2_0_1 t186) (by first | decide | omega) (by first | decide | omega)
                have e247 : rv h 4 = (h ((h 61 1) + 5) 2) := (congrArg (fun z => svq h z 4) rfl).trans rfl
                have q248 : h178 61 1 = h78 61 1 := f180 61 1 (by decide +kernel)
                have q249 : h78 61 1 = h60 61 1 := f80 61 1 (by decide +kernel)
                have q250 : h60 61 1 = h42 61 1 := f62 61 1 (by decide +kernel)
                have q251 : h42 61 1 = h 61 1 := f44 61 1 (by decide +kernel)
                have q252 : h178 ((h 61 1) + 5) 2 = h78 ((h 61 1) + 5) 2 := jK 0 f180 (rg_T5_2_0_1 t186) (by first | decide | omega) (by first | decide | omega) (by decide)
                have q253 : h78 ((h 61 1) + 5) 2 = h60 ((h 61 1) + 5) 2 := jK 0 f80 (rg_T5_2_0_1 t186) (by first | decide | omega) (by first | decide | omega) (by decide)
                have q254 : h60 ((h 61 1) + 5) 2 = h42 ((h 61 1) + 5) 2 := jK 0 f62 (rg_T5_2_0_1 t186) (by first | decide | omega) (by first | decide | omega) (by decide)
                have q255 : h42 ((h 61 1) + 5) 2 = h ((h 61 1) + 5) 2 := jK 0 f44 (rg_T5_2_0_1 t186) (by first | decide | omega) (by first | decide | omega) (by decide)
                have e256 : rv h178 4 = (h ((h 61 1) + 5) 2) := (congrArg (fun z => svq h178 z 4) (((q248.trans q249).trans q250).trans q251)).trans (((q252.trans q253).trans q254).trans q255)
                have b257 := jB (e := 2) 0 hJ (rg_T7_2_0_1 t186) (by first | decide | omega) (by first | decide | omega)
                have e258 : rv h 5 = (h ((h 61 1) + 7) 2) := (congrArg (fun z => svq h z 5) rfl).trans rfl
                have q259 : h178 61 1 = h78 61 1 := f180 61 1 (by decide +kernel)
                have q260 : h78 61 1 = h60 61 1 := f80 61 1 (by decide +kernel)
                have q261 : h60 61 1 = h42 61 1 := f62 61 1 (by decide +kernel)
                have q262 : h42 61 1 = h 61 1 := f44 61 1 (by decide +kernel)
                have q263 : h178 ((h 61 1) + 7) 2 = h78 ((h 61 1) + 7) 2 := jK 0 f180 (rg_T7_2_0_1 t186) (by first | decide | omega) (by first | decide | omega) (by decide)
                have q264 : h78 ((h 61 1) + 7) 2 = h60 ((h 61 1) + 7) 2 := jK 0 f80 (rg_T7_2_0_1 t186) (by first | decide | omega) (by first | decide | omega) (by decide)
                have q265 : h60 ((h 61 1) + 7) 2 = h42 ((h 61 1) + 7) 2 := jK 0 f62 (rg_T7_2_0_1 t186) (by first | decide | omega) (by first | decide | omega) (by decide)
                have q266 : h42 ((h 61 1) + 7) 2 = h ((h 61 1) + 7) 2 := jK 0 f44 (rg_T7_2_0_1 t186) (by first | decide | omega) (by first | decide | omega) (by decide)
                have e267 : rv h178 5 = (h ((h 61 1) + 7) 2) := (congrArg (fun z => svq h178 z 5) (((q259.trans q260).trans q261).trans q262)).trans (((q263.trans q264).trans q265).trans q266)
                have w268 : ¬ Wd tB tN 0 (h 1 2) := by rw [show h 1 2 = h 1 2 from rfl]; exact (Is.no c6 (by first | decide | omega))
                have w269 : ¬ Wd tB tN 6 (h 1 2) := by rw [show h 1 2 = h 1 2 from rfl]; exact (Is.no c16 (by first | decide | omega))
                have w270 : ¬ Wd tB tN 8 (h 1 2) := by rw [show h 1 2 = h 1 2 from rfl]; exact (Is.no c25 (by first | decide | omega))
                have w271 : ¬ Wd tB tN 13 (h 1 2) := by rw [show h 1 2 = h 1 2 from rfl]; exact (Is.no c34 (by first | decide | omega))
                obtain ⟨w272, e273⟩ := Tk.no c48 (by first | decide | omega)
                have w274 : ¬ Wd tB tN 17 (h 1 2) := by rw [show h 1 2 = h 1 2 from rfl]; exact w272
                obtain ⟨w275, e276⟩ := Tk.no c66 (by first | decide | omega)
                have w277 : ¬ Wd tB tN 19 (h 1 2) := by rw [show h 1 2 = h42 1 2 from (show h42 1 2 = h 1 2 by first | decide | omega).symm]; exact w275
                obtain ⟨w278, e279⟩ := Tk.yes c84 (by first | decide | omega)
                have m280 : Ot (h 61 1) h h42 := Ot.fr Ot.refl f44 (by decide)
                have m281 : Ot (h 61 1) h h60 := Ot.fr m280 f62 (by decide)
                have m282 : Ot (h 61 1) h h78 := Ot.fr m281 f80 (by decide)
                have m283 : Ot (h 61 1) h h178 := Ot.fr m282 f180 (by decide)
                refine x_retI (np := 259) (x := 0) (by decide +kernel) (by decide) (Or.inr ⟨by decide +kernel, by first | decide | omega, by first | decide | omega⟩) ⟨_, rfl, (by decide), ?_⟩
                exact ⟨j179, f183, (by first | decide | omega), (by first | decide | omega), (by first | decide | omega), (l9_court w278 (show h60 1 2 = h 1 2 by first | decide | omega) e279 rfl c182 (by first | decide | omega) (by first | decide | omega) (fun z => absurd z (by first | decide | omega))), m283, (fun z => absurd z (by first | decide | omega)), (fun z => absurd z (by first | decide | omega)), (fun z => absurd z (by first | decide | omega))⟩
              have q185 : ¬ (v174 = 2147483648) := q185
              refine x_const (np := 254) (x := 9223372043297226753) (a := 2147483649) (by decide +kernel) (by decide) (by decide) ?_
              refine x_goto (np := 257) (x := 258) (by decide +kernel) ?_
              have t284 : tw (h 61 1) := hJ.2.2.2.2.1
              have b285 := jB (e := 7) 0 hJ (rg_T0_7_0_1 t284) (by first | decide | omega) (by first | decide | omega)
              have e286 : rv h 0 = (h (h 61 1) 7) := (congrArg (fun z => svq h z 0) rfl).trans rfl
              have q287 : h178 61 1 = h78 61 1 := f180 61 1 (by decide +kernel)
              have q288 : h78 61 1 = h60 61 1 := f80 61 1 (by decide +kernel)
              have q289 : h60 61 1 = h42 61 1 := f62 61 1 (by decide +kernel)
              have q290 : h42 61 1 = h 61 1 := f44 61 1 (by decide +kernel)
              have q291 : h178 (h 61 1) 7 = h78 (h 61 1) 7 := jK 0 f180 (rg_T0_7_0_1 t284) (by first | decide | omega) (by first | decide | omega) (by decide)
              have q292 : h78 (h 61 1) 7 = h60 (h 61 1) 7 := jK 0 f80 (rg_T0_7_0_1 t284) (by first | decide | omega) (by first | decide | omega) (by decide)
              have q293 : h60 (h 61 1) 7 = h42 (h 61 1) 7 := jK 0 f62 (rg_T0_7_0_1 t284) (by first | decide | omega) (by first | decide | omega) (by decide)
              have q294 : h42 (h 61 1) 7 = h (h 61 1) 7 := jK 0 f44 (rg_T0_7_0_1 t284) (by first | decide | omega) (by first | decide | omega) (by decide)
              have e295 : rv h178 0 = (h (h 61 1) 7) := (congrArg (fun z => svq h178 z 0) (((q287.trans q288).trans q289).trans q290)).trans (((q291.trans q292).trans q293).trans q294)
              have e296 : rv h 1 = (h (h 61 1) 8) := (congrArg (fun z => svq h z 1) rfl).trans rfl
              have q297 : h178 61 1 = h78 61 1 := f180 61 1 (by decide +kernel)
              have q298 : h78 61 1 = h60 61 1 := f80 61 1 (by decide +kernel)
              have q299 : h60 61 1 = h42 61 1 := f62 61 1 (by decide +kernel)
              have q300 : h42 61 1 = h 61 1 := f44 61 1 (by decide +kernel)
              have q301 : h178 (h 61 1) 8 = h78 (h 61 1) 8 := jK 0 f180 (rg_T0_8_0_1 t284) (by first | decide | omega) (by first | decide | omega) (by decide)
              have q302 : h78 (h 61 1) 8 = h60 (h 61 1) 8 := jK 0 f80 (rg_T0_8_0_1 t284) (by first | decide | omega) (by first | decide | omega) (by decide)
              have q303 : h60 (h 61 1) 8 = h42 (h 61 1) 8 := jK 0 f62 (rg_T0_8_0_1 t284) (by first | decide | omega) (by first | decide | omega) (by decide)
              have q304 : h42 (h 61 1) 8 = h (h 61 1) 8 := jK 0 f44 (rg_T0_8_0_1 t284) (by first | decide | omega) (by first | decide | omega) (by decide)
              have e305 : rv h178 1 = (h (h 61 1) 8) := (congrArg (fun z => svq h178 z 1) (((q297.trans q298).trans q299).trans q300)).trans (((q301.trans q302).trans q303).trans q304)
              have q306 : h178 61 1 = h78 61 1 := f180 61 1 (by decide +kernel)
              have q307 : h78 61 1 = h60 61 1 := f80 61 1 (by decide +kernel)
              have q308 : h60 61 1 = h42 61 1 := f62 61 1 (by decide +kernel)
              have q309 : h42 61 1 = h 61 1 := f44 61 1 (by decide +kernel)
              have q310 : h178 (h 61 1) 7 = h78 (h 61 1) 7 := jK 0 f180 (rg_T0_7_0_1 t284) (by first | decide | omega) (by first | decide | omega) (by decide)
              have q311 : h78 (h 61 1) 7 = h60 (h 61 1) 7 := jK 0 f80 (rg_T0_7_0_1 t284) (by first | decide | omega) (by first | decide | omega) (by decide)
              have q312 : h60 (h 61 1) 7 = h42 (h 61 1) 7 := jK 0 f62 (rg_T0_7_0_1 t284) (by first | decide | omega) (by first | decide | omega) (by decide)
              have q313 : h42 (h 61 1) 7 = h (h 61 1) 7 := jK 0 f44 (rg_T0_7_0_1 t284) (by first | decide | omega) (by first | decide | omega) (by decide)
              have q314 : h178 61 1 = h78 61 1 := f180 61 1 (by decide +kernel)
              have q315 : h78 61 1 = h60 61 1 := f80 61 1 (by decide +kernel)
              have q316 : h60 61 1 = h42 61 1 := f62 61 1 (by decide +kernel)
              have q317 : h42 61 1 = h 61 1 := f44 61 1 (by decide +kernel)
              have q318 : h178 (h 61 1) 8 = h78 (h 61 1) 8 := jK 0 f180 (rg_T0_8_0_1 t284) (by first | decide | omega) (by first | decide | omega) (by decide)
              have q319 : h78 (h 61 1) 8 = h60 (h 61 1) 8 := jK 0 f80 (rg_T0_8_0_1 t284) (by first | decide | omega) (by first | decide | omega) (by decide)
              have q320 : h60 (h 61 1) 8 = h42 (h 61 1) 8 := jK 0 f62 (rg_T0_8_0_1 t284) (by first | decide | omega) (by first | decide | omega) (by decide)
              have q321 : h42 (h 61 1) 8 = h (h 61 1) 8 := jK 0 f44 (rg_T0_8_0_1 t284) (by first | decide | omega) (by first | decide | omega) (by decide)
              have b322 := jB (e := 2) 0 hJ (rg_T1_2_0_1 t284) (by first | decide | omega) (by first | decide | omega)
              have e323 : rv h 2 = (h ((h 61 1) + 1) 2) := (congrArg (fun z => svq h z 2) rfl).trans rfl
              have q324 : h178 61 1 = h78 61 1 := f180 61 1 (by decide +kernel)
              have q325 : h78 61 1 = h60 61 1 := f80 61 1 (by decide +kernel)
              have q326 : h60 61 1 = h42 61 1 := f62 61 1 (by decide +kernel)
              have q327 : h42 61 1 = h 61 1 := f44 61 1 (by decide +kernel)
              have q328 : h178 ((h 61 1) + 1) 2 = h78 ((h 61 1) + 1) 2 := jK 0 f180 (rg_T1_2_0_1 t284) (by first | decide | omega) (by first | decide | omega) (by decide)
              have q329 : h78 ((h 61 1) + 1) 2 = h60 ((h 61 1) + 1) 2 := jK 0 f80 (rg_T1_2_0_1 t284) (by first | decide | omega) (by first | decide | omega) (by decide)
              have q330 : h60 ((h 61 1) + 1) 2 = h42 ((h 61 1) + 1) 2 := jK 0 f62 (rg_T1_2_0_1 t284) (by first | decide | omega) (by first | decide | omega) (by decide)
              have q331 : h42 ((h 61 1) + 1) 2 = h ((h 61 1) + 1) 2 := jK 0 f44 (rg_T1_2_0_1 t284) (by first | decide | omega) (by first | decide | omega) (by decide)
              have e332 : rv h178 2 = (h ((h 61 1) + 1) 2) := (congrArg (fun z => svq h178 z 2) (((q324.trans q325).trans q326).trans q327)).trans (((q328.trans q329).trans q330).trans q331)
              have b333 := jB (e := 2) 0 hJ (rg_T3_2_0_1 t284) (by first | decide | omega) (by first | decide | omega)
              have e334 : rv h 3 = (h ((h 61 1) + 3) 2) := (congrArg (fun z => svq h z 3) rfl).trans rfl
              have q335 : h178 61 1 = h78 61 1 := f180 61 1 (by decide +kernel)
              have q336 : h78 61 1 = h60 61 1 := f80 61 1 (by decide +kernel)
              have q337 : h60 61 1 = h42 61 1 := f62 61 1 (by decide +kernel)
              have q338 : h42 61 1 = h 61 1 := f44 61 1 (by decide +kernel)
              have q339 : h178 ((h 61 1) + 3) 2 = h78 ((h 61 1) + 3) 2 := jK 0 f180 (rg_T3_2_0_1 t284) (by first | decide | omega) (by first | decide | omega) (by decide)
              have q340 : h78 ((h 61 1) + 3) 2 = h60 ((h 61 1) + 3) 2 := jK 0 f80 (rg_T3_2_0_1 t284) (by first | decide | omega) (by first | decide | omega) (by decide)
              have q341 : h60 ((h 61 1) + 3) 2 = h42 ((h 61 1) + 3) 2 := jK 0 f62 (rg_T3_2_0_1 t284) (by first | decide | omega) (by first | decide | omega) (by decide)
              have q342 : h42 ((h 61 1) + 3) 2 = h ((h 61 1) + 3) 2 := jK 0 f44 (rg_T3_2_0_1 t284) (by first | decide | omega) (by first | decide | omega) (by decide)
              have e343 : rv h178 3 = (h ((h 61 1) + 3) 2) := (congrArg (fun z => svq h178 z 3) (((q335.trans q336).trans q337).trans q338)).trans (((q339.trans q340).trans q341).trans q342)
              have b344 := jB (e := 2) 0 hJ (rg_T5_2_0_1 t284) (by first | decide | omega) (by first | decide | omega)
              have e345 : rv h 4 = (h ((h 61 1) + 5) 2) := (congrArg (fun z => svq h z 4) rfl).trans rfl
              have q346 : h178 61 1 = h78 61 1 := f180 61 1 (by decide +kernel)
              have q347 : h78 61 1 = h60 61 1 := f80 61 1 (by decide +kernel)
              have q348 : h60 61 1 = h42 61 1 := f62 61 1 (by decide +kernel)
              have q349 : h42 61 1 = h 61 1 := f44 61 1 (by decide +kernel)
              have q350 : h178 ((h 61 1) + 5) 2 = h78 ((h 61 1) + 5) 2 := jK 0 f180 (rg_T5_2_0_1 t284) (by first | decide | omega) (by first | decide | omega) (by decide)
              have q351 : h78 ((h 61 1) + 5) 2 = h60 ((h 61 1) + 5) 2 := jK 0 f80 (rg_T5_2_0_1 t284) (by first | decide | omega) (by first | decide | omega) (by decide)
              have q352 : h60 ((h 61 1) + 5) 2 = h42 ((h 61 1) + 5) 2 := jK 0 f62 (rg_T5_2_0_1 t284) (by first | decide | omega) (by first | decide | omega) (by decide)
              have q353 : h42 ((h 61 1) + 5) 2 = h ((h 61 1) + 5) 2 := jK 0 f44 (rg_T5_2_0_1 t284) (by first | decide | omega) (by first | decide | omega) (by decide)
              have e354 : rv h178 4 = (h ((h 61 1) + 5) 2) := (congrArg (fun z => svq h178 z 4) (((q346.trans q347).trans q348).trans q349)).trans (((q350.trans q351).trans q352).trans q353)
              have b355 := jB (e := 2) 0 hJ (rg_T7_2_0_1 t284) (by first | decide | omega) (by first | decide | omega)
              have e356 : rv h 5 = (h ((h 61 1) + 7) 2) := (congrArg (fun z => svq h z 5) rfl).trans rfl
              have q357 : h178 61 1 = h78 61 1 := f180 61 1 (by decide +kernel)
              have q358 : h78 61 1 = h60 61 1 := f80 61 1 (by decide +kernel)
              have q359 : h60 61 1 = h42 61 1 := f62 61 1 (by decide +kernel)
              have q360 : h42 61 1 = h 61 1 := f44 61 1 (by decide +kernel)
              have q361 : h178 ((h 61 1) + 7) 2 = h78 ((h 61 1) + 7) 2 := jK 0 f180 (rg_T7_2_0_1 t284) (by first | decide | omega) (by first | decide | omega) (by decide)
              have q362 : h78 ((h 61 1) + 7) 2 = h60 ((h 61 1) + 7) 2 := jK 0 f80 (rg_T7_2_0_1 t284) (by first | decide | omega) (by first | decide | omega) (by decide)
              have q363 : h60 ((h 61 1) + 7) 2 = h42 ((h 61 1) + 7) 2 := jK 0 f62 (rg_T7_2_0_1 t284) (by first | decide | omega) (by first | decide | omega) (by decide)
              have q364 : h42 ((h 61 1) + 7) 2 = h ((h 61 1) + 7) 2 := jK 0 f44 (rg_T7_2_0_1 t284) (by first | decide | omega) (by first | decide | omega) (by decide)
              have e365 : rv h178 5 = (h ((h 61 1) + 7) 2) := (congrArg (fun z => svq h178 z 5) (((q357.trans q358).trans q359).trans q360)).trans (((q361.trans q362).trans q363).trans q364)
              have w366 : ¬ Wd tB tN 0 (h 1 2) := by rw [show h 1 2 = h 1 2 from rfl]; exact (Is.no c6 (by first | decide | omega))
              have w367 : ¬ Wd tB tN 6 (h 1 2) := by rw [show h 1 2 = h 1 2 from rfl]; exact (Is.no c16 (by first | decide | omega))
              have w368 : ¬ Wd tB tN 8 (h 1 2) := by rw [show h 1 2 = h 1 2 from rfl]; exact (Is.no c25 (by first | decide | omega))
              have w369 : ¬ Wd tB tN 13 (h 1 2) := by rw [show h 1 2 = h 1 2 from rfl]; exact (Is.no c34 (by first | decide | omega))
              obtain ⟨w370, e371⟩ := Tk.no c48 (by first | decide | omega)
              have w372 : ¬ Wd tB tN 17 (h 1 2) := by rw [show h 1 2 = h 1 2 from rfl]; exact w370
              obtain ⟨w373, e374⟩ := Tk.no c66 (by first | decide | omega)
              have w375 : ¬ Wd tB tN 19 (h 1 2) := by rw [show h 1 2 = h42 1 2 from (show h42 1 2 = h 1 2 by first | decide | omega).symm]; exact w373
              obtain ⟨w376, e377⟩ := Tk.yes c84 (by first | decide | omega)
              have m378 : Ot (h 61 1) h h42 := Ot.fr Ot.refl f44 (by decide)
              have m379 : Ot (h 61 1) h h60 := Ot.fr m378 f62 (by decide)
              have m380 : Ot (h 61 1) h h78 := Ot.fr m379 f80 (by decide)
              have m381 : Ot (h 61 1) h h178 := Ot.fr m380 f180 (by decide)
              have q382 : h178 61 1 = h78 61 1 := f180 61 1 (by decide +kernel)
              have q383 : h78 61 1 = h60 61 1 := f80 61 1 (by decide +kernel)
              have q384 : h60 61 1 = h42 61 1 := f62 61 1 (by decide +kernel)
              have q385 : h42 61 1 = h 61 1 := f44 61 1 (by decide +kernel)
              have q386 : h178 ((h 61 1) + 3) 2 = h78 ((h 61 1) + 3) 2 := jK 0 f180 (rg_T3_2_0_1 t284) (by first | decide | omega) (by first | decide | omega) (by decide)
              have q387 : h78 ((h 61 1) + 3) 2 = h60 ((h 61 1) + 3) 2 := jK 0 f80 (rg_T3_2_0_1 t284) (by first | decide | omega) (by first | decide | omega) (by decide)
              have q388 : h60 ((h 61 1) + 3) 2 = h42 ((h 61 1) + 3) 2 := jK 0 f62 (rg_T3_2_0_1 t284) (by first | decide | omega) (by first | decide | omega) (by decide)
              have q389 : h42 ((h 61 1) + 3) 2 = h ((h 61 1) + 3) 2 := jK 0 f44 (rg_T3_2_0_1 t284) (by first | decide | omega) (by first | decide | omega) (by decide)
              have m390 : ∀ u, u < 10 → wq h178 (h 61 1) u = wq h (h 61 1) u := fun u hu => (Eq.trans (wq_gr t284 f180 (by decide) u hu) (Eq.trans (wq_gr t284 f80 (by decide) u hu) (Eq.trans (wq_gr t284 f62 (by decide) u hu) (wq_gr t284 f44 (by decide) u hu))))
              obtain ⟨w391, e392⟩ := Tk.yes c84 (by first | decide | omega)
              have m393 : ∀ u, u < 6 → xq h178 (h 61 1) u = xq h (h 61 1) u := fun u hu => (Eq.trans (xq_gr t284 f180 (by decide) u hu) (Eq.trans (xq_gr t284 f80 (by decide) u hu) (Eq.trans (xq_gr t284 f62 (by decide) u hu) (xq_gr t284 f44 (by decide) u hu))))
              obtain ⟨w394, e395⟩ := Tk.yes c84 (by first | decide | omega)
              have m396 : ∀ u, u < 10 → aq h178 (h 61 1) u = aq h (h 61 1) u := fun u hu => (Eq.trans (aq_gr t284 f180 (by decide) u hu) (Eq.trans (aq_gr t284 f80 (by decide) u hu) (Eq.trans (aq_gr t284 f62 (by decide) u hu) (aq_gr t284 f44 (by decide) u hu))))
              have m397 : ∀ u, u < 10 → bq h178 (h 61 1) u = bq h (h 61 1) u := fun u hu => (Eq.trans (bq_gr t284 f180 (by decide) u hu) (Eq.trans (bq_gr t284 f80 (by decide) u hu) (Eq.trans (bq_gr t284 f62 (by decide) u hu) (bq_gr t284 f44 (by decide) u hu))))
              refine x_retI (np := 259) (x := 0) (by decide +kernel) (by decide) (Or.inr ⟨by decide +kernel, by first | decide | omega, by first | decide | omega⟩) ⟨_, rfl, (by decide), ?_⟩
              exact ⟨j179, f183, (by first | decide | omega), (by first | decide | omega), (by first | decide | omega), (l9_court w376 (show h60 1 2 = h 1 2 by first | decide | omega) e377 rfl c182 (by first | decide | omega) (by first | decide | omega) (fun z => ⟨rfl, by first | decide | omega, by first | decide | omega, by first | decide | omega, by first | decide | omega⟩)), m381, (fun _ => Wl.refl (by first | decide | omega) m390), (fun _ => Lx.oth w391 (show h60 1 2 = h 1 2 by first | decide | omega) (by decide) (by decide) m393), (fun _ => Sl.oth w394 (show h60 1 2 = h 1 2 by first | decide | omega) (by decide) (by decide) (ab2 m396 m397))⟩
            have q71 : ¬ (v56 = 2147483648) := q71
            have b398 := c64 (by first | decide | omega)
            refine x_aload (np := 230) (x := 0) (by decide +kernel) rfl (x_nc_le (by decide)) ?_
            have m402 := Tp.fr m59 f62 (by decide) (by decide)
            refine x_cI (t := 6) (mj := 96) (n := 1) (rc := 10) (ml := 3) (nr := 0) (np := 233) (as := [x_r 61]) (rest := []) (lo1 := [x_r 61, 147573952589676412928, 147573952589676412928]) (by decide +kernel) (by decide) (by decide +kernel) (x_rb_of (by decide +kernel)) rfl rfl (x_wr (by decide) x_wn) x_wn (by decide) rfl (c96_61 j61  m402) (fun v399 h403 l400 q401 => ?_)
            obtain ⟨j404, f405, b406, c407, c408, c409⟩ := q401
            have f410 := Fr.trans f67 f405 (by decide)
            have q411 : h60 61 1 = h42 61 1 := f62 61 1 (by decide +kernel)
            have q412 : h42 61 1 = h 61 1 := f44 61 1 (by decide +kernel)
            have t413 : tw (h 61 1) := hJ.2.2.2.2.1
            have b414 := jB (e := 7) 0 hJ (rg_T0_7_0_1 t413) (by first | decide | omega) (by first | decide | omega)
            have e415 : rv h 0 = (h (h 61 1) 7) := (congrArg (fun z => svq h z 0) rfl).trans rfl
            have q416 : h403 61 1 = h60 61 1 := f405 61 1 (by decide +kernel)
            have q417 : h60 61 1 = h42 61 1 := f62 61 1 (by decide +kernel)
            have q418 : h42 61 1 = h 61 1 := f44 61 1 (by decide +kernel)
            have q419 : h403 (h 61 1) 7 = h60 (h 61 1) 7 := jK 0 f405 (rg_T0_7_0_1 t413) (by first | decide | omega) (by first | decide | omega) (by decide)
            have q420 : h60 (h 61 1) 7 = h42 (h 61 1) 7 := jK 0 f62 (rg_T0_7_0_1 t413) (by first | decide | omega) (by first | decide | omega) (by decide)
            have q421 : h42 (h 61 1) 7 = h (h 61 1) 7 := jK 0 f44 (rg_T0_7_0_1 t413) (by first | decide | omega) (by first | decide | omega) (by decide)
            have e422 : rv h403 0 = (h (h 61 1) 7) := (congrArg (fun z => svq h403 z 0) ((q416.trans q417).trans q418)).trans ((q419.trans q420).trans q421)
            have e423 : rv h 1 = (h (h 61 1) 8) := (congrArg (fun z => svq h z 1) rfl).trans rfl
            have q424 : h403 61 1 = h60 61 1 := f405 61 1 (by decide +kernel)
            have q425 : h60 61 1 = h42 61 1 := f62 61 1 (by decide +kernel)
            have q426 : h42 61 1 = h 61 1 := f44 61 1 (by decide +kernel)
            have q427 : h403 (h 61 1) 8 = h60 (h 61 1) 8 := jK 0 f405 (rg_T0_8_0_1 t413) (by first | decide | omega) (by first | decide | omega) (by decide)
            have q428 : h60 (h 61 1) 8 = h42 (h 61 1) 8 := jK 0 f62 (rg_T0_8_0_1 t413) (by first | decide | omega) (by first | decide | omega) (by decide)
            have q429 : h42 (h 61 1) 8 = h (h 61 1) 8 := jK 0 f44 (rg_T0_8_0_1 t413) (by first | decide | omega) (by first | decide | omega) (by decide)
            have e430 : rv h403 1 = (h (h 61 1) 8) := (congrArg (fun z => svq h403 z 1) ((q424.trans q425).trans q426)).trans ((q427.trans q428).trans q429)
            have q431 : h403 61 1 = h60 61 1 := f405 61 1 (by decide +kernel)
            have q432 : h60 61 1 = h42 61 1 := f62 61 1 (by decide +kernel)
            have q433 : h42 61 1 = h 61 1 := f44 61 1 (by decide +kernel)
            have q434 : h403 (h 61 1) 7 = h60 (h 61 1) 7 := jK 0 f405 (rg_T0_7_0_1 t413) (by first | decide | omega) (by first | decide | omega) (by decide)
            have q435 : h60 (h 61 1) 7 = h42 (h 61 1) 7 := jK 0 f62 (rg_T0_7_0_1 t413) (by first | decide | omega) (by first | decide | omega) (by decide)
            have q436 : h42 (h 61 1) 7 = h (h 61 1) 7 := jK 0 f44 (rg_T0_7_0_1 t413) (by first | decide | omega) (by first | decide | omega) (by decide)
            have q437 : h403 61 1 = h60 61 1 := f405 61 1 (by decide +kernel)
            have q438 : h60 61 1 = h42 61 1 := f62 61 1 (by decide +kernel)
            have q439 : h42 61 1 = h 61 1 := f44 61 1 (by decide +kernel)
            have q440 : h403 (h 61 1) 8 = h60 (h 61 1) 8 := jK 0 f405 (rg_T0_8_0_1 t413) (by first | decide | omega) (by first | decide | omega) (by decide)
            have q441 : h60 (h 61 1) 8 = h42 (h 61 1) 8 := jK 0 f62 (rg_T0_8_0_1 t413) (by first | decide | omega) (by first | decide | omega) (by decide)
            have q442 : h42 (h 61 1) 8 = h (h 61 1) 8 := jK 0 f44 (rg_T0_8_0_1 t413) (by first | decide | omega) (by first | decide | omega) (by decide)
            have b443 := jB (e := 2) 0 hJ (rg_T1_2_0_1 t413) (by first | decide | omega) (by first | decide | omega)
            have e444 : rv h 2 = (h ((h 61 1) + 1) 2) := (congrArg (fun z => svq h z 2) rfl).trans rfl
            have q445 : h403 61 1 = h60 61 1 := f405 61 1 (by decide +kernel)
            have q446 : h60 61 1 = h42 61 1 := f62 61 1 (by decide +kernel)
            have q447 : h42 61 1 = h 61 1 := f44 61 1 (by decide +kernel)
            have q448 : h403 ((h 61 1) + 1) 2 = h60 ((h 61 1) + 1) 2 := jK 0 f405 (rg_T1_2_0_1 t413) (by first | decide | omega) (by first | decide | omega) (by decide)
            have q449 : h60 ((h 61 1) + 1) 2 = h42 ((h 61 1) + 1) 2 := jK 0 f62 (rg_T1_2_0_1 t413) (by first | decide | omega) (by first | decide | omega) (by decide)
            have q450 : h42 ((h 61 1) + 1) 2 = h ((h 61 1) + 1) 2 := jK 0 f44 (rg_T1_2_0_1 t413) (by first | decide | omega) (by first | decide | omega) (by decide)
            have e451 : rv h403 2 = (h ((h 61 1) + 1) 2) := (congrArg (fun z => svq h403 z 2) ((q445.trans q446).trans q447)).trans ((q448.trans q449).trans q450)
            have b452 := jB (e := 2) 0 hJ (rg_T3_2_0_1 t413) (by first | decide | omega) (by first | decide | omega)
            have e453 : rv h 3 = (h ((h 61 1) + 3) 2) := (congrArg (fun z => svq h z 3) rfl).trans rfl
            have q454 : h403 61 1 = h60 61 1 := f405 61 1 (by decide +kernel)
            have q455 : h60 61 1 = h42 61 1 := f62 61 1 (by decide +kernel)
            have q456 : h42 61 1 = h 61 1 := f44 61 1 (by decide +kernel)
            have q457 : h403 ((h 61 1) + 3) 2 = h60 ((h 61 1) + 3) 2 := jK 0 f405 (rg_T3_2_0_1 t413) (by first | decide | omega) (by first | decide | omega) (by decide)
            have q458 : h60 ((h 61 1) + 3) 2 = h42 ((h 61 1) + 3) 2 := jK 0 f62 (rg_T3_2_0_1 t413) (by first | decide | omega) (by first | decide | omega) (by decide)
            have q459 : h42 ((h 61 1) + 3) 2 = h ((h 61 1) + 3) 2 := jK 0 f44 (rg_T3_2_0_1 t413) (by first | decide | omega) (by first | decide | omega) (by decide)
            have e460 : rv h403 3 = (h ((h 61 1) + 3) 2) := (congrArg (fun z => svq h403 z 3) ((q454.trans q455).trans q456)).trans ((q457.trans q458).trans q459)
            have b461 := jB (e := 2) 0 hJ (rg_T5_2_0_1 t413) (by first | decide | omega) (by first | decide | omega)
            have e462 : rv h 4 = (h ((h 61 1) + 5) 2) := (congrArg (fun z => svq h z 4) rfl).trans rfl
            have q463 : h403 61 1 = h60 61 1 := f405 61 1 (by decide +kernel)
            have q464 : h60 61 1 = h42 61 1 := f62 61 1 (by decide +kernel)
            have q465 : h42 61 1 = h 61 1 := f44 61 1 (by decide +kernel)
            have q466 : h403 ((h 61 1) + 5) 2 = h60 ((h 61 1) + 5) 2 := jK 0 f405 (rg_T5_2_0_1 t413) (by first | decide | omega) (by first | decide | omega) (by decide)
            have q467 : h60 ((h 61 1) + 5) 2 = h42 ((h 61 1) + 5) 2 := jK 0 f62 (rg_T5_2_0_1 t413) (by first | decide | omega) (by first | decide | omega) (by decide)
            have q468 : h42 ((h 61 1) + 5) 2 = h ((h 61 1) + 5) 2 := jK 0 f44 (rg_T5_2_0_1 t413) (by first | decide | omega) (by first | decide | omega) (by decide)
            have e469 : rv h403 4 = (h ((h 61 1) + 5) 2) := (congrArg (fun z => svq h403 z 4) ((q463.trans q464).trans q465)).trans ((q466.trans q467).trans q468)
            have b470 := jB (e := 2) 0 hJ (rg_T7_2_0_1 t413) (by first | decide | omega) (by first | decide | omega)
            have e471 : rv h 5 = (h ((h 61 1) + 7) 2) := (congrArg (fun z => svq h z 5) rfl).trans rfl
            have q472 : h403 61 1 = h60 61 1 := f405 61 1 (by decide +kernel)
            have q473 : h60 61 1 = h42 61 1 := f62 61 1 (by decide +kernel)
            have q474 : h42 61 1 = h 61 1 := f44 61 1 (by decide +kernel)
            have q475 : h403 ((h 61 1) + 7) 2 = h60 ((h 61 1) + 7) 2 := jK 0 f405 (rg_T7_2_0_1 t413) (by first | decide | omega) (by first | decide | omega) (by decide)
            have q476 : h60 ((h 61 1) + 7) 2 = h42 ((h 61 1) + 7) 2 := jK 0 f62 (rg_T7_2_0_1 t413) (by first | decide | omega) (by first | decide | omega) (by decide)
            have q477 : h42 ((h 61 1) + 7) 2 = h ((h 61 1) + 7) 2 := jK 0 f44 (rg_T7_2_0_1 t413) (by first | decide | omega) (by first | decide | omega) (by decide)
            have e478 : rv h403 5 = (h ((h 61 1) + 7) 2) := (congrArg (fun z => svq h403 z 5) ((q472.trans q473).trans q474)).trans ((q475.trans q476).trans q477)
            have w479 : ¬ Wd tB tN 0 (h 1 2) := by rw [show h 1 2 = h 1 2 from rfl]; exact (Is.no c6 (by first | decide | omega))
            have w480 : ¬ Wd tB tN 6 (h 1 2) := by rw [show h 1 2 = h 1 2 from rfl]; exact (Is.no c16 (by first | decide | omega))
            have w481 : ¬ Wd tB tN 8 (h 1 2) := by rw [show h 1 2 = h 1 2 from rfl]; exact (Is.no c25 (by first | decide | omega))
            have w482 : ¬ Wd tB tN 13 (h 1 2) := by rw [show h 1 2 = h 1 2 from rfl]; exact (Is.no c34 (by first | decide | omega))
            obtain ⟨w483, e484⟩ := Tk.no c48 (by first | decide | omega)
            have w485 : ¬ Wd tB tN 17 (h 1 2) := by rw [show h 1 2 = h 1 2 from rfl]; exact w483
            obtain ⟨w486, e487⟩ := Tk.yes c66 (by first | decide | omega)
            have q488 : h60 61 1 = h42 61 1 := f62 61 1 (by decide +kernel)
            have q489 : h42 61 1 = h 61 1 := f44 61 1 (by decide +kernel)
            have q490 : h60 (h 61 1) 7 = h42 (h 61 1) 7 := jK 0 f62 (rg_T0_7_0_1 t413) (by first | decide | omega) (by first | decide | omega) (by decide)
            have q491 : h42 (h 61 1) 7 = h (h 61 1) 7 := jK 0 f44 (rg_T0_7_0_1 t413) (by first | decide | omega) (by first | decide | omega) (by decide)
            have e492 : rv h60 0 = (h (h 61 1) 7) := (congrArg (fun z => svq h60 z 0) (q488.trans q489)).trans (q490.trans q491)
            have k493 : dies9 tB tN (rv h 0) (h60 1 2) (rs v399 (h403 1 2)) := by rw [show rv h 0 = rv h60 0 by first | decide | omega]; exact c407
            have m494 : Ot (h 61 1) h h42 := Ot.fr Ot.refl f44 (by decide)
            have m495 : Ot (h 61 1) h h60 := Ot.fr m494 f62 (by decide)
            have m496 : Ot (h 61 1) h h403 := Ot.trans m495 (Ot.cast c408 (q411.trans q412))
            have q497 : h403 61 1 = h60 61 1 := f405 61 1 (by decide +kernel)
            have q498 : h60 61 1 = h42 61 1 := f62 61 1 (by decide +kernel)
            have q499 : h42 61 1 = h 61 1 := f44 61 1 (by decide +kernel)
            have q500 : h403 ((h 61 1) + 3) 2 = h60 ((h 61 1) + 3) 2 := jK 0 f405 (rg_T3_2_0_1 t413) (by first | decide | omega) (by first | decide | omega) (by decide)
            have q501 : h60 ((h 61 1) + 3) 2 = h42 ((h 61 1) + 3) 2 := jK 0 f62 (rg_T3_2_0_1 t413) (by first | decide | omega) (by first | decide | omega) (by decide)
            have q502 : h42 ((h 61 1) + 3) 2 = h ((h 61 1) + 3) 2 := jK 0 f44 (rg_T3_2_0_1 t413) (by first | decide | omega) (by first | decide | omega) (by decide)
            have m503 : ∀ u, u < 10 → wq h403 (h 61 1) u = wq h (h 61 1) u := fun u hu => (Eq.trans (wq_gr t413 f405 (by decide) u hu) (Eq.trans (wq_gr t413 f62 (by decide) u hu) (wq_gr t413 f44 (by decide) u hu)))
            obtain ⟨w504, e505⟩ := Tk.yes c66 (by first | decide | omega)
            have q506 : h60 61 1 = h42 61 1 := f62 61 1 (by decide +kernel)
            have q507 : h42 61 1 = h 61 1 := f44 61 1 (by decide +kernel)
            have q508 : h60 (h 61 1) 7 = h42 (h 61 1) 7 := jK 0 f62 (rg_T0_7_0_1 t413) (by first | decide | omega) (by first | decide | omega) (by decide)
            have q509 : h42 (h 61 1) 7 = h (h 61 1) 7 := jK 0 f44 (rg_T0_7_0_1 t413) (by first | decide | omega) (by first | decide | omega) (by decide)
            have q510 : h60 61 1 = h42 61 1 := f62 61 1 (by decide +kernel)
            have q511 : h42 61 1 = h 61 1 := f44 61 1 (by decide +kernel)
            have m512 : ∀ u, u < 6 → xq h60 (h 61 1) u = xq h (h 61 1) u := fun u hu => (Eq.trans (xq_gr t413 f62 (by decide) u hu) (xq_gr t413 f44 (by decide) u hu))
            obtain ⟨w513, e514⟩ := Tk.yes c66 (by first | decide | omega)
            have m515 : ∀ u, u < 10 → aq h403 (h 61 1) u = aq h (h 61 1) u := fun u hu => (Eq.trans (aq_gr t413 f405 (by decide) u hu) (Eq.trans (aq_gr t413 f62 (by decide) u hu) (aq_gr t413 f44 (by decide) u hu)))
            have m516 : ∀ u, u < 10 → bq h403 (h 61 1) u = bq h (h 61 1) u := fun u hu => (Eq.trans (bq_gr t413 f405 (by decide) u hu) (Eq.trans (bq_gr t413 f62 (by decide) u hu) (bq_gr t413 f44 (by decide) u hu)))
            refine x_retI (np := 234) (x := 0) (by decide +kernel) l400 (Or.inr ⟨by decide +kernel, by first | decide | omega, by first | decide | omega⟩) ⟨_, rfl, l400, ?_⟩
            exact ⟨j404, f410, (by first | decide | omega), (by first | decide | omega), (by first | decide | omega), (l9_dies w486 (show h42 1 2 = h 1 2 by first | decide | omega) e487 rfl k493 (by first | decide | omega) (by first | decide | omega) (fun z => ⟨rfl, by first | decide | omega, by first | decide | omega, by first | decide | omega, by first | decide | omega⟩)), m496, (fun _ => Wl.refl (by first | decide | omega) m503), (fun _ => (Lx.cst (Lx.dies w504 (show h42 1 2 = h 1 2 by first | decide | omega) e505 rfl (Dx.bs (c409 (by first | decide | omega)) (q510.trans q511))) (by first | decide | omega)).mp m512 (fun _ _ => rfl)), (fun _ => Sl.oth w513 (show h42 1 2 = h 1 2 by first | decide | omega) (by decide) (by decide) (ab2 m515 m516))⟩
          have q53 : ¬ (v39 = 2147483648) := q53
          have b517 := c46 (by first | decide | omega)
          refine x_aload (np := 213) (x := 0) (by decide +kernel) rfl (x_nc_le (by decide)) ?_
          have m521 := Tp.fr hT f44 (by decide) (by decide)
          refine x_cI (t := 6) (mj := 95) (n := 1) (rc := 10) (ml := 2) (nr := 0) (np := 216) (as := [x_r 61]) (rest := []) (lo1 := [x_r 61, 147573952589676412928]) (by decide +kernel) (by decide) (by decide +kernel) (x_rb_of (by decide +kernel)) rfl rfl (x_wr (by decide) x_wn) x_wn (by decide) rfl (c95_61 j43  m521) (fun v518 h522 l519 q520 => ?_)
          obtain ⟨j523, f524, b525, c526⟩ := q520
          have f527 := Fr.trans f49 f524 (by decide)
          have t528 : tw (h 61 1) := hJ.2.2.2.2.1
          have b529 := jB (e := 7) 0 hJ (rg_T0_7_0_1 t528) (by first | decide | omega) (by first | decide | omega)
          have e530 : rv h 0 = (h (h 61 1) 7) := (congrArg (fun z => svq h z 0) rfl).trans rfl
          have q531 : h522 61 1 = h42 61 1 := f524 61 1 (by decide +kernel)
          have q532 : h42 61 1 = h 61 1 := f44 61 1 (by decide +kernel)
          have q533 : h522 (h 61 1) 7 = h42 (h 61 1) 7 := jK 0 f524 (rg_T0_7_0_1 t528) (by first | decide | omega) (by first | decide | omega) (by decide)
          have q534 : h42 (h 61 1) 7 = h (h 61 1) 7 := jK 0 f44 (rg_T0_7_0_1 t528) (by first | decide | omega) (by first | decide | omega) (by decide)
          have e535 : rv h522 0 = (h (h 61 1) 7) := (congrArg (fun z => svq h522 z 0) (q531.trans q532)).trans (q533.trans q534)
          have e536 : rv h 1 = (h (h 61 1) 8) := (congrArg (fun z => svq h z 1) rfl).trans rfl
          have q537 : h522 61 1 = h42 61 1 := f524 61 1 (by decide +kernel)
          have q538 : h42 61 1 = h 61 1 := f44 61 1 (by decide +kernel)
          have q539 : h522 (h 61 1) 8 = h42 (h 61 1) 8 := jK 0 f524 (rg_T0_8_0_1 t528) (by first | decide | omega) (by first | decide | omega) (by decide)
          have q540 : h42 (h 61 1) 8 = h (h 61 1) 8 := jK 0 f44 (rg_T0_8_0_1 t528) (by first | decide | omega) (by first | decide | omega) (by decide)
          have e541 : rv h522 1 = (h (h 61 1) 8) := (congrArg (fun z => svq h522 z 1) (q537.trans q538)).trans (q539.trans q540)
          have q542 : h522 61 1 = h42 61 1 := f524 61 1 (by decide +kernel)
          have q543 : h42 61 1 = h 61 1 := f44 61 1 (by decide +kernel)
          have q544 : h522 (h 61 1) 7 = h42 (h 61 1) 7 := jK 0 f524 (rg_T0_7_0_1 t528) (by first | decide | omega) (by first | decide | omega) (by decide)
          have q545 : h42 (h 61 1) 7 = h (h 61 1) 7 := jK 0 f44 (rg_T0_7_0_1 t528) (by first | decide | omega) (by first | decide | omega) (by decide)
          have q546 : h522 61 1 = h42 61 1 := f524 61 1 (by decide +kernel)
          have q547 : h42 61 1 = h 61 1 := f44 61 1 (by decide +kernel)
          have q548 : h522 (h 61 1) 8 = h42 (h 61 1) 8 := jK 0 f524 (rg_T0_8_0_1 t528) (by first | decide | omega) (by first | decide | omega) (by decide)
          have q549 : h42 (h 61 1) 8 = h (h 61 1) 8 := jK 0 f44 (rg_T0_8_0_1 t528) (by first | decide | omega) (by first | decide | omega) (by decide)
          have b550 := jB (e := 2) 0 hJ (rg_T1_2_0_1 t528) (by first | decide | omega) (by first | decide | omega)
          have e551 : rv h 2 = (h ((h 61 1) + 1) 2) := (congrArg (fun z => svq h z 2) rfl).trans rfl
          have q552 : h522 61 1 = h42 61 1 := f524 61 1 (by decide +kernel)
          have q553 : h42 61 1 = h 61 1 := f44 61 1 (by decide +kernel)
          have q554 : h522 ((h 61 1) + 1) 2 = h42 ((h 61 1) + 1) 2 := jK 0 f524 (rg_T1_2_0_1 t528) (by first | decide | omega) (by first | decide | omega) (by decide)
          have q555 : h42 ((h 61 1) + 1) 2 = h ((h 61 1) + 1) 2 := jK 0 f44 (rg_T1_2_0_1 t528) (by first | decide | omega) (by first | decide | omega) (by decide)
          have e556 : rv h522 2 = (h ((h 61 1) + 1) 2) := (congrArg (fun z => svq h522 z 2) (q552.trans q553)).trans (q554.trans q555)
          have b557 := jB (e := 2) 0 hJ (rg_T3_2_0_1 t528) (by first | decide | omega) (by first | decide | omega)
          have e558 : rv h 3 = (h ((h 61 1) + 3) 2) := (congrArg (fun z => svq h z 3) rfl).trans rfl
          have q559 : h522 61 1 = h42 61 1 := f524 61 1 (by decide +kernel)
          have q560 : h42 61 1 = h 61 1 := f44 61 1 (by decide +kernel)
          have q561 : h522 ((h 61 1) + 3) 2 = h42 ((h 61 1) + 3) 2 := jK 0 f524 (rg_T3_2_0_1 t528) (by first | decide | omega) (by first | decide | omega) (by decide)
          have q562 : h42 ((h 61 1) + 3) 2 = h ((h 61 1) + 3) 2 := jK 0 f44 (rg_T3_2_0_1 t528) (by first | decide | omega) (by first | decide | omega) (by decide)
          have e563 : rv h522 3 = (h ((h 61 1) + 3) 2) := (congrArg (fun z => svq h522 z 3) (q559.trans q560)).trans (q561.trans q562)
          have b564 := jB (e := 2) 0 hJ (rg_T5_2_0_1 t528) (by first | decide | omega) (by first | decide | omega)
          have e565 : rv h 4 = (h ((h 61 1) + 5) 2) := (congrArg (fun z => svq h z 4) rfl).trans rfl
          have q566 : h522 61 1 = h42 61 1 := f524 61 1 (by decide +kernel)
          have q567 : h42 61 1 = h 61 1 := f44 61 1 (by decide +kernel)
          have q568 : h522 ((h 61 1) + 5) 2 = h42 ((h 61 1) + 5) 2 := jK 0 f524 (rg_T5_2_0_1 t528) (by first | decide | omega) (by first | decide | omega) (by decide)
          have q569 : h42 ((h 61 1) + 5) 2 = h ((h 61 1) + 5) 2 := jK 0 f44 (rg_T5_2_0_1 t528) (by first | decide | omega) (by first | decide | omega) (by decide)
          have e570 : rv h522 4 = (h ((h 61 1) + 5) 2) := (congrArg (fun z => svq h522 z 4) (q566.trans q567)).trans (q568.trans q569)
          have b571 := jB (e := 2) 0 hJ (rg_T7_2_0_1 t528) (by first | decide | omega) (by first | decide | omega)
          have e572 : rv h 5 = (h ((h 61 1) + 7) 2) := (congrArg (fun z => svq h z 5) rfl).trans rfl
          have q573 : h522 61 1 = h42 61 1 := f524 61 1 (by decide +kernel)
          have q574 : h42 61 1 = h 61 1 := f44 61 1 (by decide +kernel)
          have q575 : h522 ((h 61 1) + 7) 2 = h42 ((h 61 1) + 7) 2 := jK 0 f524 (rg_T7_2_0_1 t528) (by first | decide | omega) (by first | decide | omega) (by decide)
          have q576 : h42 ((h 61 1) + 7) 2 = h ((h 61 1) + 7) 2 := jK 0 f44 (rg_T7_2_0_1 t528) (by first | decide | omega) (by first | decide | omega) (by decide)
          have e577 : rv h522 5 = (h ((h 61 1) + 7) 2) := (congrArg (fun z => svq h522 z 5) (q573.trans q574)).trans (q575.trans q576)
          have w578 : ¬ Wd tB tN 0 (h 1 2) := by rw [show h 1 2 = h 1 2 from rfl]; exact (Is.no c6 (by first | decide | omega))
          have w579 : ¬ Wd tB tN 6 (h 1 2) := by rw [show h 1 2 = h 1 2 from rfl]; exact (Is.no c16 (by first | decide | omega))
          have w580 : ¬ Wd tB tN 8 (h 1 2) := by rw [show h 1 2 = h 1 2 from rfl]; exact (Is.no c25 (by first | decide | omega))
          have w581 : ¬ Wd tB tN 13 (h 1 2) := by rw [show h 1 2 = h 1 2 from rfl]; exact (Is.no c34 (by first | decide | omega))
          obtain ⟨w582, e583⟩ := Tk.yes c48 (by first | decide | omega)
          have q584 : h42 61 1 = h 61 1 := f44 61 1 (by decide +kernel)
          have q585 : h42 ((h 61 1) + 1) 2 = h ((h 61 1) + 1) 2 := jK 0 f44 (rg_T1_2_0_1 t528) (by first | decide | omega) (by first | decide | omega) (by decide)
          have e586 : rv h42 2 = (h ((h 61 1) + 1) 2) := (congrArg (fun z => svq h42 z 2) q584).trans q585
          have k587 : late9 tB tN (rv h 2) (h42 1 2) (rs v518 (h522 1 2)) := by rw [show rv h 2 = rv h42 2 by first | decide | omega]; exact c526
          have m588 : Ot (h 61 1) h h42 := Ot.fr Ot.refl f44 (by decide)
          have m589 : Ot (h 61 1) h h522 := Ot.fr m588 f524 (by decide)
          have q590 : h522 61 1 = h42 61 1 := f524 61 1 (by decide +kernel)
          have q591 : h42 61 1 = h 61 1 := f44 61 1 (by decide +kernel)
          have q592 : h522 ((h 61 1) + 3) 2 = h42 ((h 61 1) + 3) 2 := jK 0 f524 (rg_T3_2_0_1 t528) (by first | decide | omega) (by first | decide | omega) (by decide)
          have q593 : h42 ((h 61 1) + 3) 2 = h ((h 61 1) + 3) 2 := jK 0 f44 (rg_T3_2_0_1 t528) (by first | decide | omega) (by first | decide | omega) (by decide)
          have m594 : ∀ u, u < 10 → wq h522 (h 61 1) u = wq h (h 61 1) u := fun u hu => (Eq.trans (wq_gr t528 f524 (by decide) u hu) (wq_gr t528 f44 (by decide) u hu))
          obtain ⟨w595, e596⟩ := Tk.yes c48 (by first | decide | omega)
          have m597 : ∀ u, u < 6 → xq h522 (h 61 1) u = xq h (h 61 1) u := fun u hu => (Eq.trans (xq_gr t528 f524 (by decide) u hu) (xq_gr t528 f44 (by decide) u hu))
          obtain ⟨w598, e599⟩ := Tk.yes c48 (by first | decide | omega)
          have m600 : ∀ u, u < 10 → aq h522 (h 61 1) u = aq h (h 61 1) u := fun u hu => (Eq.trans (aq_gr t528 f524 (by decide) u hu) (aq_gr t528 f44 (by decide) u hu))
          have m601 : ∀ u, u < 10 → bq h522 (h 61 1) u = bq h (h 61 1) u := fun u hu => (Eq.trans (bq_gr t528 f524 (by decide) u hu) (bq_gr t528 f44 (by decide) u hu))
          refine x_retI (np := 217) (x := 0) (by decide +kernel) l519 (Or.inr ⟨by decide +kernel, by first | decide | omega, by first | decide | omega⟩) ⟨_, rfl, l519, ?_⟩
          exact ⟨j523, f527, (by first | decide | omega), (by first | decide | omega), (by first | decide | omega), (l9_late w582 rfl e583 rfl k587 (by first | decide | omega) (by first | decide | omega) (fun z => ⟨rfl, by first | decide | omega, by first | decide | omega, by first | decide | omega, by first | decide | omega⟩)), m589, (fun _ => Wl.refl (by first | decide | omega) m594), (fun _ => Lx.oth w595 rfl (by decide) (by decide) m597), (fun _ => Sl.oth w598 rfl (by decide) (by decide) (ab2 m600 m601))⟩
        have q37 : ¬ (v30 = 2147483648) := q37
        have b602 := c33 (by first | decide | omega)
        refine x_aload (np := 163) (x := 0) (by decide +kernel) rfl (x_nc_le (by decide)) ?_
        have t603 : tw (h 61 1) := hJ.2.2.2.2.1
        refine x_getR (np := 166) (x := 577) (f := 1) (q := (h 61 1)) (by decide +kernel) (by decide) (by decide +kernel) rfl ?_
        have q604 : h (h 61 1) 3 = ((h 61 1) + 7) := tf_0_3 hJ t603
        refine x_getR (np := 169) (x := 515) (f := 3) (q := ((h 61 1) + 7)) (by decide +kernel) (by decide) (tg_0_515_3_1 t603) q604 ?_
        refine x_nI (t := 6) (mj := 66) (n := 1) (rc := 7) (ml := 1) (nr := 0) (np := 172) (as := [x_r ((h 61 1) + 7)]) (rest := []) (lo1 := [x_r ((h 61 1) + 7)]) (by decide +kernel) (by decide) (by decide +kernel) (x_rb_of (tr_7_7 t603)) rfl rfl (x_wr (tn_7 t603) x_wn) x_wn (by decide) rfl ?_
        refine x_aload (np := 1) (x := 0) (by decide +kernel) rfl (x_nc_le (tn_7 t603)) ?_
        have b605 := jB (e := 2) 0 hJ (rg_T7_2_0_1 t603) (by first | decide | omega) (by first | decide | omega)
        refine x_getC (np := 4) (x := 386) (f := 2) (q := (h ((h 61 1) + 7) 2)) (by decide +kernel) (by decide) (tg_7_386_2_0 t603) rfl (fun l606 => ?_)
        refine x_const (np := 5) (x := 9223372043297226753) (a := 2147483649) (by decide +kernel) (by decide) (by decide) ?_
        refine x_iadd (np := 6) (x := 0) (v := (1 + (h ((h 61 1) + 7) 2))) (by decide +kernel) l606 (by decide) (by first | decide | omega) (by first | decide | omega) ?_
        refine x_aload (np := 7) (x := 0) (by decide +kernel) rfl (x_nc_le (tn_7 t603)) ?_
        have b607 := jB (e := 0) 0 hJ (rg_T7_0_0_1 t603) (by first | decide | omega) (by first | decide | omega)
        have q608 : (h ((h 61 1) + 7) 0) = 2147483652 := by first | decide | omega
        refine x_getC (np := 10) (x := 384) (f := 0) (q := 2147483652) (by decide +kernel) (by decide) (tg_7_384_0_0 t603) q608 (fun l609 => ?_)
        obtain ⟨u610, q611⟩ : ∃ z, (h ((h 61 1) + 7) 2) = 2147483648 + z := ⟨(h ((h 61 1) + 7) 2) - 2147483648, by first | decide | omega⟩
        refine x_imul (np := 11) (x := 0) (i := (1 + u610)) (j := 4) (v := (2147483652 + 4 * u610)) (by decide +kernel) (by first | decide | omega) (by first | decide | omega) (by first | decide | omega) (by first | decide | omega) (by first | decide | omega) (by decide) ?_
        refine x_aload (np := 12) (x := 0) (by decide +kernel) rfl (x_nc_le (tn_7 t603)) ?_
        have q613 : h ((h 61 1) + 7) 1 = ((h 61 1) + 8) := tf_7_1 hJ t603
        refine x_getR (np := 15) (x := 385) (f := 1) (q := ((h 61 1) + 8)) (by decide +kernel) (by decide) (tg_7_385_1_1 t603) q613 ?_
        refine x_alen (np := 16) (x := 0) (n := 40) (by decide +kernel) (tn_8 t603) (tl_8 t603).1 (tl_8 t603).2 (by decide) ?_
        show X _ _ _ _ _ _ _ _ [iv_c 2147483688, iv_c (2147483652 + 4 * u610)] _
        refine x_icmp (k := 5) (tg := 23) (np := 19) (by decide +kernel) (by decide) (by first | decide | omega) (by decide) (fun q614 => ?_) (fun q615 => ?_)
        · have q614 : (2147483652 + 4 * u610) ≤ 2147483688 := q614
          refine x_const (np := 24) (x := 9223372039002259456) (a := 2147483648) (by decide +kernel) (by decide) (by decide) ?_
          refine x_retI (np := 25) (x := 0) (by decide +kernel) (by decide) (Or.inr ⟨by decide +kernel, by first | decide | omega, by first | decide | omega⟩) ⟨_, rfl, (by decide), ?_⟩
          refine x_ifz (k := 1) (tg := 198) (np := 175) (by decide +kernel) (by decide) (by decide) (fun q616 => ?_) (fun q617 => ?_)
          · have q616 : 2147483648 ≠ 2147483648 := q616
            exfalso; omega
          have q617 : ¬ (2147483648 ≠ 2147483648) := q617
          refine x_aload (np := 176) (x := 0) (by decide +kernel) rfl (x_nc_le (by decide)) ?_
          have q618 : h 61 0 = 1 := by have z := jB (e := 0) 0 hJ rg_61_0_0_1 (by decide) (by decide); omega
          refine x_getR (np := 179) (x := 576) (f := 0) (q := 1) (by decide +kernel) (by decide) (by decide +kernel) q618 ?_
          refine x_ldcB (i := 13) (idx := 74) (tx := "seen") (by rw [tb_y93]; exact List.mem_of_getElem? (i := 13) rfl) (by decide) (by rw [tb_b93]; decide +kernel) ?_
          refine x_cI (t := 6) (mj := 78) (n := 2) (rc := 8) (ml := 2) (nr := 0) (np := 184) (as := [x_r 1, x_b (13 + 1)]) (rest := []) (lo1 := [x_r 1, x_b (13 + 1)]) (by decide +kernel) (by decide) (by decide +kernel) (x_rb_of (by decide +kernel)) rfl rfl (x_wr (by decide) (x_wB (by decide) x_wn)) x_wn (by decide) rfl (c78_1_S0 hJ  (by decide) hT) (fun v619 h622 l620 q621 => ?_)
          obtain ⟨j623, f624, b625, c626, c627, c628⟩ := q621
          have f629 := Fr.trans hF f624 (by decide)
          have b630 := jB (e := 2) 0 j623 rg_1_2_0_1 (by first | decide | omega) (by first | decide | omega)
          have b631 : iv_tl 13 = 4 := by decide
          refine x_ifz (k := 0) (tg := 198) (np := 187) (by decide +kernel) (by decide) l620 (fun q632 => ?_) (fun q633 => ?_)
          · have q632 : v619 = 2147483648 := q632
            have b634 := c627 (by first | decide | omega)
            refine x_const (np := 199) (x := 9223372039002259456) (a := 2147483648) (by decide +kernel) (by decide) (by decide) ?_
            have b635 := jB (e := 7) 0 hJ (rg_T0_7_0_1 t603) (by first | decide | omega) (by first | decide | omega)
            have e636 : rv h 0 = (h (h 61 1) 7) := (congrArg (fun z => svq h z 0) rfl).trans rfl
            have q637 : h622 61 1 = h 61 1 := f624 61 1 (by decide +kernel)
            have q638 : h622 (h 61 1) 7 = h (h 61 1) 7 := jK 0 f624 (rg_T0_7_0_1 t603) (by first | decide | omega) (by first | decide | omega) (by decide)
            have e639 : rv h622 0 = (h (h 61 1) 7) := (congrArg (fun z => svq h622 z 0) q637).trans q638
            have e640 : rv h 1 = (h (h 61 1) 8) := (congrArg (fun z => svq h z 1) rfl).trans rfl
            have q641 : h622 61 1 = h 61 1 := f624 61 1 (by decide +kernel)
            have q642 : h622 (h 61 1) 8 = h (h 61 1) 8 := jK 0 f624 (rg_T0_8_0_1 t603) (by first | decide | omega) (by first | decide | omega) (by decide)
            have e643 : rv h622 1 = (h (h 61 1) 8) := (congrArg (fun z => svq h622 z 1) q641).trans q642
            have q644 : h622 61 1 = h 61 1 := f624 61 1 (by decide +kernel)
            have q645 : h622 (h 61 1) 7 = h (h 61 1) 7 := jK 0 f624 (rg_T0_7_0_1 t603) (by first | decide | omega) (by first | decide | omega) (by decide)
            have q646 : h622 61 1 = h 61 1 := f624 61 1 (by decide +kernel)
            have q647 : h622 (h 61 1) 8 = h (h 61 1) 8 := jK 0 f624 (rg_T0_8_0_1 t603) (by first | decide | omega) (by first | decide | omega) (by decide)
            have b648 := jB (e := 2) 0 hJ (rg_T1_2_0_1 t603) (by first | decide | omega) (by first | decide | omega)
            have e649 : rv h 2 = (h ((h 61 1) + 1) 2) := (congrArg (fun z => svq h z 2) rfl).trans rfl
            have q650 : h622 61 1 = h 61 1 := f624 61 1 (by decide +kernel)
            have q651 : h622 ((h 61 1) + 1) 2 = h ((h 61 1) + 1) 2 := jK 0 f624 (rg_T1_2_0_1 t603) (by first | decide | omega) (by first | decide | omega) (by decide)
            have e652 : rv h622 2 = (h ((h 61 1) + 1) 2) := (congrArg (fun z => svq h622 z 2) q650).trans q651
            have b653 := jB (e := 2) 0 hJ (rg_T3_2_0_1 t603) (by first | decide | omega) (by first | decide | omega)
            have e654 : rv h 3 = (h ((h 61 1) + 3) 2) := (congrArg (fun z => svq h z 3) rfl).trans rfl
            have q655 : h622 61 1 = h 61 1 := f624 61 1 (by decide +kernel)
            have q656 : h622 ((h 61 1) + 3) 2 = h ((h 61 1) + 3) 2 := jK 0 f624 (rg_T3_2_0_1 t603) (by first | decide | omega) (by first | decide | omega) (by decide)
            have e657 : rv h622 3 = (h ((h 61 1) + 3) 2) := (congrArg (fun z => svq h622 z 3) q655).trans q656
            have b658 := jB (e := 2) 0 hJ (rg_T5_2_0_1 t603) (by first | decide | omega) (by first | decide | omega)
            have e659 : rv h 4 = (h ((h 61 1) + 5) 2) := (congrArg (fun z => svq h z 4) rfl).trans rfl
            have q660 : h622 61 1 = h 61 1 := f624 61 1 (by decide +kernel)
            have q661 : h622 ((h 61 1) + 5) 2 = h ((h 61 1) + 5) 2 := jK 0 f624 (rg_T5_2_0_1 t603) (by first | decide | omega) (by first | decide | omega) (by decide)
            have e662 : rv h622 4 = (h ((h 61 1) + 5) 2) := (congrArg (fun z => svq h622 z 4) q660).trans q661
            have e663 : rv h 5 = (h ((h 61 1) + 7) 2) := (congrArg (fun z => svq h z 5) rfl).trans rfl
            have q664 : h622 61 1 = h 61 1 := f624 61 1 (by decide +kernel)
            have q665 : h622 ((h 61 1) + 7) 2 = h ((h 61 1) + 7) 2 := jK 0 f624 (rg_T7_2_0_1 t603) (by first | decide | omega) (by first | decide | omega) (by decide)
            have e666 : rv h622 5 = (h ((h 61 1) + 7) 2) := (congrArg (fun z => svq h622 z 5) q664).trans q665
            have w667 : ¬ Wd tB tN 0 (h 1 2) := by rw [show h 1 2 = h 1 2 from rfl]; exact (Is.no c6 (by first | decide | omega))
            have w668 : ¬ Wd tB tN 6 (h 1 2) := by rw [show h 1 2 = h 1 2 from rfl]; exact (Is.no c16 (by first | decide | omega))
            have w669 : ¬ Wd tB tN 8 (h 1 2) := by rw [show h 1 2 = h 1 2 from rfl]; exact (Is.no c25 (by first | decide | omega))
            obtain ⟨w670, e671⟩ := Tk.no c628 (by first | decide | omega)
            have m672 : Ot (h 61 1) h h622 := Ot.fr Ot.refl f624 (by decide)
            refine x_retI (np := 200) (x := 0) (by decide +kernel) (by decide) (Or.inr ⟨by decide +kernel, by first | decide | omega, by first | decide | omega⟩) ⟨_, rfl, (by decide), ?_⟩
            exact ⟨j623, f629, (by first | decide | omega), (by first | decide | omega), (by first | decide | omega), (absurd (Is.yes c34 (by first | decide | omega)) w670), m672, (fun z => absurd z (by first | decide | omega)), (fun z => absurd z (by first | decide | omega)), (fun z => absurd z (by first | decide | omega))⟩
          have q633 : ¬ (v619 = 2147483648) := q633
          have b673 := c626 (by first | decide | omega)
          refine x_aload (np := 188) (x := 0) (by decide +kernel) rfl (x_nc_le (by decide)) ?_
          have q674 : h622 61 1 = h 61 1 := f624 61 1 (by decide +kernel)
          have q675 : h622 ((h 61 1) + 7) 2 = h ((h 61 1) + 7) 2 := jK 0 f624 (rg_T7_2_0_1 t603) (by first | decide | omega) (by first | decide | omega) (by decide)
          have e676 : rv h622 5 = (h ((h 61 1) + 7) 2) := (congrArg (fun z => svq h622 z 5) q674).trans q675
          have m680 := Tp.fr hT f624 (by decide) (by decide)
          refine x_cI (t := 6) (mj := 100) (n := 1) (rc := 10) (ml := 2) (nr := 0) (np := 191) (as := [x_r 61]) (rest := []) (lo1 := [x_r 61, 147573952589676412928]) (by decide +kernel) (by decide) (by decide +kernel) (x_rb_of (by decide +kernel)) rfl rfl (x_wr (by decide) x_wn) x_wn (by decide) rfl (c100_61 j623  (by first | decide | omega) m680) (fun v677 h681 l678 q679 => ?_)
          obtain ⟨j682, f683, b684, c685, c686, c687, c688, c689, c690, c691, c692, c693⟩ := q679
          have f694 := Fr.trans f629 f683 (by decide)
          have q695 : h622 61 1 = h 61 1 := f624 61 1 (by decide +kernel)
          have q696 : h622 (h 61 1) 7 = h (h 61 1) 7 := jK 0 f624 (rg_T0_7_0_1 t603) (by first | decide | omega) (by first | decide | omega) (by decide)
          have b697 := jB (e := 7) 0 hJ (rg_T0_7_0_1 t603) (by first | decide | omega) (by first | decide | omega)
          have e698 : rv h622 0 = (h (h 61 1) 7) := (congrArg (fun z => svq h622 z 0) q695).trans q696
          have q699 : h681 61 1 = h622 61 1 := f683 61 1 (by decide +kernel)
          have q700 : h622 61 1 = h 61 1 := f624 61 1 (by decide +kernel)
          have b701 := jB (e := 7) 0 j682 (rg_T0_7_0_1 t603) (by first | decide | omega) (by first | decide | omega)
          have e702 : rv h681 0 = (h681 (h 61 1) 7) := (congrArg (fun z => svq h681 z 0) (q699.trans q700)).trans rfl
          have q703 : h622 61 1 = h 61 1 := f624 61 1 (by decide +kernel)
          have q704 : h622 (h 61 1) 8 = h (h 61 1) 8 := jK 0 f624 (rg_T0_8_0_1 t603) (by first | decide | omega) (by first | decide | omega) (by decide)
          have e705 : rv h622 1 = (h (h 61 1) 8) := (congrArg (fun z => svq h622 z 1) q703).trans q704
          have q706 : h681 61 1 = h622 61 1 := f683 61 1 (by decide +kernel)
          have q707 : h622 61 1 = h 61 1 := f624 61 1 (by decide +kernel)
          have e708 : rv h681 1 = (h681 (h 61 1) 8) := (congrArg (fun z => svq h681 z 1) (q706.trans q707)).trans rfl
          have q709 : h622 61 1 = h 61 1 := f624 61 1 (by decide +kernel)
          have q710 : h622 ((h 61 1) + 1) 2 = h ((h 61 1) + 1) 2 := jK 0 f624 (rg_T1_2_0_1 t603) (by first | decide | omega) (by first | decide | omega) (by decide)
          have b711 := jB (e := 2) 0 hJ (rg_T1_2_0_1 t603) (by first | decide | omega) (by first | decide | omega)
          have e712 : rv h622 2 = (h ((h 61 1) + 1) 2) := (congrArg (fun z => svq h622 z 2) q709).trans q710
          have q713 : h681 61 1 = h622 61 1 := f683 61 1 (by decide +kernel)
          have q714 : h622 61 1 = h 61 1 := f624 61 1 (by decide +kernel)
          have b715 := jB (e := 2) 0 j682 (rg_T1_2_0_1 t603) (by first | decide | omega) (by first | decide | omega)
          have e716 : rv h681 2 = (h681 ((h 61 1) + 1) 2) := (congrArg (fun z => svq h681 z 2) (q713.trans q714)).trans rfl
          have q717 : h622 61 1 = h 61 1 := f624 61 1 (by decide +kernel)
          have q718 : h622 ((h 61 1) + 3) 2 = h ((h 61 1) + 3) 2 := jK 0 f624 (rg_T3_2_0_1 t603) (by first | decide | omega) (by first | decide | omega) (by decide)
          have b719 := jB (e := 2) 0 hJ (rg_T3_2_0_1 t603) (by first | decide | omega) (by first | decide | omega)
          have e720 : rv h622 3 = (h ((h 61 1) + 3) 2) := (congrArg (fun z => svq h622 z 3) q717).trans q718
          have q721 : h681 61 1 = h622 61 1 := f683 61 1 (by decide +kernel)
          have q722 : h622 61 1 = h 61 1 := f624 61 1 (by decide +kernel)
          have b723 := jB (e := 2) 0 j682 (rg_T3_2_0_1 t603) (by first | decide | omega) (by first | decide | omega)
          have e724 : rv h681 3 = (h681 ((h 61 1) + 3) 2) := (congrArg (fun z => svq h681 z 3) (q721.trans q722)).trans rfl
          have q725 : h622 61 1 = h 61 1 := f624 61 1 (by decide +kernel)
          have q726 : h622 ((h 61 1) + 5) 2 = h ((h 61 1) + 5) 2 := jK 0 f624 (rg_T5_2_0_1 t603) (by first | decide | omega) (by first | decide | omega) (by decide)
          have b727 := jB (e := 2) 0 hJ (rg_T5_2_0_1 t603) (by first | decide | omega) (by first | decide | omega)
          have e728 : rv h622 4 = (h ((h 61 1) + 5) 2) := (congrArg (fun z => svq h622 z 4) q725).trans q726
          have q729 : h681 61 1 = h622 61 1 := f683 61 1 (by decide +kernel)
          have q730 : h622 61 1 = h 61 1 := f624 61 1 (by decide +kernel)
          have b731 := jB (e := 2) 0 j682 (rg_T5_2_0_1 t603) (by first | decide | omega) (by first | decide | omega)
          have e732 : rv h681 4 = (h681 ((h 61 1) + 5) 2) := (congrArg (fun z => svq h681 z 4) (q729.trans q730)).trans rfl
          have q733 : h622 61 1 = h 61 1 := f624 61 1 (by decide +kernel)
          have q734 : h622 ((h 61 1) + 7) 2 = h ((h 61 1) + 7) 2 := jK 0 f624 (rg_T7_2_0_1 t603) (by first | decide | omega) (by first | decide | omega) (by decide)
          have q735 : h681 61 1 = h622 61 1 := f683 61 1 (by decide +kernel)
          have q736 : h622 61 1 = h 61 1 := f624 61 1 (by decide +kernel)
          have b737 := jB (e := 2) 0 j682 (rg_T7_2_0_1 t603) (by first | decide | omega) (by first | decide | omega)
          have e738 : rv h681 5 = (h681 ((h 61 1) + 7) 2) := (congrArg (fun z => svq h681 z 5) (q735.trans q736)).trans rfl
          have q739 : h622 61 1 = h 61 1 := f624 61 1 (by decide +kernel)
          refine x_ifz (k := 0) (tg := 198) (np := 194) (by decide +kernel) (by decide) l678 (fun q740 => ?_) (fun q741 => ?_)
          · have q740 : v677 = 2147483648 := q740
            refine x_const (np := 199) (x := 9223372039002259456) (a := 2147483648) (by decide +kernel) (by decide) (by decide) ?_
            have e742 : rv h 0 = (h (h 61 1) 7) := (congrArg (fun z => svq h z 0) rfl).trans rfl
            have q743 : h681 61 1 = h622 61 1 := f683 61 1 (by decide +kernel)
            have q744 : h622 61 1 = h 61 1 := f624 61 1 (by decide +kernel)
            have e745 : rv h 1 = (h (h 61 1) 8) := (congrArg (fun z => svq h z 1) rfl).trans rfl
            have q746 : h681 61 1 = h622 61 1 := f683 61 1 (by decide +kernel)
            have q747 : h622 61 1 = h 61 1 := f624 61 1 (by decide +kernel)
            have q748 : h681 61 1 = h622 61 1 := f683 61 1 (by decide +kernel)
            have q749 : h622 61 1 = h 61 1 := f624 61 1 (by decide +kernel)
            have q750 : h681 61 1 = h622 61 1 := f683 61 1 (by decide +kernel)
            have q751 : h622 61 1 = h 61 1 := f624 61 1 (by decide +kernel)
            have e752 : rv h 2 = (h ((h 61 1) + 1) 2) := (congrArg (fun z => svq h z 2) rfl).trans rfl
            have q753 : h681 61 1 = h622 61 1 := f683 61 1 (by decide +kernel)
            have q754 : h622 61 1 = h 61 1 := f624 61 1 (by decide +kernel)
            have e755 : rv h 3 = (h ((h 61 1) + 3) 2) := (congrArg (fun z => svq h z 3) rfl).trans rfl
            have q756 : h681 61 1 = h622 61 1 := f683 61 1 (by decide +kernel)
            have q757 : h622 61 1 = h 61 1 := f624 61 1 (by decide +kernel)
            have e758 : rv h 4 = (h ((h 61 1) + 5) 2) := (congrArg (fun z => svq h z 4) rfl).trans rfl
            have q759 : h681 61 1 = h622 61 1 := f683 61 1 (by decide +kernel)
            have q760 : h622 61 1 = h 61 1 := f624 61 1 (by decide +kernel)
            have e761 : rv h 5 = (h ((h 61 1) + 7) 2) := (congrArg (fun z => svq h z 5) rfl).trans rfl
            have q762 : h681 61 1 = h622 61 1 := f683 61 1 (by decide +kernel)
            have q763 : h622 61 1 = h 61 1 := f624 61 1 (by decide +kernel)
            have w764 : ¬ Wd tB tN 0 (h 1 2) := by rw [show h 1 2 = h 1 2 from rfl]; exact (Is.no c6 (by first | decide | omega))
            have w765 : ¬ Wd tB tN 6 (h 1 2) := by rw [show h 1 2 = h 1 2 from rfl]; exact (Is.no c16 (by first | decide | omega))
            have w766 : ¬ Wd tB tN 8 (h 1 2) := by rw [show h 1 2 = h 1 2 from rfl]; exact (Is.no c25 (by first | decide | omega))
            obtain ⟨w767, e768⟩ := Tk.yes c628 (by first | decide | omega)
            have q769 : h622 61 1 = h 61 1 := f624 61 1 (by decide +kernel)
            have q770 : h622 (h 61 1) 7 = h (h 61 1) 7 := jK 0 f624 (rg_T0_7_0_1 t603) (by first | decide | omega) (by first | decide | omega) (by decide)
            have k771 : seen9 tB tN (rv h 0) (h622 1 2) (rs v677 (h681 1 2)) := by rw [show rv h 0 = rv h622 0 by first | decide | omega]; exact c691
            have m772 : Ot (h 61 1) h h622 := Ot.fr Ot.refl f624 (by decide)
            have m773 : Ot (h 61 1) h h681 := Ot.trans m772 (Ot.cast c692 q739)
            refine x_retI (np := 200) (x := 0) (by decide +kernel) (by decide) (Or.inr ⟨by decide +kernel, by first | decide | omega, by first | decide | omega⟩) ⟨_, rfl, (by decide), ?_⟩
            exact ⟨j682, f694, (by first | decide | omega), (by first | decide | omega), (by first | decide | omega), (l9_seen w767 rfl (by first | decide | omega) e768 rfl k771 (by first | decide | omega) (by first | decide | omega) (fun z => absurd z (by first | decide | omega))), m773, (fun z => absurd z (by first | decide | omega)), (fun z => absurd z (by first | decide | omega)), (fun z => absurd z (by first | decide | omega))⟩
          have q741 : ¬ (v677 = 2147483648) := q741
          have b774 := c690 (by first | decide | omega)
          refine x_const (np := 195) (x := 9223372043297226753) (a := 2147483649) (by decide +kernel) (by decide) (by decide) ?_
          refine x_goto (np := 198) (x := 199) (by decide +kernel) ?_
          have e775 : rv h 0 = (h (h 61 1) 7) := (congrArg (fun z => svq h z 0) rfl).trans rfl
          have q776 : h681 61 1 = h622 61 1 := f683 61 1 (by decide +kernel)
          have q777 : h622 61 1 = h 61 1 := f624 61 1 (by decide +kernel)
          have e778 : rv h 1 = (h (h 61 1) 8) := (congrArg (fun z => svq h z 1) rfl).trans rfl
          have q779 : h681 61 1 = h622 61 1 := f683 61 1 (by decide +kernel)
          have q780 : h622 61 1 = h 61 1 := f624 61 1 (by decide +kernel)
          have q781 : h681 61 1 = h622 61 1 := f683 61 1 (by decide +kernel)
          have q782 : h622 61 1 = h 61 1 := f624 61 1 (by decide +kernel)
          have q783 : h681 61 1 = h622 61 1 := f683 61 1 (by decide +kernel)
          have q784 : h622 61 1 = h 61 1 := f624 61 1 (by decide +kernel)
          have e785 : rv h 2 = (h ((h 61 1) + 1) 2) := (congrArg (fun z => svq h z 2) rfl).trans rfl
          have q786 : h681 61 1 = h622 61 1 := f683 61 1 (by decide +kernel)
          have q787 : h622 61 1 = h 61 1 := f624 61 1 (by decide +kernel)
          have e788 : rv h 3 = (h ((h 61 1) + 3) 2) := (congrArg (fun z => svq h z 3) rfl).trans rfl
          have q789 : h681 61 1 = h622 61 1 := f683 61 1 (by decide +kernel)
          have q790 : h622 61 1 = h 61 1 := f624 61 1 (by decide +kernel)
          have e791 : rv h 4 = (h ((h 61 1) + 5) 2) := (congrArg (fun z => svq h z 4) rfl).trans rfl
          have q792 : h681 61 1 = h622 61 1 := f683 61 1 (by decide +kernel)
          have q793 : h622 61 1 = h 61 1 := f624 61 1 (by decide +kernel)
          have e794 : rv h 5 = (h ((h 61 1) + 7) 2) := (congrArg (fun z => svq h z 5) rfl).trans rfl
          have q795 : h681 61 1 = h622 61 1 := f683 61 1 (by decide +kernel)
          have q796 : h622 61 1 = h 61 1 := f624 61 1 (by decide +kernel)
          have w797 : ¬ Wd tB tN 0 (h 1 2) := by rw [show h 1 2 = h 1 2 from rfl]; exact (Is.no c6 (by first | decide | omega))
          have w798 : ¬ Wd tB tN 6 (h 1 2) := by rw [show h 1 2 = h 1 2 from rfl]; exact (Is.no c16 (by first | decide | omega))
          have w799 : ¬ Wd tB tN 8 (h 1 2) := by rw [show h 1 2 = h 1 2 from rfl]; exact (Is.no c25 (by first | decide | omega))
          obtain ⟨w800, e801⟩ := Tk.yes c628 (by first | decide | omega)
          have q802 : h622 61 1 = h 61 1 := f624 61 1 (by decide +kernel)
          have q803 : h622 (h 61 1) 7 = h (h 61 1) 7 := jK 0 f624 (rg_T0_7_0_1 t603) (by first | decide | omega) (by first | decide | omega) (by decide)
          have k804 : seen9 tB tN (rv h 0) (h622 1 2) (rs v677 (h681 1 2)) := by rw [show rv h 0 = rv h622 0 by first | decide | omega]; exact c691
          have m805 : Ot (h 61 1) h h622 := Ot.fr Ot.refl f624 (by decide)
          have m806 : Ot (h 61 1) h h681 := Ot.trans m805 (Ot.cast c692 q739)
          have q807 : h681 61 1 = h622 61 1 := f683 61 1 (by decide +kernel)
          have q808 : h622 61 1 = h 61 1 := f624 61 1 (by decide +kernel)
          have m809 : ∀ u, u < 10 → wq h681 (h 61 1) u = wq h (h 61 1) u := fun u hu => (Eq.trans (wq_gr t603 f683 (by decide) u hu) (wq_gr t603 f624 (by decide) u hu))
          have m810 : ∀ u, u < 6 → xq h681 (h 61 1) u = xq h (h 61 1) u := fun u hu => (Eq.trans (xq_gr t603 f683 (by decide) u hu) (xq_gr t603 f624 (by decide) u hu))
          obtain ⟨w811, e812⟩ := Tk.yes c628 (by first | decide | omega)
          have q813 : h622 61 1 = h 61 1 := f624 61 1 (by decide +kernel)
          have q814 : h622 (h 61 1) 7 = h (h 61 1) 7 := jK 0 f624 (rg_T0_7_0_1 t603) (by first | decide | omega) (by first | decide | omega) (by decide)
          have q815 : h622 61 1 = h 61 1 := f624 61 1 (by decide +kernel)
          have q816 : h622 ((h 61 1) + 7) 2 = h ((h 61 1) + 7) 2 := jK 0 f624 (rg_T7_2_0_1 t603) (by first | decide | omega) (by first | decide | omega) (by decide)
          have q817 : h622 61 1 = h 61 1 := f624 61 1 (by decide +kernel)
          have m818 : ∀ u, u < 10 → aq h622 (h 61 1) u = aq h (h 61 1) u := fun u hu => (aq_gr t603 f624 (by decide) u hu)
          have m819 : ∀ u, u < 10 → bq h622 (h 61 1) u = bq h (h 61 1) u := fun u hu => (bq_gr t603 f624 (by decide) u hu)
          refine x_retI (np := 200) (x := 0) (by decide +kernel) (by decide) (Or.inr ⟨by decide +kernel, by first | decide | omega, by first | decide | omega⟩) ⟨_, rfl, (by decide), ?_⟩
          exact ⟨j682, f694, (by first | decide | omega), (by first | decide | omega), (by first | decide | omega), (l9_seen w800 rfl (by first | decide | omega) e801 rfl k804 (by first | decide | omega) (by first | decide | omega) (fun z => ⟨rfl, by first | decide | omega, by first | decide | omega, by first | decide | omega, by first | decide | omega⟩)), m806, (fun _ => Wl.refl (by first | decide | omega) m809), (fun _ => Lx.oth (Is.yes c34 (by first | decide | omega)) rfl (by decide) (by decide) m810), (fun _ => (Sl.cst (Sl.seen w811 rfl (by first | decide | omega) e812 rfl (Sx.cst (pe' := rv h 0) (s' := rv h 5) (Sx.bs (c693 (by first | decide | omega)) q817) (by first | decide | omega) (by first | decide | omega))) rfl rfl).mp (ab2 m818 m819) (ab2 (fun _ _ => rfl) (fun _ _ => rfl)))⟩
        have q615 : ¬ ((2147483652 + 4 * u610) ≤ 2147483688) := q615
        refine x_const (np := 20) (x := 9223372043297226753) (a := 2147483649) (by decide +kernel) (by decide) (by decide) ?_
        refine x_goto (np := 23) (x := 24) (by decide +kernel) ?_
        refine x_retI (np := 25) (x := 0) (by decide +kernel) (by decide) (Or.inr ⟨by decide +kernel, by first | decide | omega, by first | decide | omega⟩) ⟨_, rfl, (by decide), ?_⟩
        refine x_ifz (k := 1) (tg := 198) (np := 175) (by decide +kernel) (by decide) (by decide) (fun q820 => ?_) (fun q821 => ?_)
        · have q820 : 2147483649 ≠ 2147483648 := q820
          refine x_const (np := 199) (x := 9223372039002259456) (a := 2147483648) (by decide +kernel) (by decide) (by decide) ?_
          have b822 := jB (e := 7) 0 hJ (rg_T0_7_0_1 t603) (by first | decide | omega) (by first | decide | omega)
          have e823 : rv h 0 = (h (h 61 1) 7) := (congrArg (fun z => svq h z 0) rfl).trans rfl
          have e824 : rv h 1 = (h (h 61 1) 8) := (congrArg (fun z => svq h z 1) rfl).trans rfl
          have b825 := jB (e := 2) 0 hJ (rg_T1_2_0_1 t603) (by first | decide | omega) (by first | decide | omega)
          have e826 : rv h 2 = (h ((h 61 1) + 1) 2) := (congrArg (fun z => svq h z 2) rfl).trans rfl
          have b827 := jB (e := 2) 0 hJ (rg_T3_2_0_1 t603) (by first | decide | omega) (by first | decide | omega)
          have e828 : rv h 3 = (h ((h 61 1) + 3) 2) := (congrArg (fun z => svq h z 3) rfl).trans rfl
          have b829 := jB (e := 2) 0 hJ (rg_T5_2_0_1 t603) (by first | decide | omega) (by first | decide | omega)
          have e830 : rv h 4 = (h ((h 61 1) + 5) 2) := (congrArg (fun z => svq h z 4) rfl).trans rfl
          have e831 : rv h 5 = (h ((h 61 1) + 7) 2) := (congrArg (fun z => svq h z 5) rfl).trans rfl
          have w832 : ¬ Wd tB tN 0 (h 1 2) := by rw [show h 1 2 = h 1 2 from rfl]; exact (Is.no c6 (by first | decide | omega))
          have w833 : ¬ Wd tB tN 6 (h 1 2) := by rw [show h 1 2 = h 1 2 from rfl]; exact (Is.no c16 (by first | decide | omega))
          have w834 : ¬ Wd tB tN 8 (h 1 2) := by rw [show h 1 2 = h 1 2 from rfl]; exact (Is.no c25 (by first | decide | omega))
          refine x_retI (np := 200) (x := 0) (by decide +kernel) (by decide) (Or.inr ⟨by decide +kernel, by first | decide | omega, by first | decide | omega⟩) ⟨_, rfl, (by decide), ?_⟩
          exact ⟨hJ, hF, (by first | decide | omega), (by first | decide | omega), (by first | decide | omega), (l9_seen0 (Is.yes c34 (by first | decide | omega)) rfl (by first | decide | omega) (by first | decide | omega)), Ot.refl, (fun z => absurd z (by first | decide | omega)), (fun z => absurd z (by first | decide | omega)), (fun z => absurd z (by first | decide | omega))⟩
        have q821 : ¬ (2147483649 ≠ 2147483648) := q821
        exfalso; omega
      have q28 : ¬ (v21 = 2147483648) := q28
      have b835 := c24 (by first | decide | omega)
      refine x_aload (np := 113) (x := 0) (by decide +kernel) rfl (x_nc_le (by decide)) ?_
      have t836 : tw (h 61 1) := hJ.2.2.2.2.1
      refine x_getR (np := 116) (x := 577) (f := 1) (q := (h 61 1)) (by decide +kernel) (by decide) (by decide +kernel) rfl ?_
      have q837 : h (h 61 1) 2 = ((h 61 1) + 5) := tf_0_2 hJ t836
      refine x_getR (np := 119) (x := 514) (f := 2) (q := ((h 61 1) + 5)) (by decide +kernel) (by decide) (tg_0_514_2_1 t836) q837 ?_
      refine x_nI (t := 6) (mj := 66) (n := 1) (rc := 7) (ml := 1) (nr := 0) (np := 122) (as := [x_r ((h 61 1) + 5)]) (rest := []) (lo1 := [x_r ((h 61 1) + 5)]) (by decide +kernel) (by decide) (by decide +kernel) (x_rb_of (tr_5_7 t836)) rfl rfl (x_wr (tn_5 t836) x_wn) x_wn (by decide) rfl ?_
      refine x_aload (np := 1) (x := 0) (by decide +kernel) rfl (x_nc_le (tn_5 t836)) ?_
      have b838 := jB (e := 2) 0 hJ (rg_T5_2_0_1 t836) (by first | decide | omega) (by first | decide | omega)
      refine x_getC (np := 4) (x := 386) (f := 2) (q := (h ((h 61 1) + 5) 2)) (by decide +kernel) (by decide) (tg_5_386_2_0 t836) rfl (fun l839 => ?_)
      refine x_const (np := 5) (x := 9223372043297226753) (a := 2147483649) (by decide +kernel) (by decide) (by decide) ?_
      refine x_iadd (np := 6) (x := 0) (v := (1 + (h ((h 61 1) + 5) 2))) (by decide +kernel) l839 (by decide) (by first | decide | omega) (by first | decide | omega) ?_
      refine x_aload (np := 7) (x := 0) (by decide +kernel) rfl (x_nc_le (tn_5 t836)) ?_
      have b840 := jB (e := 0) 0 hJ (rg_T5_0_0_1 t836) (by first | decide | omega) (by first | decide | omega)
      have q841 : (h ((h 61 1) + 5) 0) = 2147483652 := by first | decide | omega
      refine x_getC (np := 10) (x := 384) (f := 0) (q := 2147483652) (by decide +kernel) (by decide) (tg_5_384_0_0 t836) q841 (fun l842 => ?_)
      obtain ⟨u843, q844⟩ : ∃ z, (h ((h 61 1) + 5) 2) = 2147483648 + z := ⟨(h ((h 61 1) + 5) 2) - 2147483648, by first | decide | omega⟩
      refine x_imul (np := 11) (x := 0) (i := (1 + u843)) (j := 4) (v := (2147483652 + 4 * u843)) (by decide +kernel) (by first | decide | omega) (by first | decide | omega) (by first | decide | omega) (by first | decide | omega) (by first | decide | omega) (by decide) ?_
      refine x_aload (np := 12) (x := 0) (by decide +kernel) rfl (x_nc_le (tn_5 t836)) ?_
      have q846 : h ((h 61 1) + 5) 1 = ((h 61 1) + 6) := tf_5_1 hJ t836
      refine x_getR (np := 15) (x := 385) (f := 1) (q := ((h 61 1) + 6)) (by decide +kernel) (by decide) (tg_5_385_1_1 t836) q846 ?_
      refine x_alen (np := 16) (x := 0) (n := 40) (by decide +kernel) (tn_6 t836) (tl_6 t836).1 (tl_6 t836).2 (by decide) ?_
      show X _ _ _ _ _ _ _ _ [iv_c 2147483688, iv_c (2147483652 + 4 * u843)] _
      refine x_icmp (k := 5) (tg := 23) (np := 19) (by decide +kernel) (by decide) (by first | decide | omega) (by decide) (fun q847 => ?_) (fun q848 => ?_)
      · have q847 : (2147483652 + 4 * u843) ≤ 2147483688 := q847
        refine x_const (np := 24) (x := 9223372039002259456) (a := 2147483648) (by decide +kernel) (by decide) (by decide) ?_
        refine x_retI (np := 25) (x := 0) (by decide +kernel) (by decide) (Or.inr ⟨by decide +kernel, by first | decide | omega, by first | decide | omega⟩) ⟨_, rfl, (by decide), ?_⟩
        refine x_ifz (k := 1) (tg := 148) (np := 125) (by decide +kernel) (by decide) (by decide) (fun q849 => ?_) (fun q850 => ?_)
        · have q849 : 2147483648 ≠ 2147483648 := q849
          exfalso; omega
        have q850 : ¬ (2147483648 ≠ 2147483648) := q850
        refine x_aload (np := 126) (x := 0) (by decide +kernel) rfl (x_nc_le (by decide)) ?_
        have q851 : h 61 0 = 1 := by have z := jB (e := 0) 0 hJ rg_61_0_0_1 (by decide) (by decide); omega
        refine x_getR (np := 129) (x := 576) (f := 0) (q := 1) (by decide +kernel) (by decide) (by decide +kernel) q851 ?_
        refine x_ldcB (i := 8) (idx := 66) (tx := "debt") (by rw [tb_y93]; exact List.mem_of_getElem? (i := 8) rfl) (by decide) (by rw [tb_b93]; decide +kernel) ?_
        refine x_cI (t := 6) (mj := 78) (n := 2) (rc := 8) (ml := 2) (nr := 0) (np := 134) (as := [x_r 1, x_b (8 + 1)]) (rest := []) (lo1 := [x_r 1, x_b (8 + 1)]) (by decide +kernel) (by decide) (by decide +kernel) (x_rb_of (by decide +kernel)) rfl rfl (x_wr (by decide) (x_wB (by decide) x_wn)) x_wn (by decide) rfl (c78_1_S0 hJ  (by decide) hT) (fun v852 h855 l853 q854 => ?_)
        obtain ⟨j856, f857, b858, c859, c860, c861⟩ := q854
        have f862 := Fr.trans hF f857 (by decide)
        have b863 := jB (e := 2) 0 j856 rg_1_2_0_1 (by first | decide | omega) (by first | decide | omega)
        have b864 : iv_tl 8 = 4 := by decide
        refine x_ifz (k := 0) (tg := 148) (np := 137) (by decide +kernel) (by decide) l853 (fun q865 => ?_) (fun q866 => ?_)
        · have q865 : v852 = 2147483648 := q865
          have b867 := c860 (by first | decide | omega)
          refine x_const (np := 149) (x := 9223372039002259456) (a := 2147483648) (by decide +kernel) (by decide) (by decide) ?_
          have b868 := jB (e := 7) 0 hJ (rg_T0_7_0_1 t836) (by first | decide | omega) (by first | decide | omega)
          have e869 : rv h 0 = (h (h 61 1) 7) := (congrArg (fun z => svq h z 0) rfl).trans rfl
          have q870 : h855 61 1 = h 61 1 := f857 61 1 (by decide +kernel)
          have q871 : h855 (h 61 1) 7 = h (h 61 1) 7 := jK 0 f857 (rg_T0_7_0_1 t836) (by first | decide | omega) (by first | decide | omega) (by decide)
          have e872 : rv h855 0 = (h (h 61 1) 7) := (congrArg (fun z => svq h855 z 0) q870).trans q871
          have e873 : rv h 1 = (h (h 61 1) 8) := (congrArg (fun z => svq h z 1) rfl).trans rfl
          have q874 : h855 61 1 = h 61 1 := f857 61 1 (by decide +kernel)
          have q875 : h855 (h 61 1) 8 = h (h 61 1) 8 := jK 0 f857 (rg_T0_8_0_1 t836) (by first | decide | omega) (by first | decide | omega) (by decide)
          have e876 : rv h855 1 = (h (h 61 1) 8) := (congrArg (fun z => svq h855 z 1) q874).trans q875
          have q877 : h855 61 1 = h 61 1 := f857 61 1 (by decide +kernel)
          have q878 : h855 (h 61 1) 7 = h (h 61 1) 7 := jK 0 f857 (rg_T0_7_0_1 t836) (by first | decide | omega) (by first | decide | omega) (by decide)
          have q879 : h855 61 1 = h 61 1 := f857 61 1 (by decide +kernel)
          have q880 : h855 (h 61 1) 8 = h (h 61 1) 8 := jK 0 f857 (rg_T0_8_0_1 t836) (by first | decide | omega) (by first | decide | omega) (by decide)
          have b881 := jB (e := 2) 0 hJ (rg_T1_2_0_1 t836) (by first | decide | omega) (by first | decide | omega)
          have e882 : rv h 2 = (h ((h 61 1) + 1) 2) := (congrArg (fun z => svq h z 2) rfl).trans rfl
          have q883 : h855 61 1 = h 61 1 := f857 61 1 (by decide +kernel)
          have q884 : h855 ((h 61 1) + 1) 2 = h ((h 61 1) + 1) 2 := jK 0 f857 (rg_T1_2_0_1 t836) (by first | decide | omega) (by first | decide | omega) (by decide)
          have e885 : rv h855 2 = (h ((h 61 1) + 1) 2) := (congrArg (fun z => svq h855 z 2) q883).trans q884
          have b886 := jB (e := 2) 0 hJ (rg_T3_2_0_1 t836) (by first | decide | omega) (by first | decide | omega)
          have e887 : rv h 3 = (h ((h 61 1) + 3) 2) := (congrArg (fun z => svq h z 3) rfl).trans rfl
          have q888 : h855 61 1 = h 61 1 := f857 61 1 (by decide +kernel)
          have q889 : h855 ((h 61 1) + 3) 2 = h ((h 61 1) + 3) 2 := jK 0 f857 (rg_T3_2_0_1 t836) (by first | decide | omega) (by first | decide | omega) (by decide)
          have e890 : rv h855 3 = (h ((h 61 1) + 3) 2) := (congrArg (fun z => svq h855 z 3) q888).trans q889
          have e891 : rv h 4 = (h ((h 61 1) + 5) 2) := (congrArg (fun z => svq h z 4) rfl).trans rfl
          have q892 : h855 61 1 = h 61 1 := f857 61 1 (by decide +kernel)
          have q893 : h855 ((h 61 1) + 5) 2 = h ((h 61 1) + 5) 2 := jK 0 f857 (rg_T5_2_0_1 t836) (by first | decide | omega) (by first | decide | omega) (by decide)
          have e894 : rv h855 4 = (h ((h 61 1) + 5) 2) := (congrArg (fun z => svq h855 z 4) q892).trans q893
          have b895 := jB (e := 2) 0 hJ (rg_T7_2_0_1 t836) (by first | decide | omega) (by first | decide | omega)
          have e896 : rv h 5 = (h ((h 61 1) + 7) 2) := (congrArg (fun z => svq h z 5) rfl).trans rfl
          have q897 : h855 61 1 = h 61 1 := f857 61 1 (by decide +kernel)
          have q898 : h855 ((h 61 1) + 7) 2 = h ((h 61 1) + 7) 2 := jK 0 f857 (rg_T7_2_0_1 t836) (by first | decide | omega) (by first | decide | omega) (by decide)
          have e899 : rv h855 5 = (h ((h 61 1) + 7) 2) := (congrArg (fun z => svq h855 z 5) q897).trans q898
          have w900 : ¬ Wd tB tN 0 (h 1 2) := by rw [show h 1 2 = h 1 2 from rfl]; exact (Is.no c6 (by first | decide | omega))
          have w901 : ¬ Wd tB tN 6 (h 1 2) := by rw [show h 1 2 = h 1 2 from rfl]; exact (Is.no c16 (by first | decide | omega))
          obtain ⟨w902, e903⟩ := Tk.no c861 (by first | decide | omega)
          have m904 : Ot (h 61 1) h h855 := Ot.fr Ot.refl f857 (by decide)
          refine x_retI (np := 150) (x := 0) (by decide +kernel) (by decide) (Or.inr ⟨by decide +kernel, by first | decide | omega, by first | decide | omega⟩) ⟨_, rfl, (by decide), ?_⟩
          exact ⟨j856, f862, (by first | decide | omega), (by first | decide | omega), (by first | decide | omega), (absurd (Is.yes c25 (by first | decide | omega)) w902), m904, (fun z => absurd z (by first | decide | omega)), (fun z => absurd z (by first | decide | omega)), (fun z => absurd z (by first | decide | omega))⟩
        have q866 : ¬ (v852 = 2147483648) := q866
        have b905 := c859 (by first | decide | omega)
        refine x_aload (np := 138) (x := 0) (by decide +kernel) rfl (x_nc_le (by decide)) ?_
        have q906 : h855 61 1 = h 61 1 := f857 61 1 (by decide +kernel)
        have q907 : h855 ((h 61 1) + 5) 2 = h ((h 61 1) + 5) 2 := jK 0 f857 (rg_T5_2_0_1 t836) (by first | decide | omega) (by first | decide | omega) (by decide)
        have e908 : rv h855 4 = (h ((h 61 1) + 5) 2) := (congrArg (fun z => svq h855 z 4) q906).trans q907
        have m912 := Tp.fr hT f857 (by decide) (by decide)
        refine x_cI (t := 6) (mj := 99) (n := 1) (rc := 10) (ml := 3) (nr := 0) (np := 141) (as := [x_r 61]) (rest := []) (lo1 := [x_r 61, 147573952589676412928, 147573952589676412928]) (by decide +kernel) (by decide) (by decide +kernel) (x_rb_of (by decide +kernel)) rfl rfl (x_wr (by decide) x_wn) x_wn (by decide) rfl (c99_61 j856  (by first | decide | omega) m912) (fun v909 h913 l910 q911 => ?_)
        obtain ⟨j914, f915, b916, c917, c918, c919, c920, c921, c922, c923, c924⟩ := q911
        have f925 := Fr.trans f862 f915 (by decide)
        have q926 : h855 61 1 = h 61 1 := f857 61 1 (by decide +kernel)
        have q927 : h855 (h 61 1) 7 = h (h 61 1) 7 := jK 0 f857 (rg_T0_7_0_1 t836) (by first | decide | omega) (by first | decide | omega) (by decide)
        have b928 := jB (e := 7) 0 hJ (rg_T0_7_0_1 t836) (by first | decide | omega) (by first | decide | omega)
        have e929 : rv h855 0 = (h (h 61 1) 7) := (congrArg (fun z => svq h855 z 0) q926).trans q927
        have q930 : h913 61 1 = h855 61 1 := f915 61 1 (by decide +kernel)
        have q931 : h855 61 1 = h 61 1 := f857 61 1 (by decide +kernel)
        have b932 := jB (e := 7) 0 j914 (rg_T0_7_0_1 t836) (by first | decide | omega) (by first | decide | omega)
        have e933 : rv h913 0 = (h913 (h 61 1) 7) := (congrArg (fun z => svq h913 z 0) (q930.trans q931)).trans rfl
        have q934 : h855 61 1 = h 61 1 := f857 61 1 (by decide +kernel)
        have q935 : h855 (h 61 1) 8 = h (h 61 1) 8 := jK 0 f857 (rg_T0_8_0_1 t836) (by first | decide | omega) (by first | decide | omega) (by decide)
        have e936 : rv h855 1 = (h (h 61 1) 8) := (congrArg (fun z => svq h855 z 1) q934).trans q935
        have q937 : h913 61 1 = h855 61 1 := f915 61 1 (by decide +kernel)
        have q938 : h855 61 1 = h 61 1 := f857 61 1 (by decide +kernel)
        have e939 : rv h913 1 = (h913 (h 61 1) 8) := (congrArg (fun z => svq h913 z 1) (q937.trans q938)).trans rfl
        have q940 : h855 61 1 = h 61 1 := f857 61 1 (by decide +kernel)
        have q941 : h855 ((h 61 1) + 1) 2 = h ((h 61 1) + 1) 2 := jK 0 f857 (rg_T1_2_0_1 t836) (by first | decide | omega) (by first | decide | omega) (by decide)
        have b942 := jB (e := 2) 0 hJ (rg_T1_2_0_1 t836) (by first | decide | omega) (by first | decide | omega)
        have e943 : rv h855 2 = (h ((h 61 1) + 1) 2) := (congrArg (fun z => svq h855 z 2) q940).trans q941
        have q944 : h913 61 1 = h855 61 1 := f915 61 1 (by decide +kernel)
        have q945 : h855 61 1 = h 61 1 := f857 61 1 (by decide +kernel)
        have b946 := jB (e := 2) 0 j914 (rg_T1_2_0_1 t836) (by first | decide | omega) (by first | decide | omega)
        have e947 : rv h913 2 = (h913 ((h 61 1) + 1) 2) := (congrArg (fun z => svq h913 z 2) (q944.trans q945)).trans rfl
        have q948 : h855 61 1 = h 61 1 := f857 61 1 (by decide +kernel)
        have q949 : h855 ((h 61 1) + 3) 2 = h ((h 61 1) + 3) 2 := jK 0 f857 (rg_T3_2_0_1 t836) (by first | decide | omega) (by first | decide | omega) (by decide)
        have b950 := jB (e := 2) 0 hJ (rg_T3_2_0_1 t836) (by first | decide | omega) (by first | decide | omega)
        have e951 : rv h855 3 = (h ((h 61 1) + 3) 2) := (congrArg (fun z => svq h855 z 3) q948).trans q949
        have q952 : h913 61 1 = h855 61 1 := f915 61 1 (by decide +kernel)
        have q953 : h855 61 1 = h 61 1 := f857 61 1 (by decide +kernel)
        have b954 := jB (e := 2) 0 j914 (rg_T3_2_0_1 t836) (by first | decide | omega) (by first | decide | omega)
        have e955 : rv h913 3 = (h913 ((h 61 1) + 3) 2) := (congrArg (fun z => svq h913 z 3) (q952.trans q953)).trans rfl
        have q956 : h855 61 1 = h 61 1 := f857 61 1 (by decide +kernel)
        have q957 : h855 ((h 61 1) + 5) 2 = h ((h 61 1) + 5) 2 := jK 0 f857 (rg_T5_2_0_1 t836) (by first | decide | omega) (by first | decide | omega) (by decide)
        have q958 : h913 61 1 = h855 61 1 := f915 61 1 (by decide +kernel)
        have q959 : h855 61 1 = h 61 1 := f857 61 1 (by decide +kernel)
        have b960 := jB (e := 2) 0 j914 (rg_T5_2_0_1 t836) (by first | decide | omega) (by first | decide | omega)
        have e961 : rv h913 4 = (h913 ((h 61 1) + 5) 2) := (congrArg (fun z => svq h913 z 4) (q958.trans q959)).trans rfl
        have q962 : h855 61 1 = h 61 1 := f857 61 1 (by decide +kernel)
        have q963 : h855 ((h 61 1) + 7) 2 = h ((h 61 1) + 7) 2 := jK 0 f857 (rg_T7_2_0_1 t836) (by first | decide | omega) (by first | decide | omega) (by decide)
        have b964 := jB (e := 2) 0 hJ (rg_T7_2_0_1 t836) (by first | decide | omega) (by first | decide | omega)
        have e965 : rv h855 5 = (h ((h 61 1) + 7) 2) := (congrArg (fun z => svq h855 z 5) q962).trans q963
        have q966 : h913 61 1 = h855 61 1 := f915 61 1 (by decide +kernel)
        have q967 : h855 61 1 = h 61 1 := f857 61 1 (by decide +kernel)
        have b968 := jB (e := 2) 0 j914 (rg_T7_2_0_1 t836) (by first | decide | omega) (by first | decide | omega)
        have e969 : rv h913 5 = (h913 ((h 61 1) + 7) 2) := (congrArg (fun z => svq h913 z 5) (q966.trans q967)).trans rfl
        have q970 : h855 61 1 = h 61 1 := f857 61 1 (by decide +kernel)
        refine x_ifz (k := 0) (tg := 148) (np := 144) (by decide +kernel) (by decide) l910 (fun q971 => ?_) (fun q972 => ?_)
        · have q971 : v909 = 2147483648 := q971
          refine x_const (np := 149) (x := 9223372039002259456) (a := 2147483648) (by decide +kernel) (by decide) (by decide) ?_
          have e973 : rv h 0 = (h (h 61 1) 7) := (congrArg (fun z => svq h z 0) rfl).trans rfl
          have q974 : h913 61 1 = h855 61 1 := f915 61 1 (by decide +kernel)
          have q975 : h855 61 1 = h 61 1 := f857 61 1 (by decide +kernel)
          have e976 : rv h 1 = (h (h 61 1) 8) := (congrArg (fun z => svq h z 1) rfl).trans rfl
          have q977 : h913 61 1 = h855 61 1 := f915 61 1 (by decide +kernel)
          have q978 : h855 61 1 = h 61 1 := f857 61 1 (by decide +kernel)
          have q979 : h913 61 1 = h855 61 1 := f915 61 1 (by decide +kernel)
          have q980 : h855 61 1 = h 61 1 := f857 61 1 (by decide +kernel)
          have q981 : h913 61 1 = h855 61 1 := f915 61 1 (by decide +kernel)
          have q982 : h855 61 1 = h 61 1 := f857 61 1 (by decide +kernel)
          have e983 : rv h 2 = (h ((h 61 1) + 1) 2) := (congrArg (fun z => svq h z 2) rfl).trans rfl
          have q984 : h913 61 1 = h855 61 1 := f915 61 1 (by decide +kernel)
          have q985 : h855 61 1 = h 61 1 := f857 61 1 (by decide +kernel)
          have e986 : rv h 3 = (h ((h 61 1) + 3) 2) := (congrArg (fun z => svq h z 3) rfl).trans rfl
          have q987 : h913 61 1 = h855 61 1 := f915 61 1 (by decide +kernel)
          have q988 : h855 61 1 = h 61 1 := f857 61 1 (by decide +kernel)
          have e989 : rv h 4 = (h ((h 61 1) + 5) 2) := (congrArg (fun z => svq h z 4) rfl).trans rfl
          have q990 : h913 61 1 = h855 61 1 := f915 61 1 (by decide +kernel)
          have q991 : h855 61 1 = h 61 1 := f857 61 1 (by decide +kernel)
          have e992 : rv h 5 = (h ((h 61 1) + 7) 2) := (congrArg (fun z => svq h z 5) rfl).trans rfl
          have q993 : h913 61 1 = h855 61 1 := f915 61 1 (by decide +kernel)
          have q994 : h855 61 1 = h 61 1 := f857 61 1 (by decide +kernel)
          have w995 : ¬ Wd tB tN 0 (h 1 2) := by rw [show h 1 2 = h 1 2 from rfl]; exact (Is.no c6 (by first | decide | omega))
          have w996 : ¬ Wd tB tN 6 (h 1 2) := by rw [show h 1 2 = h 1 2 from rfl]; exact (Is.no c16 (by first | decide | omega))
          obtain ⟨w997, e998⟩ := Tk.yes c861 (by first | decide | omega)
          have q999 : h855 61 1 = h 61 1 := f857 61 1 (by decide +kernel)
          have q1000 : h855 (h 61 1) 7 = h (h 61 1) 7 := jK 0 f857 (rg_T0_7_0_1 t836) (by first | decide | omega) (by first | decide | omega) (by decide)
          have k1001 : debt9 tB tN (rv h 0) (h855 1 2) (rs v909 (h913 1 2)) := by rw [show rv h 0 = rv h855 0 by first | decide | omega]; exact c923
          have m1002 : Ot (h 61 1) h h855 := Ot.fr Ot.refl f857 (by decide)
          have m1003 : Ot (h 61 1) h h913 := Ot.trans m1002 (Ot.cast c924 q970)
          refine x_retI (np := 150) (x := 0) (by decide +kernel) (by decide) (Or.inr ⟨by decide +kernel, by first | decide | omega, by first | decide | omega⟩) ⟨_, rfl, (by decide), ?_⟩
          exact ⟨j914, f925, (by first | decide | omega), (by first | decide | omega), (by first | decide | omega), (l9_debt w997 rfl (by first | decide | omega) e998 rfl k1001 (by first | decide | omega) (by first | decide | omega) (fun z => absurd z (by first | decide | omega))), m1003, (fun z => absurd z (by first | decide | omega)), (fun z => absurd z (by first | decide | omega)), (fun z => absurd z (by first | decide | omega))⟩
        have q972 : ¬ (v909 = 2147483648) := q972
        have b1004 := c921 (by first | decide | omega)
        refine x_const (np := 145) (x := 9223372043297226753) (a := 2147483649) (by decide +kernel) (by decide) (by decide) ?_
        refine x_goto (np := 148) (x := 149) (by decide +kernel) ?_
        have e1005 : rv h 0 = (h (h 61 1) 7) := (congrArg (fun z => svq h z 0) rfl).trans rfl
        have q1006 : h913 61 1 = h855 61 1 := f915 61 1 (by decide +kernel)
        have q1007 : h855 61 1 = h 61 1 := f857 61 1 (by decide +kernel)
        have e1008 : rv h 1 = (h (h 61 1) 8) := (congrArg (fun z => svq h z 1) rfl).trans rfl
        have q1009 : h913 61 1 = h855 61 1 := f915 61 1 (by decide +kernel)
        have q1010 : h855 61 1 = h 61 1 := f857 61 1 (by decide +kernel)
        have q1011 : h913 61 1 = h855 61 1 := f915 61 1 (by decide +kernel)
        have q1012 : h855 61 1 = h 61 1 := f857 61 1 (by decide +kernel)
        have q1013 : h913 61 1 = h855 61 1 := f915 61 1 (by decide +kernel)
        have q1014 : h855 61 1 = h 61 1 := f857 61 1 (by decide +kernel)
        have e1015 : rv h 2 = (h ((h 61 1) + 1) 2) := (congrArg (fun z => svq h z 2) rfl).trans rfl
        have q1016 : h913 61 1 = h855 61 1 := f915 61 1 (by decide +kernel)
        have q1017 : h855 61 1 = h 61 1 := f857 61 1 (by decide +kernel)
        have e1018 : rv h 3 = (h ((h 61 1) + 3) 2) := (congrArg (fun z => svq h z 3) rfl).trans rfl
        have q1019 : h913 61 1 = h855 61 1 := f915 61 1 (by decide +kernel)
        have q1020 : h855 61 1 = h 61 1 := f857 61 1 (by decide +kernel)
        have e1021 : rv h 4 = (h ((h 61 1) + 5) 2) := (congrArg (fun z => svq h z 4) rfl).trans rfl
        have q1022 : h913 61 1 = h855 61 1 := f915 61 1 (by decide +kernel)
        have q1023 : h855 61 1 = h 61 1 := f857 61 1 (by decide +kernel)
        have e1024 : rv h 5 = (h ((h 61 1) + 7) 2) := (congrArg (fun z => svq h z 5) rfl).trans rfl
        have q1025 : h913 61 1 = h855 61 1 := f915 61 1 (by decide +kernel)
        have q1026 : h855 61 1 = h 61 1 := f857 61 1 (by decide +kernel)
        have w1027 : ¬ Wd tB tN 0 (h 1 2) := by rw [show h 1 2 = h 1 2 from rfl]; exact (Is.no c6 (by first | decide | omega))
        have w1028 : ¬ Wd tB tN 6 (h 1 2) := by rw [show h 1 2 = h 1 2 from rfl]; exact (Is.no c16 (by first | decide | omega))
        obtain ⟨w1029, e1030⟩ := Tk.yes c861 (by first | decide | omega)
        have q1031 : h855 61 1 = h 61 1 := f857 61 1 (by decide +kernel)
        have q1032 : h855 (h 61 1) 7 = h (h 61 1) 7 := jK 0 f857 (rg_T0_7_0_1 t836) (by first | decide | omega) (by first | decide | omega) (by decide)
        have k1033 : debt9 tB tN (rv h 0) (h855 1 2) (rs v909 (h913 1 2)) := by rw [show rv h 0 = rv h855 0 by first | decide | omega]; exact c923
        have m1034 : Ot (h 61 1) h h855 := Ot.fr Ot.refl f857 (by decide)
        have m1035 : Ot (h 61 1) h h913 := Ot.trans m1034 (Ot.cast c924 q970)
        have q1036 : h913 61 1 = h855 61 1 := f915 61 1 (by decide +kernel)
        have q1037 : h855 61 1 = h 61 1 := f857 61 1 (by decide +kernel)
        have m1038 : ∀ u, u < 10 → wq h913 (h 61 1) u = wq h (h 61 1) u := fun u hu => (Eq.trans (wq_gr t836 f915 (by decide) u hu) (wq_gr t836 f857 (by decide) u hu))
        have m1039 : ∀ u, u < 6 → xq h913 (h 61 1) u = xq h (h 61 1) u := fun u hu => (Eq.trans (xq_gr t836 f915 (by decide) u hu) (xq_gr t836 f857 (by decide) u hu))
        have m1040 : ∀ u, u < 10 → aq h913 (h 61 1) u = aq h (h 61 1) u := fun u hu => (Eq.trans (aq_gr t836 f915 (by decide) u hu) (aq_gr t836 f857 (by decide) u hu))
        have m1041 : ∀ u, u < 10 → bq h913 (h 61 1) u = bq h (h 61 1) u := fun u hu => (Eq.trans (bq_gr t836 f915 (by decide) u hu) (bq_gr t836 f857 (by decide) u hu))
        refine x_retI (np := 150) (x := 0) (by decide +kernel) (by decide) (Or.inr ⟨by decide +kernel, by first | decide | omega, by first | decide | omega⟩) ⟨_, rfl, (by decide), ?_⟩
        exact ⟨j914, f925, (by first | decide | omega), (by first | decide | omega), (by first | decide | omega), (l9_debt w1029 rfl (by first | decide | omega) e1030 rfl k1033 (by first | decide | omega) (by first | decide | omega) (fun z => ⟨rfl, by first | decide | omega, by first | decide | omega, by first | decide | omega, by first | decide | omega⟩)), m1035, (fun _ => Wl.refl (by first | decide | omega) m1038), (fun _ => Lx.oth (Is.yes c25 (by first | decide | omega)) rfl (by decide) (by decide) m1039), (fun _ => Sl.oth (Is.yes c25 (by first | decide | omega)) rfl (by decide) (by decide) (ab2 m1040 m1041))⟩
      have q848 : ¬ ((2147483652 + 4 * u843) ≤ 2147483688) := q848
      refine x_const (np := 20) (x := 9223372043297226753) (a := 2147483649) (by decide +kernel) (by decide) (by decide) ?_
      refine x_goto (np := 23) (x := 24) (by decide +kernel) ?_
      refine x_retI (np := 25) (x := 0) (by decide +kernel) (by decide) (Or.inr ⟨by decide +kernel, by first | decide | omega, by first | decide | omega⟩) ⟨_, rfl, (by decide), ?_⟩
      refine x_ifz (k := 1) (tg := 148) (np := 125) (by decide +kernel) (by decide) (by decide) (fun q1042 => ?_) (fun q1043 => ?_)
      · have q1042 : 2147483649 ≠ 2147483648 := q1042
        refine x_const (np := 149) (x := 9223372039002259456) (a := 2147483648) (by decide +kernel) (by decide) (by decide) ?_
        have b1044 := jB (e := 7) 0 hJ (rg_T0_7_0_1 t836) (by first | decide | omega) (by first | decide | omega)
        have e1045 : rv h 0 = (h (h 61 1) 7) := (congrArg (fun z => svq h z 0) rfl).trans rfl
        have e1046 : rv h 1 = (h (h 61 1) 8) := (congrArg (fun z => svq h z 1) rfl).trans rfl
        have b1047 := jB (e := 2) 0 hJ (rg_T1_2_0_1 t836) (by first | decide | omega) (by first | decide | omega)
        have e1048 : rv h 2 = (h ((h 61 1) + 1) 2) := (congrArg (fun z => svq h z 2) rfl).trans rfl
        have b1049 := jB (e := 2) 0 hJ (rg_T3_2_0_1 t836) (by first | decide | omega) (by first | decide | omega)
        have e1050 : rv h 3 = (h ((h 61 1) + 3) 2) := (congrArg (fun z => svq h z 3) rfl).trans rfl
        have e1051 : rv h 4 = (h ((h 61 1) + 5) 2) := (congrArg (fun z => svq h z 4) rfl).trans rfl
        have b1052 := jB (e := 2) 0 hJ (rg_T7_2_0_1 t836) (by first | decide | omega) (by first | decide | omega)
        have e1053 : rv h 5 = (h ((h 61 1) + 7) 2) := (congrArg (fun z => svq h z 5) rfl).trans rfl
        have w1054 : ¬ Wd tB tN 0 (h 1 2) := by rw [show h 1 2 = h 1 2 from rfl]; exact (Is.no c6 (by first | decide | omega))
        have w1055 : ¬ Wd tB tN 6 (h 1 2) := by rw [show h 1 2 = h 1 2 from rfl]; exact (Is.no c16 (by first | decide | omega))
        refine x_retI (np := 150) (x := 0) (by decide +kernel) (by decide) (Or.inr ⟨by decide +kernel, by first | decide | omega, by first | decide | omega⟩) ⟨_, rfl, (by decide), ?_⟩
        exact ⟨hJ, hF, (by first | decide | omega), (by first | decide | omega), (by first | decide | omega), (l9_debt0 (Is.yes c25 (by first | decide | omega)) rfl (by first | decide | omega) (by first | decide | omega)), Ot.refl, (fun z => absurd z (by first | decide | omega)), (fun z => absurd z (by first | decide | omega)), (fun z => absurd z (by first | decide | omega))⟩
      have q1043 : ¬ (2147483649 ≠ 2147483648) := q1043
      exfalso; omega
    have q19 : ¬ (v12 = 2147483648) := q19
    have b1056 := c15 (by first | decide | omega)
    refine x_aload (np := 63) (x := 0) (by decide +kernel) rfl (x_nc_le (by decide)) ?_
    have t1057 : tw (h 61 1) := hJ.2.2.2.2.1
    refine x_getR (np := 66) (x := 577) (f := 1) (q := (h 61 1)) (by decide +kernel) (by decide) (by decide +kernel) rfl ?_
    have q1058 : h (h 61 1) 1 = ((h 61 1) + 3) := tf_0_1 hJ t1057
    refine x_getR (np := 69) (x := 513) (f := 1) (q := ((h 61 1) + 3)) (by decide +kernel) (by decide) (tg_0_513_1_1 t1057) q1058 ?_
    refine x_nI (t := 6) (mj := 66) (n := 1) (rc := 7) (ml := 1) (nr := 0) (np := 72) (as := [x_r ((h 61 1) + 3)]) (rest := []) (lo1 := [x_r ((h 61 1) + 3)]) (by decide +kernel) (by decide) (by decide +kernel) (x_rb_of (tr_3_7 t1057)) rfl rfl (x_wr (tn_3 t1057) x_wn) x_wn (by decide) rfl ?_
    refine x_aload (np := 1) (x := 0) (by decide +kernel) rfl (x_nc_le (tn_3 t1057)) ?_
    have b1059 := jB (e := 2) 0 hJ (rg_T3_2_0_1 t1057) (by first | decide | omega) (by first | decide | omega)
    refine x_getC (np := 4) (x := 386) (f := 2) (q := (h ((h 61 1) + 3) 2)) (by decide +kernel) (by decide) (tg_3_386_2_0 t1057) rfl (fun l1060 => ?_)
    refine x_const (np := 5) (x := 9223372043297226753) (a := 2147483649) (by decide +kernel) (by decide) (by decide) ?_
    refine x_iadd (np := 6) (x := 0) (v := (1 + (h ((h 61 1) + 3) 2))) (by decide +kernel) l1060 (by decide) (by first | decide | omega) (by first | decide | omega) ?_
    refine x_aload (np := 7) (x := 0) (by decide +kernel) rfl (x_nc_le (tn_3 t1057)) ?_
    have b1061 := jB (e := 0) 0 hJ (rg_T3_0_0_1 t1057) (by first | decide | omega) (by first | decide | omega)
    have q1062 : (h ((h 61 1) + 3) 0) = 2147483652 := by first | decide | omega
    refine x_getC (np := 10) (x := 384) (f := 0) (q := 2147483652) (by decide +kernel) (by decide) (tg_3_384_0_0 t1057) q1062 (fun l1063 => ?_)
    obtain ⟨u1064, q1065⟩ : ∃ z, (h ((h 61 1) + 3) 2) = 2147483648 + z := ⟨(h ((h 61 1) + 3) 2) - 2147483648, by first | decide | omega⟩
    refine x_imul (np := 11) (x := 0) (i := (1 + u1064)) (j := 4) (v := (2147483652 + 4 * u1064)) (by decide +kernel) (by first | decide | omega) (by first | decide | omega) (by first | decide | omega) (by first | decide | omega) (by first | decide | omega) (by decide) ?_
    refine x_aload (np := 12) (x := 0) (by decide +kernel) rfl (x_nc_le (tn_3 t1057)) ?_
    have q1067 : h ((h 61 1) + 3) 1 = ((h 61 1) + 4) := tf_3_1 hJ t1057
    refine x_getR (np := 15) (x := 385) (f := 1) (q := ((h 61 1) + 4)) (by decide +kernel) (by decide) (tg_3_385_1_1 t1057) q1067 ?_
    refine x_alen (np := 16) (x := 0) (n := 40) (by decide +kernel) (tn_4 t1057) (tl_4 t1057).1 (tl_4 t1057).2 (by decide) ?_
    show X _ _ _ _ _ _ _ _ [iv_c 2147483688, iv_c (2147483652 + 4 * u1064)] _
    refine x_icmp (k := 5) (tg := 23) (np := 19) (by decide +kernel) (by decide) (by first | decide | omega) (by decide) (fun q1068 => ?_) (fun q1069 => ?_)
    · have q1068 : (2147483652 + 4 * u1064) ≤ 2147483688 := q1068
      refine x_const (np := 24) (x := 9223372039002259456) (a := 2147483648) (by decide +kernel) (by decide) (by decide) ?_
      refine x_retI (np := 25) (x := 0) (by decide +kernel) (by decide) (Or.inr ⟨by decide +kernel, by first | decide | omega, by first | decide | omega⟩) ⟨_, rfl, (by decide), ?_⟩
      refine x_ifz (k := 1) (tg := 98) (np := 75) (by decide +kernel) (by decide) (by decide) (fun q1070 => ?_) (fun q1071 => ?_)
      · have q1070 : 2147483648 ≠ 2147483648 := q1070
        exfalso; omega
      have q1071 : ¬ (2147483648 ≠ 2147483648) := q1071
      refine x_aload (np := 76) (x := 0) (by decide +kernel) rfl (x_nc_le (by decide)) ?_
      have q1072 : h 61 0 = 1 := by have z := jB (e := 0) 0 hJ rg_61_0_0_1 (by decide) (by decide); omega
      refine x_getR (np := 79) (x := 576) (f := 0) (q := 1) (by decide +kernel) (by decide) (by decide +kernel) q1072 ?_
      refine x_ldcB (i := 6) (idx := 58) (tx := "letter") (by rw [tb_y93]; exact List.mem_of_getElem? (i := 6) rfl) (by decide) (by rw [tb_b93]; decide +kernel) ?_
      refine x_cI (t := 6) (mj := 78) (n := 2) (rc := 8) (ml := 2) (nr := 0) (np := 84) (as := [x_r 1, x_b (6 + 1)]) (rest := []) (lo1 := [x_r 1, x_b (6 + 1)]) (by decide +kernel) (by decide) (by decide +kernel) (x_rb_of (by decide +kernel)) rfl rfl (x_wr (by decide) (x_wB (by decide) x_wn)) x_wn (by decide) rfl (c78_1_S0 hJ  (by decide) hT) (fun v1073 h1076 l1074 q1075 => ?_)
      obtain ⟨j1077, f1078, b1079, c1080, c1081, c1082⟩ := q1075
      have f1083 := Fr.trans hF f1078 (by decide)
      have b1084 := jB (e := 2) 0 j1077 rg_1_2_0_1 (by first | decide | omega) (by first | decide | omega)
      have b1085 : iv_tl 6 = 6 := by decide
      refine x_ifz (k := 0) (tg := 98) (np := 87) (by decide +kernel) (by decide) l1074 (fun q1086 => ?_) (fun q1087 => ?_)
      · have q1086 : v1073 = 2147483648 := q1086
        have b1088 := c1081 (by first | decide | omega)
        refine x_const (np := 99) (x := 9223372039002259456) (a := 2147483648) (by decide +kernel) (by decide) (by decide) ?_
        have b1089 := jB (e := 7) 0 hJ (rg_T0_7_0_1 t1057) (by first | decide | omega) (by first | decide | omega)
        have e1090 : rv h 0 = (h (h 61 1) 7) := (congrArg (fun z => svq h z 0) rfl).trans rfl
        have q1091 : h1076 61 1 = h 61 1 := f1078 61 1 (by decide +kernel)
        have q1092 : h1076 (h 61 1) 7 = h (h 61 1) 7 := jK 0 f1078 (rg_T0_7_0_1 t1057) (by first | decide | omega) (by first | decide | omega) (by decide)
        have e1093 : rv h1076 0 = (h (h 61 1) 7) := (congrArg (fun z => svq h1076 z 0) q1091).trans q1092
        have e1094 : rv h 1 = (h (h 61 1) 8) := (congrArg (fun z => svq h z 1) rfl).trans rfl
        have q1095 : h1076 61 1 = h 61 1 := f1078 61 1 (by decide +kernel)
        have q1096 : h1076 (h 61 1) 8 = h (h 61 1) 8 := jK 0 f1078 (rg_T0_8_0_1 t1057) (by first | decide | omega) (by first | decide | omega) (by decide)
        have e1097 : rv h1076 1 = (h (h 61 1) 8) := (congrArg (fun z => svq h1076 z 1) q1095).trans q1096
        have q1098 : h1076 61 1 = h 61 1 := f1078 61 1 (by decide +kernel)
        have q1099 : h1076 (h 61 1) 7 = h (h 61 1) 7 := jK 0 f1078 (rg_T0_7_0_1 t1057) (by first | decide | omega) (by first | decide | omega) (by decide)
        have q1100 : h1076 61 1 = h 61 1 := f1078 61 1 (by decide +kernel)
        have q1101 : h1076 (h 61 1) 8 = h (h 61 1) 8 := jK 0 f1078 (rg_T0_8_0_1 t1057) (by first | decide | omega) (by first | decide | omega) (by decide)
        have b1102 := jB (e := 2) 0 hJ (rg_T1_2_0_1 t1057) (by first | decide | omega) (by first | decide | omega)
        have e1103 : rv h 2 = (h ((h 61 1) + 1) 2) := (congrArg (fun z => svq h z 2) rfl).trans rfl
        have q1104 : h1076 61 1 = h 61 1 := f1078 61 1 (by decide +kernel)
        have q1105 : h1076 ((h 61 1) + 1) 2 = h ((h 61 1) + 1) 2 := jK 0 f1078 (rg_T1_2_0_1 t1057) (by first | decide | omega) (by first | decide | omega) (by decide)
        have e1106 : rv h1076 2 = (h ((h 61 1) + 1) 2) := (congrArg (fun z => svq h1076 z 2) q1104).trans q1105
        have e1107 : rv h 3 = (h ((h 61 1) + 3) 2) := (congrArg (fun z => svq h z 3) rfl).trans rfl
        have q1108 : h1076 61 1 = h 61 1 := f1078 61 1 (by decide +kernel)
        have q1109 : h1076 ((h 61 1) + 3) 2 = h ((h 61 1) + 3) 2 := jK 0 f1078 (rg_T3_2_0_1 t1057) (by first | decide | omega) (by first | decide | omega) (by decide)
        have e1110 : rv h1076 3 = (h ((h 61 1) + 3) 2) := (congrArg (fun z => svq h1076 z 3) q1108).trans q1109
        have b1111 := jB (e := 2) 0 hJ (rg_T5_2_0_1 t1057) (by first | decide | omega) (by first | decide | omega)
        have e1112 : rv h 4 = (h ((h 61 1) + 5) 2) := (congrArg (fun z => svq h z 4) rfl).trans rfl
        have q1113 : h1076 61 1 = h 61 1 := f1078 61 1 (by decide +kernel)
        have q1114 : h1076 ((h 61 1) + 5) 2 = h ((h 61 1) + 5) 2 := jK 0 f1078 (rg_T5_2_0_1 t1057) (by first | decide | omega) (by first | decide | omega) (by decide)
        have e1115 : rv h1076 4 = (h ((h 61 1) + 5) 2) := (congrArg (fun z => svq h1076 z 4) q1113).trans q1114
        have b1116 := jB (e := 2) 0 hJ (rg_T7_2_0_1 t1057) (by first | decide | omega) (by first | decide | omega)
        have e1117 : rv h 5 = (h ((h 61 1) + 7) 2) := (congrArg (fun z => svq h z 5) rfl).trans rfl
        have q1118 : h1076 61 1 = h 61 1 := f1078 61 1 (by decide +kernel)
        have q1119 : h1076 ((h 61 1) + 7) 2 = h ((h 61 1) + 7) 2 := jK 0 f1078 (rg_T7_2_0_1 t1057) (by first | decide | omega) (by first | decide | omega) (by decide)
        have e1120 : rv h1076 5 = (h ((h 61 1) + 7) 2) := (congrArg (fun z => svq h1076 z 5) q1118).trans q1119
        have w1121 : ¬ Wd tB tN 0 (h 1 2) := by rw [show h 1 2 = h 1 2 from rfl]; exact (Is.no c6 (by first | decide | omega))
        obtain ⟨w1122, e1123⟩ := Tk.no c1082 (by first | decide | omega)
        have m1124 : Ot (h 61 1) h h1076 := Ot.fr Ot.refl f1078 (by decide)
        refine x_retI (np := 100) (x := 0) (by decide +kernel) (by decide) (Or.inr ⟨by decide +kernel, by first | decide | omega, by first | decide | omega⟩) ⟨_, rfl, (by decide), ?_⟩
        exact ⟨j1077, f1083, (by first | decide | omega), (by first | decide | omega), (by first | decide | omega), (absurd (Is.yes c16 (by first | decide | omega)) w1122), m1124, (fun z => absurd z (by first | decide | omega)), (fun z => absurd z (by first | decide | omega)), (fun z => absurd z (by first | decide | omega))⟩
      have q1087 : ¬ (v1073 = 2147483648) := q1087
      have b1125 := c1080 (by first | decide | omega)
      refine x_aload (np := 88) (x := 0) (by decide +kernel) rfl (x_nc_le (by decide)) ?_
      have q1126 : h1076 61 1 = h 61 1 := f1078 61 1 (by decide +kernel)
      have q1127 : h1076 ((h 61 1) + 3) 2 = h ((h 61 1) + 3) 2 := jK 0 f1078 (rg_T3_2_0_1 t1057) (by first | decide | omega) (by first | decide | omega) (by decide)
      have e1128 : rv h1076 3 = (h ((h 61 1) + 3) 2) := (congrArg (fun z => svq h1076 z 3) q1126).trans q1127
      have m1132 := Tp.fr hT f1078 (by decide) (by decide)
      refine x_cI (t := 6) (mj := 98) (n := 1) (rc := 10) (ml := 2) (nr := 0) (np := 91) (as := [x_r 61]) (rest := []) (lo1 := [x_r 61, 147573952589676412928]) (by decide +kernel) (by decide) (by decide +kernel) (x_rb_of (by decide +kernel)) rfl rfl (x_wr (by decide) x_wn) x_wn (by decide) rfl (c98_61 j1077  (by first | decide | omega) m1132) (fun v1129 h1133 l1130 q1131 => ?_)
      obtain ⟨j1134, f1135, b1136, c1137, c1138, c1139, c1140, c1141, c1142, c1143, c1144, c1145⟩ := q1131
      have f1146 := Fr.trans f1083 f1135 (by decide)
      have q1147 : h1076 61 1 = h 61 1 := f1078 61 1 (by decide +kernel)
      have q1148 : h1076 (h 61 1) 7 = h (h 61 1) 7 := jK 0 f1078 (rg_T0_7_0_1 t1057) (by first | decide | omega) (by first | decide | omega) (by decide)
      have b1149 := jB (e := 7) 0 hJ (rg_T0_7_0_1 t1057) (by first | decide | omega) (by first | decide | omega)
      have e1150 : rv h1076 0 = (h (h 61 1) 7) := (congrArg (fun z => svq h1076 z 0) q1147).trans q1148
      have q1151 : h1133 61 1 = h1076 61 1 := f1135 61 1 (by decide +kernel)
      have q1152 : h1076 61 1 = h 61 1 := f1078 61 1 (by decide +kernel)
      have b1153 := jB (e := 7) 0 j1134 (rg_T0_7_0_1 t1057) (by first | decide | omega) (by first | decide | omega)
      have e1154 : rv h1133 0 = (h1133 (h 61 1) 7) := (congrArg (fun z => svq h1133 z 0) (q1151.trans q1152)).trans rfl
      have q1155 : h1076 61 1 = h 61 1 := f1078 61 1 (by decide +kernel)
      have q1156 : h1076 (h 61 1) 8 = h (h 61 1) 8 := jK 0 f1078 (rg_T0_8_0_1 t1057) (by first | decide | omega) (by first | decide | omega) (by decide)
      have e1157 : rv h1076 1 = (h (h 61 1) 8) := (congrArg (fun z => svq h1076 z 1) q1155).trans q1156
      have q1158 : h1133 61 1 = h1076 61 1 := f1135 61 1 (by decide +kernel)
      have q1159 : h1076 61 1 = h 61 1 := f1078 61 1 (by decide +kernel)
      have e1160 : rv h1133 1 = (h1133 (h 61 1) 8) := (congrArg (fun z => svq h1133 z 1) (q1158.trans q1159)).trans rfl
      have q1161 : h1076 61 1 = h 61 1 := f1078 61 1 (by decide +kernel)
      have q1162 : h1076 ((h 61 1) + 1) 2 = h ((h 61 1) + 1) 2 := jK 0 f1078 (rg_T1_2_0_1 t1057) (by first | decide | omega) (by first | decide | omega) (by decide)
      have b1163 := jB (e := 2) 0 hJ (rg_T1_2_0_1 t1057) (by first | decide | omega) (by first | decide | omega)
      have e1164 : rv h1076 2 = (h ((h 61 1) + 1) 2) := (congrArg (fun z => svq h1076 z 2) q1161).trans q1162
      have q1165 : h1133 61 1 = h1076 61 1 := f1135 61 1 (by decide +kernel)
      have q1166 : h1076 61 1 = h 61 1 := f1078 61 1 (by decide +kernel)
      have b1167 := jB (e := 2) 0 j1134 (rg_T1_2_0_1 t1057) (by first | decide | omega) (by first | decide | omega)
      have e1168 : rv h1133 2 = (h1133 ((h 61 1) + 1) 2) := (congrArg (fun z => svq h1133 z 2) (q1165.trans q1166)).trans rfl
      have q1169 : h1076 61 1 = h 61 1 := f1078 61 1 (by decide +kernel)
      have q1170 : h1076 ((h 61 1) + 3) 2 = h ((h 61 1) + 3) 2 := jK 0 f1078 (rg_T3_2_0_1 t1057) (by first | decide | omega) (by first | decide | omega) (by decide)
      have q1171 : h1133 61 1 = h1076 61 1 := f1135 61 1 (by decide +kernel)
      have q1172 : h1076 61 1 = h 61 1 := f1078 61 1 (by decide +kernel)
      have b1173 := jB (e := 2) 0 j1134 (rg_T3_2_0_1 t1057) (by first | decide | omega) (by first | decide | omega)
      have e1174 : rv h1133 3 = (h1133 ((h 61 1) + 3) 2) := (congrArg (fun z => svq h1133 z 3) (q1171.trans q1172)).trans rfl
      have q1175 : h1076 61 1 = h 61 1 := f1078 61 1 (by decide +kernel)
      have q1176 : h1076 ((h 61 1) + 5) 2 = h ((h 61 1) + 5) 2 := jK 0 f1078 (rg_T5_2_0_1 t1057) (by first | decide | omega) (by first | decide | omega) (by decide)
      have b1177 := jB (e := 2) 0 hJ (rg_T5_2_0_1 t1057) (by first | decide | omega) (by first | decide | omega)
      have e1178 : rv h1076 4 = (h ((h 61 1) + 5) 2) := (congrArg (fun z => svq h1076 z 4) q1175).trans q1176
      have q1179 : h1133 61 1 = h1076 61 1 := f1135 61 1 (by decide +kernel)
      have q1180 : h1076 61 1 = h 61 1 := f1078 61 1 (by decide +kernel)
      have b1181 := jB (e := 2) 0 j1134 (rg_T5_2_0_1 t1057) (by first | decide | omega) (by first | decide | omega)
      have e1182 : rv h1133 4 = (h1133 ((h 61 1) + 5) 2) := (congrArg (fun z => svq h1133 z 4) (q1179.trans q1180)).trans rfl
      have q1183 : h1076 61 1 = h 61 1 := f1078 61 1 (by decide +kernel)
      have q1184 : h1076 ((h 61 1) + 7) 2 = h ((h 61 1) + 7) 2 := jK 0 f1078 (rg_T7_2_0_1 t1057) (by first | decide | omega) (by first | decide | omega) (by decide)
      have b1185 := jB (e := 2) 0 hJ (rg_T7_2_0_1 t1057) (by first | decide | omega) (by first | decide | omega)
      have e1186 : rv h1076 5 = (h ((h 61 1) + 7) 2) := (congrArg (fun z => svq h1076 z 5) q1183).trans q1184
      have q1187 : h1133 61 1 = h1076 61 1 := f1135 61 1 (by decide +kernel)
      have q1188 : h1076 61 1 = h 61 1 := f1078 61 1 (by decide +kernel)
      have b1189 := jB (e := 2) 0 j1134 (rg_T7_2_0_1 t1057) (by first | decide | omega) (by first | decide | omega)
      have e1190 : rv h1133 5 = (h1133 ((h 61 1) + 7) 2) := (congrArg (fun z => svq h1133 z 5) (q1187.trans q1188)).trans rfl
      have q1191 : h1076 61 1 = h 61 1 := f1078 61 1 (by decide +kernel)
      refine x_ifz (k := 0) (tg := 98) (np := 94) (by decide +kernel) (by decide) l1130 (fun q1192 => ?_) (fun q1193 => ?_)
      · have q1192 : v1129 = 2147483648 := q1192
        refine x_const (np := 99) (x := 9223372039002259456) (a := 2147483648) (by decide +kernel) (by decide) (by decide) ?_
        have e1194 : rv h 0 = (h (h 61 1) 7) := (congrArg (fun z => svq h z 0) rfl).trans rfl
        have q1195 : h1133 61 1 = h1076 61 1 := f1135 61 1 (by decide +kernel)
        have q1196 : h1076 61 1 = h 61 1 := f1078 61 1 (by decide +kernel)
        have e1197 : rv h 1 = (h (h 61 1) 8) := (congrArg (fun z => svq h z 1) rfl).trans rfl
        have q1198 : h1133 61 1 = h1076 61 1 := f1135 61 1 (by decide +kernel)
        have q1199 : h1076 61 1 = h 61 1 := f1078 61 1 (by decide +kernel)
        have q1200 : h1133 61 1 = h1076 61 1 := f1135 61 1 (by decide +kernel)
        have q1201 : h1076 61 1 = h 61 1 := f1078 61 1 (by decide +kernel)
        have q1202 : h1133 61 1 = h1076 61 1 := f1135 61 1 (by decide +kernel)
        have q1203 : h1076 61 1 = h 61 1 := f1078 61 1 (by decide +kernel)
        have e1204 : rv h 2 = (h ((h 61 1) + 1) 2) := (congrArg (fun z => svq h z 2) rfl).trans rfl
        have q1205 : h1133 61 1 = h1076 61 1 := f1135 61 1 (by decide +kernel)
        have q1206 : h1076 61 1 = h 61 1 := f1078 61 1 (by decide +kernel)
        have e1207 : rv h 3 = (h ((h 61 1) + 3) 2) := (congrArg (fun z => svq h z 3) rfl).trans rfl
        have q1208 : h1133 61 1 = h1076 61 1 := f1135 61 1 (by decide +kernel)
        have q1209 : h1076 61 1 = h 61 1 := f1078 61 1 (by decide +kernel)
        have e1210 : rv h 4 = (h ((h 61 1) + 5) 2) := (congrArg (fun z => svq h z 4) rfl).trans rfl
        have q1211 : h1133 61 1 = h1076 61 1 := f1135 61 1 (by decide +kernel)
        have q1212 : h1076 61 1 = h 61 1 := f1078 61 1 (by decide +kernel)
        have e1213 : rv h 5 = (h ((h 61 1) + 7) 2) := (congrArg (fun z => svq h z 5) rfl).trans rfl
        have q1214 : h1133 61 1 = h1076 61 1 := f1135 61 1 (by decide +kernel)
        have q1215 : h1076 61 1 = h 61 1 := f1078 61 1 (by decide +kernel)
        have w1216 : ¬ Wd tB tN 0 (h 1 2) := by rw [show h 1 2 = h 1 2 from rfl]; exact (Is.no c6 (by first | decide | omega))
        obtain ⟨w1217, e1218⟩ := Tk.yes c1082 (by first | decide | omega)
        have q1219 : h1076 61 1 = h 61 1 := f1078 61 1 (by decide +kernel)
        have q1220 : h1076 (h 61 1) 7 = h (h 61 1) 7 := jK 0 f1078 (rg_T0_7_0_1 t1057) (by first | decide | omega) (by first | decide | omega) (by decide)
        have k1221 : letter9 tB tN (rv h 0) (h1076 1 2) (rs v1129 (h1133 1 2)) := by rw [show rv h 0 = rv h1076 0 by first | decide | omega]; exact c1143
        have m1222 : Ot (h 61 1) h h1076 := Ot.fr Ot.refl f1078 (by decide)
        have m1223 : Ot (h 61 1) h h1133 := Ot.trans m1222 (Ot.cast c1144 q1191)
        refine x_retI (np := 100) (x := 0) (by decide +kernel) (by decide) (Or.inr ⟨by decide +kernel, by first | decide | omega, by first | decide | omega⟩) ⟨_, rfl, (by decide), ?_⟩
        exact ⟨j1134, f1146, (by first | decide | omega), (by first | decide | omega), (by first | decide | omega), (l9_letter w1217 rfl (by first | decide | omega) e1218 rfl k1221 (by first | decide | omega) (by first | decide | omega) (fun z => absurd z (by first | decide | omega))), m1223, (fun z => absurd z (by first | decide | omega)), (fun z => absurd z (by first | decide | omega)), (fun z => absurd z (by first | decide | omega))⟩
      have q1193 : ¬ (v1129 = 2147483648) := q1193
      have b1224 := c1140 (by first | decide | omega)
      refine x_const (np := 95) (x := 9223372043297226753) (a := 2147483649) (by decide +kernel) (by decide) (by decide) ?_
      refine x_goto (np := 98) (x := 99) (by decide +kernel) ?_
      have e1225 : rv h 0 = (h (h 61 1) 7) := (congrArg (fun z => svq h z 0) rfl).trans rfl
      have q1226 : h1133 61 1 = h1076 61 1 := f1135 61 1 (by decide +kernel)
      have q1227 : h1076 61 1 = h 61 1 := f1078 61 1 (by decide +kernel)
      have e1228 : rv h 1 = (h (h 61 1) 8) := (congrArg (fun z => svq h z 1) rfl).trans rfl
      have q1229 : h1133 61 1 = h1076 61 1 := f1135 61 1 (by decide +kernel)
      have q1230 : h1076 61 1 = h 61 1 := f1078 61 1 (by decide +kernel)
      have q1231 : h1133 61 1 = h1076 61 1 := f1135 61 1 (by decide +kernel)
      have q1232 : h1076 61 1 = h 61 1 := f1078 61 1 (by decide +kernel)
      have q1233 : h1133 61 1 = h1076 61 1 := f1135 61 1 (by decide +kernel)
      have q1234 : h1076 61 1 = h 61 1 := f1078 61 1 (by decide +kernel)
      have e1235 : rv h 2 = (h ((h 61 1) + 1) 2) := (congrArg (fun z => svq h z 2) rfl).trans rfl
      have q1236 : h1133 61 1 = h1076 61 1 := f1135 61 1 (by decide +kernel)
      have q1237 : h1076 61 1 = h 61 1 := f1078 61 1 (by decide +kernel)
      have e1238 : rv h 3 = (h ((h 61 1) + 3) 2) := (congrArg (fun z => svq h z 3) rfl).trans rfl
      have q1239 : h1133 61 1 = h1076 61 1 := f1135 61 1 (by decide +kernel)
      have q1240 : h1076 61 1 = h 61 1 := f1078 61 1 (by decide +kernel)
      have e1241 : rv h 4 = (h ((h 61 1) + 5) 2) := (congrArg (fun z => svq h z 4) rfl).trans rfl
      have q1242 : h1133 61 1 = h1076 61 1 := f1135 61 1 (by decide +kernel)
      have q1243 : h1076 61 1 = h 61 1 := f1078 61 1 (by decide +kernel)
      have e1244 : rv h 5 = (h ((h 61 1) + 7) 2) := (congrArg (fun z => svq h z 5) rfl).trans rfl
      have q1245 : h1133 61 1 = h1076 61 1 := f1135 61 1 (by decide +kernel)
      have q1246 : h1076 61 1 = h 61 1 := f1078 61 1 (by decide +kernel)
      have w1247 : ¬ Wd tB tN 0 (h 1 2) := by rw [show h 1 2 = h 1 2 from rfl]; exact (Is.no c6 (by first | decide | omega))
      obtain ⟨w1248, e1249⟩ := Tk.yes c1082 (by first | decide | omega)
      have q1250 : h1076 61 1 = h 61 1 := f1078 61 1 (by decide +kernel)
      have q1251 : h1076 (h 61 1) 7 = h (h 61 1) 7 := jK 0 f1078 (rg_T0_7_0_1 t1057) (by first | decide | omega) (by first | decide | omega) (by decide)
      have k1252 : letter9 tB tN (rv h 0) (h1076 1 2) (rs v1129 (h1133 1 2)) := by rw [show rv h 0 = rv h1076 0 by first | decide | omega]; exact c1143
      have m1253 : Ot (h 61 1) h h1076 := Ot.fr Ot.refl f1078 (by decide)
      have m1254 : Ot (h 61 1) h h1133 := Ot.trans m1253 (Ot.cast c1144 q1191)
      have q1255 : h1133 61 1 = h1076 61 1 := f1135 61 1 (by decide +kernel)
      have q1256 : h1076 61 1 = h 61 1 := f1078 61 1 (by decide +kernel)
      have q1257 : h1076 61 1 = h 61 1 := f1078 61 1 (by decide +kernel)
      have q1258 : h1076 ((h 61 1) + 3) 2 = h ((h 61 1) + 3) 2 := jK 0 f1078 (rg_T3_2_0_1 t1057) (by first | decide | omega) (by first | decide | omega) (by decide)
      have q1259 : h1133 61 1 = h1076 61 1 := f1135 61 1 (by decide +kernel)
      have q1260 : h1076 61 1 = h 61 1 := f1078 61 1 (by decide +kernel)
      have m1261 : ∀ u, u < 10 → wq h1076 (h 61 1) u = wq h (h 61 1) u := fun u hu => (wq_gr t1057 f1078 (by decide) u hu)
      have q1262 : h1076 61 1 = h 61 1 := f1078 61 1 (by decide +kernel)
      have m1263 : ∀ u, u < 6 → xq h1133 (h 61 1) u = xq h (h 61 1) u := fun u hu => (Eq.trans (xq_gr t1057 f1135 (by decide) u hu) (xq_gr t1057 f1078 (by decide) u hu))
      have m1264 : ∀ u, u < 10 → aq h1133 (h 61 1) u = aq h (h 61 1) u := fun u hu => (Eq.trans (aq_gr t1057 f1135 (by decide) u hu) (aq_gr t1057 f1078 (by decide) u hu))
      have m1265 : ∀ u, u < 10 → bq h1133 (h 61 1) u = bq h (h 61 1) u := fun u hu => (Eq.trans (bq_gr t1057 f1135 (by decide) u hu) (bq_gr t1057 f1078 (by decide) u hu))
      refine x_retI (np := 100) (x := 0) (by decide +kernel) (by decide) (Or.inr ⟨by decide +kernel, by first | decide | omega, by first | decide | omega⟩) ⟨_, rfl, (by decide), ?_⟩
      exact ⟨j1134, f1146, (by first | decide | omega), (by first | decide | omega), (by first | decide | omega), (l9_letter w1248 rfl (by first | decide | omega) e1249 rfl k1252 (by first | decide | omega) (by first | decide | omega) (fun z => ⟨rfl, by first | decide | omega, by first | decide | omega, by first | decide | omega, by first | decide | omega⟩)), m1254, (fun _ => Wl.mp (Wl.bs (c1145 (by first | decide | omega)) q1262) m1261 (fun _ _ => rfl) (by first | decide | omega) (by first | decide | omega)), (fun _ => Lx.oth (Is.yes c16 (by first | decide | omega)) rfl (by decide) (by decide) m1263), (fun _ => Sl.oth (Is.yes c16 (by first | decide | omega)) rfl (by decide) (by decide) (ab2 m1264 m1265))⟩
    have q1069 : ¬ ((2147483652 + 4 * u1064) ≤ 2147483688) := q1069
    refine x_const (np := 20) (x := 9223372043297226753) (a := 2147483649) (by decide +kernel) (by decide) (by decide) ?_
    refine x_goto (np := 23) (x := 24) (by decide +kernel) ?_
    refine x_retI (np := 25) (x := 0) (by decide +kernel) (by decide) (Or.inr ⟨by decide +kernel, by first | decide | omega, by first | decide | omega⟩) ⟨_, rfl, (by decide), ?_⟩
    refine x_ifz (k := 1) (tg := 98) (np := 75) (by decide +kernel) (by decide) (by decide) (fun q1266 => ?_) (fun q1267 => ?_)
    · have q1266 : 2147483649 ≠ 2147483648 := q1266
      refine x_const (np := 99) (x := 9223372039002259456) (a := 2147483648) (by decide +kernel) (by decide) (by decide) ?_
      have b1268 := jB (e := 7) 0 hJ (rg_T0_7_0_1 t1057) (by first | decide | omega) (by first | decide | omega)
      have e1269 : rv h 0 = (h (h 61 1) 7) := (congrArg (fun z => svq h z 0) rfl).trans rfl
      have e1270 : rv h 1 = (h (h 61 1) 8) := (congrArg (fun z => svq h z 1) rfl).trans rfl
      have b1271 := jB (e := 2) 0 hJ (rg_T1_2_0_1 t1057) (by first | decide | omega) (by first | decide | omega)
      have e1272 : rv h 2 = (h ((h 61 1) + 1) 2) := (congrArg (fun z => svq h z 2) rfl).trans rfl
      have e1273 : rv h 3 = (h ((h 61 1) + 3) 2) := (congrArg (fun z => svq h z 3) rfl).trans rfl
      have b1274 := jB (e := 2) 0 hJ (rg_T5_2_0_1 t1057) (by first | decide | omega) (by first | decide | omega)
      have e1275 : rv h 4 = (h ((h 61 1) + 5) 2) := (congrArg (fun z => svq h z 4) rfl).trans rfl
      have b1276 := jB (e := 2) 0 hJ (rg_T7_2_0_1 t1057) (by first | decide | omega) (by first | decide | omega)
      have e1277 : rv h 5 = (h ((h 61 1) + 7) 2) := (congrArg (fun z => svq h z 5) rfl).trans rfl
      have w1278 : ¬ Wd tB tN 0 (h 1 2) := by rw [show h 1 2 = h 1 2 from rfl]; exact (Is.no c6 (by first | decide | omega))
      refine x_retI (np := 100) (x := 0) (by decide +kernel) (by decide) (Or.inr ⟨by decide +kernel, by first | decide | omega, by first | decide | omega⟩) ⟨_, rfl, (by decide), ?_⟩
      exact ⟨hJ, hF, (by first | decide | omega), (by first | decide | omega), (by first | decide | omega), (l9_letter0 (Is.yes c16 (by first | decide | omega)) rfl (by first | decide | omega) (by first | decide | omega)), Ot.refl, (fun z => absurd z (by first | decide | omega)), (fun z => absurd z (by first | decide | omega)), (fun z => absurd z (by first | decide | omega))⟩
    have q1267 : ¬ (2147483649 ≠ 2147483648) := q1267
    exfalso; omega
  have q10 : ¬ (v2 = 2147483648) := q10
  have b1279 := c5 (by first | decide | omega)
  refine x_aload (np := 13) (x := 0) (by decide +kernel) rfl (x_nc_le (by decide)) ?_
  have t1280 : tw (h 61 1) := hJ.2.2.2.2.1
  refine x_getR (np := 16) (x := 577) (f := 1) (q := (h 61 1)) (by decide +kernel) (by decide) (by decide +kernel) rfl ?_
  have q1281 : h (h 61 1) 0 = ((h 61 1) + 1) := tf_0_0 hJ t1280
  refine x_getR (np := 19) (x := 512) (f := 0) (q := ((h 61 1) + 1)) (by decide +kernel) (by decide) (tg_0_512_0_1 t1280) q1281 ?_
  refine x_nI (t := 6) (mj := 66) (n := 1) (rc := 7) (ml := 1) (nr := 0) (np := 22) (as := [x_r ((h 61 1) + 1)]) (rest := []) (lo1 := [x_r ((h 61 1) + 1)]) (by decide +kernel) (by decide) (by decide +kernel) (x_rb_of (tr_1_7 t1280)) rfl rfl (x_wr (tn_1 t1280) x_wn) x_wn (by decide) rfl ?_
  refine x_aload (np := 1) (x := 0) (by decide +kernel) rfl (x_nc_le (tn_1 t1280)) ?_
  have b1282 := jB (e := 2) 0 hJ (rg_T1_2_0_1 t1280) (by first | decide | omega) (by first | decide | omega)
  refine x_getC (np := 4) (x := 386) (f := 2) (q := (h ((h 61 1) + 1) 2)) (by decide +kernel) (by decide) (tg_1_386_2_0 t1280) rfl (fun l1283 => ?_)
  refine x_const (np := 5) (x := 9223372043297226753) (a := 2147483649) (by decide +kernel) (by decide) (by decide) ?_
  refine x_iadd (np := 6) (x := 0) (v := (1 + (h ((h 61 1) + 1) 2))) (by decide +kernel) l1283 (by decide) (by first | decide | omega) (by first | decide | omega) ?_
  refine x_aload (np := 7) (x := 0) (by decide +kernel) rfl (x_nc_le (tn_1 t1280)) ?_
  have b1284 := jB (e := 0) 0 hJ (rg_T1_0_0_1 t1280) (by first | decide | omega) (by first | decide | omega)
  have q1285 : (h ((h 61 1) + 1) 0) = 2147483655 := by first | decide | omega
  refine x_getC (np := 10) (x := 384) (f := 0) (q := 2147483655) (by decide +kernel) (by decide) (tg_1_384_0_0 t1280) q1285 (fun l1286 => ?_)
  obtain ⟨u1287, q1288⟩ : ∃ z, (h ((h 61 1) + 1) 2) = 2147483648 + z := ⟨(h ((h 61 1) + 1) 2) - 2147483648, by first | decide | omega⟩
  refine x_imul (np := 11) (x := 0) (i := (1 + u1287)) (j := 7) (v := (2147483655 + 7 * u1287)) (by decide +kernel) (by first | decide | omega) (by first | decide | omega) (by first | decide | omega) (by first | decide | omega) (by first | decide | omega) (by decide) ?_
  refine x_aload (np := 12) (x := 0) (by decide +kernel) rfl (x_nc_le (tn_1 t1280)) ?_
  have q1290 : h ((h 61 1) + 1) 1 = ((h 61 1) + 2) := tf_1_1 hJ t1280
  refine x_getR (np := 15) (x := 385) (f := 1) (q := ((h 61 1) + 2)) (by decide +kernel) (by decide) (tg_1_385_1_1 t1280) q1290 ?_
  refine x_alen (np := 16) (x := 0) (n := 140) (by decide +kernel) (tn_2 t1280) (tl_2 t1280).1 (tl_2 t1280).2 (by decide) ?_
  show X _ _ _ _ _ _ _ _ [iv_c 2147483788, iv_c (2147483655 + 7 * u1287)] _
  refine x_icmp (k := 5) (tg := 23) (np := 19) (by decide +kernel) (by decide) (by first | decide | omega) (by decide) (fun q1291 => ?_) (fun q1292 => ?_)
  · have q1291 : (2147483655 + 7 * u1287) ≤ 2147483788 := q1291
    refine x_const (np := 24) (x := 9223372039002259456) (a := 2147483648) (by decide +kernel) (by decide) (by decide) ?_
    refine x_retI (np := 25) (x := 0) (by decide +kernel) (by decide) (Or.inr ⟨by decide +kernel, by first | decide | omega, by first | decide | omega⟩) ⟨_, rfl, (by decide), ?_⟩
    refine x_ifz (k := 1) (tg := 48) (np := 25) (by decide +kernel) (by decide) (by decide) (fun q1293 => ?_) (fun q1294 => ?_)
    · have q1293 : 2147483648 ≠ 2147483648 := q1293
      exfalso; omega
    have q1294 : ¬ (2147483648 ≠ 2147483648) := q1294
    refine x_aload (np := 26) (x := 0) (by decide +kernel) rfl (x_nc_le (by decide)) ?_
    have q1295 : h 61 0 = 1 := by have z := jB (e := 0) 0 hJ rg_61_0_0_1 (by decide) (by decide); omega
    refine x_getR (np := 29) (x := 576) (f := 0) (q := 1) (by decide +kernel) (by decide) (by decide +kernel) q1295 ?_
    refine x_ldcB (i := 0) (idx := 35) (tx := "lend") (by rw [tb_y93]; exact List.mem_of_getElem? (i := 0) rfl) (by decide) (by rw [tb_b93]; decide +kernel) ?_
    refine x_cI (t := 6) (mj := 78) (n := 2) (rc := 8) (ml := 2) (nr := 0) (np := 34) (as := [x_r 1, x_b (0 + 1)]) (rest := []) (lo1 := [x_r 1, x_b (0 + 1)]) (by decide +kernel) (by decide) (by decide +kernel) (x_rb_of (by decide +kernel)) rfl rfl (x_wr (by decide) (x_wB (by decide) x_wn)) x_wn (by decide) rfl (c78_1_S0 hJ  (by decide) hT) (fun v1296 h1299 l1297 q1298 => ?_)
    obtain ⟨j1300, f1301, b1302, c1303, c1304, c1305⟩ := q1298
    have f1306 := Fr.trans hF f1301 (by decide)
    have b1307 := jB (e := 2) 0 j1300 rg_1_2_0_1 (by first | decide | omega) (by first | decide | omega)
    have b1308 : iv_tl 0 = 4 := by decide
    refine x_ifz (k := 0) (tg := 48) (np := 37) (by decide +kernel) (by decide) l1297 (fun q1309 => ?_) (fun q1310 => ?_)
    · have q1309 : v1296 = 2147483648 := q1309
      have b1311 := c1304 (by first | decide | omega)
      refine x_const (np := 49) (x := 9223372039002259456) (a := 2147483648) (by decide +kernel) (by decide) (by decide) ?_
      have b1312 := jB (e := 7) 0 hJ (rg_T0_7_0_1 t1280) (by first | decide | omega) (by first | decide | omega)
      have e1313 : rv h 0 = (h (h 61 1) 7) := (congrArg (fun z => svq h z 0) rfl).trans rfl
      have q1314 : h1299 61 1 = h 61 1 := f1301 61 1 (by decide +kernel)
      have q1315 : h1299 (h 61 1) 7 = h (h 61 1) 7 := jK 0 f1301 (rg_T0_7_0_1 t1280) (by first | decide | omega) (by first | decide | omega) (by decide)
      have e1316 : rv h1299 0 = (h (h 61 1) 7) := (congrArg (fun z => svq h1299 z 0) q1314).trans q1315
      have e1317 : rv h 1 = (h (h 61 1) 8) := (congrArg (fun z => svq h z 1) rfl).trans rfl
      have q1318 : h1299 61 1 = h 61 1 := f1301 61 1 (by decide +kernel)
      have q1319 : h1299 (h 61 1) 8 = h (h 61 1) 8 := jK 0 f1301 (rg_T0_8_0_1 t1280) (by first | decide | omega) (by first | decide | omega) (by decide)
      have e1320 : rv h1299 1 = (h (h 61 1) 8) := (congrArg (fun z => svq h1299 z 1) q1318).trans q1319
      have q1321 : h1299 61 1 = h 61 1 := f1301 61 1 (by decide +kernel)
      have q1322 : h1299 (h 61 1) 7 = h (h 61 1) 7 := jK 0 f1301 (rg_T0_7_0_1 t1280) (by first | decide | omega) (by first | decide | omega) (by decide)
      have q1323 : h1299 61 1 = h 61 1 := f1301 61 1 (by decide +kernel)
      have q1324 : h1299 (h 61 1) 8 = h (h 61 1) 8 := jK 0 f1301 (rg_T0_8_0_1 t1280) (by first | decide | omega) (by first | decide | omega) (by decide)
      have e1325 : rv h 2 = (h ((h 61 1) + 1) 2) := (congrArg (fun z => svq h z 2) rfl).trans rfl
      have q1326 : h1299 61 1 = h 61 1 := f1301 61 1 (by decide +kernel)
      have q1327 : h1299 ((h 61 1) + 1) 2 = h ((h 61 1) + 1) 2 := jK 0 f1301 (rg_T1_2_0_1 t1280) (by first | decide | omega) (by first | decide | omega) (by decide)
      have e1328 : rv h1299 2 = (h ((h 61 1) + 1) 2) := (congrArg (fun z => svq h1299 z 2) q1326).trans q1327
      have b1329 := jB (e := 2) 0 hJ (rg_T3_2_0_1 t1280) (by first | decide | omega) (by first | decide | omega)
      have e1330 : rv h 3 = (h ((h 61 1) + 3) 2) := (congrArg (fun z => svq h z 3) rfl).trans rfl
      have q1331 : h1299 61 1 = h 61 1 := f1301 61 1 (by decide +kernel)
      have q1332 : h1299 ((h 61 1) + 3) 2 = h ((h 61 1) + 3) 2 := jK 0 f1301 (rg_T3_2_0_1 t1280) (by first | decide | omega) (by first | decide | omega) (by decide)
      have e1333 : rv h1299 3 = (h ((h 61 1) + 3) 2) := (congrArg (fun z => svq h1299 z 3) q1331).trans q1332
      have b1334 := jB (e := 2) 0 hJ (rg_T5_2_0_1 t1280) (by first | decide | omega) (by first | decide | omega)
      have e1335 : rv h 4 = (h ((h 61 1) + 5) 2) := (congrArg (fun z => svq h z 4) rfl).trans rfl
      have q1336 : h1299 61 1 = h 61 1 := f1301 61 1 (by decide +kernel)
      have q1337 : h1299 ((h 61 1) + 5) 2 = h ((h 61 1) + 5) 2 := jK 0 f1301 (rg_T5_2_0_1 t1280) (by first | decide | omega) (by first | decide | omega) (by decide)
      have e1338 : rv h1299 4 = (h ((h 61 1) + 5) 2) := (congrArg (fun z => svq h1299 z 4) q1336).trans q1337
      have b1339 := jB (e := 2) 0 hJ (rg_T7_2_0_1 t1280) (by first | decide | omega) (by first | decide | omega)
      have e1340 : rv h 5 = (h ((h 61 1) + 7) 2) := (congrArg (fun z => svq h z 5) rfl).trans rfl
      have q1341 : h1299 61 1 = h 61 1 := f1301 61 1 (by decide +kernel)
      have q1342 : h1299 ((h 61 1) + 7) 2 = h ((h 61 1) + 7) 2 := jK 0 f1301 (rg_T7_2_0_1 t1280) (by first | decide | omega) (by first | decide | omega) (by decide)
      have e1343 : rv h1299 5 = (h ((h 61 1) + 7) 2) := (congrArg (fun z => svq h1299 z 5) q1341).trans q1342
      obtain ⟨w1344, e1345⟩ := Tk.no c1305 (by first | decide | omega)
      have m1346 : Ot (h 61 1) h h1299 := Ot.fr Ot.refl f1301 (by decide)
      refine x_retI (np := 50) (x := 0) (by decide +kernel) (by decide) (Or.inr ⟨by decide +kernel, by first | decide | omega, by first | decide | omega⟩) ⟨_, rfl, (by decide), ?_⟩
      exact ⟨j1300, f1306, (by first | decide | omega), (by first | decide | omega), (by first | decide | omega), (absurd (Is.yes c6 (by first | decide | omega)) w1344), m1346, (fun z => absurd z (by first | decide | omega)), (fun z => absurd z (by first | decide | omega)), (fun z => absurd z (by first | decide | omega))⟩
    have q1310 : ¬ (v1296 = 2147483648) := q1310
    have b1347 := c1303 (by first | decide | omega)
    refine x_aload (np := 38) (x := 0) (by decide +kernel) rfl (x_nc_le (by decide)) ?_
    have q1348 : h1299 61 1 = h 61 1 := f1301 61 1 (by decide +kernel)
    have q1349 : h1299 ((h 61 1) + 1) 2 = h ((h 61 1) + 1) 2 := jK 0 f1301 (rg_T1_2_0_1 t1280) (by first | decide | omega) (by first | decide | omega) (by decide)
    have e1350 : rv h1299 2 = (h ((h 61 1) + 1) 2) := (congrArg (fun z => svq h1299 z 2) q1348).trans q1349
    have m1354 := Tp.fr hT f1301 (by decide) (by decide)
    refine x_cI (t := 6) (mj := 94) (n := 1) (rc := 10) (ml := 2) (nr := 0) (np := 41) (as := [x_r 61]) (rest := []) (lo1 := [x_r 61, 147573952589676412928]) (by decide +kernel) (by decide) (by decide +kernel) (x_rb_of (by decide +kernel)) rfl rfl (x_wr (by decide) x_wn) x_wn (by decide) rfl (c94_61 j1300  (by first | decide | omega) m1354) (fun v1351 h1355 l1352 q1353 => ?_)
    obtain ⟨j1356, f1357, b1358, c1359, c1360, c1361, c1362, c1363, c1364, c1365, c1366⟩ := q1353
    have f1367 := Fr.trans f1306 f1357 (by decide)
    have q1368 : h1299 61 1 = h 61 1 := f1301 61 1 (by decide +kernel)
    have q1369 : h1299 (h 61 1) 7 = h (h 61 1) 7 := jK 0 f1301 (rg_T0_7_0_1 t1280) (by first | decide | omega) (by first | decide | omega) (by decide)
    have b1370 := jB (e := 7) 0 hJ (rg_T0_7_0_1 t1280) (by first | decide | omega) (by first | decide | omega)
    have e1371 : rv h1299 0 = (h (h 61 1) 7) := (congrArg (fun z => svq h1299 z 0) q1368).trans q1369
    have q1372 : h1355 61 1 = h1299 61 1 := f1357 61 1 (by decide +kernel)
    have q1373 : h1299 61 1 = h 61 1 := f1301 61 1 (by decide +kernel)
    have b1374 := jB (e := 7) 0 j1356 (rg_T0_7_0_1 t1280) (by first | decide | omega) (by first | decide | omega)
    have e1375 : rv h1355 0 = (h1355 (h 61 1) 7) := (congrArg (fun z => svq h1355 z 0) (q1372.trans q1373)).trans rfl
    have q1376 : h1299 61 1 = h 61 1 := f1301 61 1 (by decide +kernel)
    have q1377 : h1299 (h 61 1) 8 = h (h 61 1) 8 := jK 0 f1301 (rg_T0_8_0_1 t1280) (by first | decide | omega) (by first | decide | omega) (by decide)
    have e1378 : rv h1299 1 = (h (h 61 1) 8) := (congrArg (fun z => svq h1299 z 1) q1376).trans q1377
    have q1379 : h1355 61 1 = h1299 61 1 := f1357 61 1 (by decide +kernel)
    have q1380 : h1299 61 1 = h 61 1 := f1301 61 1 (by decide +kernel)
    have e1381 : rv h1355 1 = (h1355 (h 61 1) 8) := (congrArg (fun z => svq h1355 z 1) (q1379.trans q1380)).trans rfl
    have q1382 : h1299 61 1 = h 61 1 := f1301 61 1 (by decide +kernel)
    have q1383 : h1299 ((h 61 1) + 1) 2 = h ((h 61 1) + 1) 2 := jK 0 f1301 (rg_T1_2_0_1 t1280) (by first | decide | omega) (by first | decide | omega) (by decide)
    have q1384 : h1355 61 1 = h1299 61 1 := f1357 61 1 (by decide +kernel)
    have q1385 : h1299 61 1 = h 61 1 := f1301 61 1 (by decide +kernel)
    have b1386 := jB (e := 2) 0 j1356 (rg_T1_2_0_1 t1280) (by first | decide | omega) (by first | decide | omega)
    have e1387 : rv h1355 2 = (h1355 ((h 61 1) + 1) 2) := (congrArg (fun z => svq h1355 z 2) (q1384.trans q1385)).trans rfl
    have q1388 : h1299 61 1 = h 61 1 := f1301 61 1 (by decide +kernel)
    have q1389 : h1299 ((h 61 1) + 3) 2 = h ((h 61 1) + 3) 2 := jK 0 f1301 (rg_T3_2_0_1 t1280) (by first | decide | omega) (by first | decide | omega) (by decide)
    have b1390 := jB (e := 2) 0 hJ (rg_T3_2_0_1 t1280) (by first | decide | omega) (by first | decide | omega)
    have e1391 : rv h1299 3 = (h ((h 61 1) + 3) 2) := (congrArg (fun z => svq h1299 z 3) q1388).trans q1389
    have q1392 : h1355 61 1 = h1299 61 1 := f1357 61 1 (by decide +kernel)
    have q1393 : h1299 61 1 = h 61 1 := f1301 61 1 (by decide +kernel)
    have b1394 := jB (e := 2) 0 j1356 (rg_T3_2_0_1 t1280) (by first | decide | omega) (by first | decide | omega)
    have e1395 : rv h1355 3 = (h1355 ((h 61 1) + 3) 2) := (congrArg (fun z => svq h1355 z 3) (q1392.trans q1393)).trans rfl
    have q1396 : h1299 61 1 = h 61 1 := f1301 61 1 (by decide +kernel)
    have q1397 : h1299 ((h 61 1) + 5) 2 = h ((h 61 1) + 5) 2 := jK 0 f1301 (rg_T5_2_0_1 t1280) (by first | decide | omega) (by first | decide | omega) (by decide)
    have b1398 := jB (e := 2) 0 hJ (rg_T5_2_0_1 t1280) (by first | decide | omega) (by first | decide | omega)
    have e1399 : rv h1299 4 = (h ((h 61 1) + 5) 2) := (congrArg (fun z => svq h1299 z 4) q1396).trans q1397
    have q1400 : h1355 61 1 = h1299 61 1 := f1357 61 1 (by decide +kernel)
    have q1401 : h1299 61 1 = h 61 1 := f1301 61 1 (by decide +kernel)
    have b1402 := jB (e := 2) 0 j1356 (rg_T5_2_0_1 t1280) (by first | decide | omega) (by first | decide | omega)
    have e1403 : rv h1355 4 = (h1355 ((h 61 1) + 5) 2) := (congrArg (fun z => svq h1355 z 4) (q1400.trans q1401)).trans rfl
    have q1404 : h1299 61 1 = h 61 1 := f1301 61 1 (by decide +kernel)
    have q1405 : h1299 ((h 61 1) + 7) 2 = h ((h 61 1) + 7) 2 := jK 0 f1301 (rg_T7_2_0_1 t1280) (by first | decide | omega) (by first | decide | omega) (by decide)
    have b1406 := jB (e := 2) 0 hJ (rg_T7_2_0_1 t1280) (by first | decide | omega) (by first | decide | omega)
    have e1407 : rv h1299 5 = (h ((h 61 1) + 7) 2) := (congrArg (fun z => svq h1299 z 5) q1404).trans q1405
    have q1408 : h1355 61 1 = h1299 61 1 := f1357 61 1 (by decide +kernel)
    have q1409 : h1299 61 1 = h 61 1 := f1301 61 1 (by decide +kernel)
    have b1410 := jB (e := 2) 0 j1356 (rg_T7_2_0_1 t1280) (by first | decide | omega) (by first | decide | omega)
    have e1411 : rv h1355 5 = (h1355 ((h 61 1) + 7) 2) := (congrArg (fun z => svq h1355 z 5) (q1408.trans q1409)).trans rfl
    have q1412 : h1299 61 1 = h 61 1 := f1301 61 1 (by decide +kernel)
    refine x_ifz (k := 0) (tg := 48) (np := 44) (by decide +kernel) (by decide) l1352 (fun q1413 => ?_) (fun q1414 => ?_)
    · have q1413 : v1351 = 2147483648 := q1413
      refine x_const (np := 49) (x := 9223372039002259456) (a := 2147483648) (by decide +kernel) (by decide) (by decide) ?_
      have e1415 : rv h 0 = (h (h 61 1) 7) := (congrArg (fun z => svq h z 0) rfl).trans rfl
      have q1416 : h1355 61 1 = h1299 61 1 := f1357 61 1 (by decide +kernel)
      have q1417 : h1299 61 1 = h 61 1 := f1301 61 1 (by decide +kernel)
      have e1418 : rv h 1 = (h (h 61 1) 8) := (congrArg (fun z => svq h z 1) rfl).trans rfl
      have q1419 : h1355 61 1 = h1299 61 1 := f1357 61 1 (by decide +kernel)
      have q1420 : h1299 61 1 = h 61 1 := f1301 61 1 (by decide +kernel)
      have q1421 : h1355 61 1 = h1299 61 1 := f1357 61 1 (by decide +kernel)
      have q1422 : h1299 61 1 = h 61 1 := f1301 61 1 (by decide +kernel)
      have q1423 : h1355 61 1 = h1299 61 1 := f1357 61 1 (by decide +kernel)
      have q1424 : h1299 61 1 = h 61 1 := f1301 61 1 (by decide +kernel)
      have e1425 : rv h 2 = (h ((h 61 1) + 1) 2) := (congrArg (fun z => svq h z 2) rfl).trans rfl
      have q1426 : h1355 61 1 = h1299 61 1 := f1357 61 1 (by decide +kernel)
      have q1427 : h1299 61 1 = h 61 1 := f1301 61 1 (by decide +kernel)
      have e1428 : rv h 3 = (h ((h 61 1) + 3) 2) := (congrArg (fun z => svq h z 3) rfl).trans rfl
      have q1429 : h1355 61 1 = h1299 61 1 := f1357 61 1 (by decide +kernel)
      have q1430 : h1299 61 1 = h 61 1 := f1301 61 1 (by decide +kernel)
      have e1431 : rv h 4 = (h ((h 61 1) + 5) 2) := (congrArg (fun z => svq h z 4) rfl).trans rfl
      have q1432 : h1355 61 1 = h1299 61 1 := f1357 61 1 (by decide +kernel)
      have q1433 : h1299 61 1 = h 61 1 := f1301 61 1 (by decide +kernel)
      have e1434 : rv h 5 = (h ((h 61 1) + 7) 2) := (congrArg (fun z => svq h z 5) rfl).trans rfl
      have q1435 : h1355 61 1 = h1299 61 1 := f1357 61 1 (by decide +kernel)
      have q1436 : h1299 61 1 = h 61 1 := f1301 61 1 (by decide +kernel)
      obtain ⟨w1437, e1438⟩ := Tk.yes c1305 (by first | decide | omega)
      have q1439 : h1299 61 1 = h 61 1 := f1301 61 1 (by decide +kernel)
      have q1440 : h1299 (h 61 1) 7 = h (h 61 1) 7 := jK 0 f1301 (rg_T0_7_0_1 t1280) (by first | decide | omega) (by first | decide | omega) (by decide)
      have k1441 : loan9 tB tN (rv h 0) (h1299 1 2) (rs v1351 (h1355 1 2)) := by rw [show rv h 0 = rv h1299 0 by first | decide | omega]; exact c1365
      have m1442 : Ot (h 61 1) h h1299 := Ot.fr Ot.refl f1301 (by decide)
      have m1443 : Ot (h 61 1) h h1355 := Ot.trans m1442 (Ot.cast c1366 q1412)
      refine x_retI (np := 50) (x := 0) (by decide +kernel) (by decide) (Or.inr ⟨by decide +kernel, by first | decide | omega, by first | decide | omega⟩) ⟨_, rfl, (by decide), ?_⟩
      exact ⟨j1356, f1367, (by first | decide | omega), (by first | decide | omega), (by first | decide | omega), (l9_lend w1437 rfl (by first | decide | omega) e1438 rfl k1441 (by first | decide | omega) (by first | decide | omega) (fun z => absurd z (by first | decide | omega))), m1443, (fun z => absurd z (by first | decide | omega)), (fun z => absurd z (by first | decide | omega)), (fun z => absurd z (by first | decide | omega))⟩
    have q1414 : ¬ (v1351 = 2147483648) := q1414
    have b1444 := c1361 (by first | decide | omega)
    refine x_const (np := 45) (x := 9223372043297226753) (a := 2147483649) (by decide +kernel) (by decide) (by decide) ?_
    refine x_goto (np := 48) (x := 49) (by decide +kernel) ?_
    have e1445 : rv h 0 = (h (h 61 1) 7) := (congrArg (fun z => svq h z 0) rfl).trans rfl
    have q1446 : h1355 61 1 = h1299 61 1 := f1357 61 1 (by decide +kernel)
    have q1447 : h1299 61 1 = h 61 1 := f1301 61 1 (by decide +kernel)
    have e1448 : rv h 1 = (h (h 61 1) 8) := (congrArg (fun z => svq h z 1) rfl).trans rfl
    have q1449 : h1355 61 1 = h1299 61 1 := f1357 61 1 (by decide +kernel)
    have q1450 : h1299 61 1 = h 61 1 := f1301 61 1 (by decide +kernel)
    have q1451 : h1355 61 1 = h1299 61 1 := f1357 61 1 (by decide +kernel)
    have q1452 : h1299 61 1 = h 61 1 := f1301 61 1 (by decide +kernel)
    have q1453 : h1355 61 1 = h1299 61 1 := f1357 61 1 (by decide +kernel)
    have q1454 : h1299 61 1 = h 61 1 := f1301 61 1 (by decide +kernel)
    have e1455 : rv h 2 = (h ((h 61 1) + 1) 2) := (congrArg (fun z => svq h z 2) rfl).trans rfl
    have q1456 : h1355 61 1 = h1299 61 1 := f1357 61 1 (by decide +kernel)
    have q1457 : h1299 61 1 = h 61 1 := f1301 61 1 (by decide +kernel)
    have e1458 : rv h 3 = (h ((h 61 1) + 3) 2) := (congrArg (fun z => svq h z 3) rfl).trans rfl
    have q1459 : h1355 61 1 = h1299 61 1 := f1357 61 1 (by decide +kernel)
    have q1460 : h1299 61 1 = h 61 1 := f1301 61 1 (by decide +kernel)
    have e1461 : rv h 4 = (h ((h 61 1) + 5) 2) := (congrArg (fun z => svq h z 4) rfl).trans rfl
    have q1462 : h1355 61 1 = h1299 61 1 := f1357 61 1 (by decide +kernel)
    have q1463 : h1299 61 1 = h 61 1 := f1301 61 1 (by decide +kernel)
    have e1464 : rv h 5 = (h ((h 61 1) + 7) 2) := (congrArg (fun z => svq h z 5) rfl).trans rfl
    have q1465 : h1355 61 1 = h1299 61 1 := f1357 61 1 (by decide +kernel)
    have q1466 : h1299 61 1 = h 61 1 := f1301 61 1 (by decide +kernel)
    obtain ⟨w1467, e1468⟩ := Tk.yes c1305 (by first | decide | omega)
    have q1469 : h1299 61 1 = h 61 1 := f1301 61 1 (by decide +kernel)
    have q1470 : h1299 (h 61 1) 7 = h (h 61 1) 7 := jK 0 f1301 (rg_T0_7_0_1 t1280) (by first | decide | omega) (by first | decide | omega) (by decide)
    have k1471 : loan9 tB tN (rv h 0) (h1299 1 2) (rs v1351 (h1355 1 2)) := by rw [show rv h 0 = rv h1299 0 by first | decide | omega]; exact c1365
    have m1472 : Ot (h 61 1) h h1299 := Ot.fr Ot.refl f1301 (by decide)
    have m1473 : Ot (h 61 1) h h1355 := Ot.trans m1472 (Ot.cast c1366 q1412)
    have q1474 : h1355 61 1 = h1299 61 1 := f1357 61 1 (by decide +kernel)
    have q1475 : h1299 61 1 = h 61 1 := f1301 61 1 (by decide +kernel)
    have m1476 : ∀ u, u < 10 → wq h1355 (h 61 1) u = wq h (h 61 1) u := fun u hu => (Eq.trans (wq_gr t1280 f1357 (by decide) u hu) (wq_gr t1280 f1301 (by decide) u hu))
    have m1477 : ∀ u, u < 6 → xq h1355 (h 61 1) u = xq h (h 61 1) u := fun u hu => (Eq.trans (xq_gr t1280 f1357 (by decide) u hu) (xq_gr t1280 f1301 (by decide) u hu))
    have m1478 : ∀ u, u < 10 → aq h1355 (h 61 1) u = aq h (h 61 1) u := fun u hu => (Eq.trans (aq_gr t1280 f1357 (by decide) u hu) (aq_gr t1280 f1301 (by decide) u hu))
    have m1479 : ∀ u, u < 10 → bq h1355 (h 61 1) u = bq h (h 61 1) u := fun u hu => (Eq.trans (bq_gr t1280 f1357 (by decide) u hu) (bq_gr t1280 f1301 (by decide) u hu))
    refine x_retI (np := 50) (x := 0) (by decide +kernel) (by decide) (Or.inr ⟨by decide +kernel, by first | decide | omega, by first | decide | omega⟩) ⟨_, rfl, (by decide), ?_⟩
    exact ⟨j1356, f1367, (by first | decide | omega), (by first | decide | omega), (by first | decide | omega), (l9_lend w1467 rfl (by first | decide | omega) e1468 rfl k1471 (by first | decide | omega) (by first | decide | omega) (fun z => ⟨rfl, by first | decide | omega, by first | decide | omega, by first | decide | omega, by first | decide | omega⟩)), m1473, (fun _ => Wl.refl (by first | decide | omega) m1476), (fun _ => Lx.oth (Is.yes c6 (by first | decide | omega)) rfl (by decide) (by decide) m1477), (fun _ => Sl.oth (Is.yes c6 (by first | decide | omega)) rfl (by decide) (by decide) (ab2 m1478 m1479))⟩
  have q1292 : ¬ ((2147483655 + 7 * u1287) ≤ 2147483788) := q1292
  refine x_const (np := 20) (x := 9223372043297226753) (a := 2147483649) (by decide +kernel) (by decide) (by decide) ?_
  refine x_goto (np := 23) (x := 24) (by decide +kernel) ?_
  refine x_retI (np := 25) (x := 0) (by decide +kernel) (by decide) (Or.inr ⟨by decide +kernel, by first | decide | omega, by first | decide | omega⟩) ⟨_, rfl, (by decide), ?_⟩
  refine x_ifz (k := 1) (tg := 48) (np := 25) (by decide +kernel) (by decide) (by decide) (fun q1480 => ?_) (fun q1481 => ?_)
  · have q1480 : 2147483649 ≠ 2147483648 := q1480
    refine x_const (np := 49) (x := 9223372039002259456) (a := 2147483648) (by decide +kernel) (by decide) (by decide) ?_
    have b1482 := jB (e := 7) 0 hJ (rg_T0_7_0_1 t1280) (by first | decide | omega) (by first | decide | omega)
    have e1483 : rv h 0 = (h (h 61 1) 7) := (congrArg (fun z => svq h z 0) rfl).trans rfl
    have e1484 : rv h 1 = (h (h 61 1) 8) := (congrArg (fun z => svq h z 1) rfl).trans rfl
    have e1485 : rv h 2 = (h ((h 61 1) + 1) 2) := (congrArg (fun z => svq h z 2) rfl).trans rfl
    have b1486 := jB (e := 2) 0 hJ (rg_T3_2_0_1 t1280) (by first | decide | omega) (by first | decide | omega)
    have e1487 : rv h 3 = (h ((h 61 1) + 3) 2) := (congrArg (fun z => svq h z 3) rfl).trans rfl
    have b1488 := jB (e := 2) 0 hJ (rg_T5_2_0_1 t1280) (by first | decide | omega) (by first | decide | omega)
    have e1489 : rv h 4 = (h ((h 61 1) + 5) 2) := (congrArg (fun z => svq h z 4) rfl).trans rfl
    have b1490 := jB (e := 2) 0 hJ (rg_T7_2_0_1 t1280) (by first | decide | omega) (by first | decide | omega)
    have e1491 : rv h 5 = (h ((h 61 1) + 7) 2) := (congrArg (fun z => svq h z 5) rfl).trans rfl
    refine x_retI (np := 50) (x := 0) (by decide +kernel) (by decide) (Or.inr ⟨by decide +kernel, by first | decide | omega, by first | decide | omega⟩) ⟨_, rfl, (by decide), ?_⟩
    exact ⟨hJ, hF, (by first | decide | omega), (by first | decide | omega), (by first | decide | omega), (l9_lend0 (Is.yes c6 (by first | decide | omega)) rfl (by first | decide | omega) (by first | decide | omega)), Ot.refl, (fun z => absurd z (by first | decide | omega)), (fun z => absurd z (by first | decide | omega)), (fun z => absurd z (by first | decide | omega))⟩
  have q1481 : ¬ (2147483649 ≠ 2147483648) := q1481
  exfalso; omega
set_option maxHeartbeats 0 in
/-- LentNames$Tape.isSign(C)Z -/
theorem c75_1 {sc : Nat × Nat} {d a1 : Nat} {h : xh} {tB : Nat → Nat} {tN : Nat} (hJ : J h) (ba1 : 2147483648 ≤ a1 ∧ a1 ≤ 2147483775) (hT : Tp tB tN h) : X sc 75 (d + 1) (xI fun r h' => h' = h ∧ (2147483648 ≤ r ∧ r ≤ 2147483649) ∧ (r = 2147483649 → h 1 2 + 1 ≤ 2147484048) ∧ Is (Sg tB tN a1 (h 1 2)) r) 0 0 0 [x_r 1, iv_c a1] [] h := by
  have la1 : a1 < 4294967296 := by first | decide | omega
  refine x_aload (np := 1) (x := 0) (by decide +kernel) rfl (x_nc_le (by decide)) ?_
  refine x_aload (np := 2) (x := 0) (by decide +kernel) rfl (x_nc_le (by decide)) ?_
  have b1 := jB (e := 2) 0 hJ rg_1_2_0_1 (by first | decide | omega) (by first | decide | omega)
  refine x_getC (np := 5) (x := 450) (f := 2) (q := (h 1 2)) (by decide +kernel) (by decide) (by decide +kernel) rfl (fun l2 => ?_)
  refine x_nI (t := 6) (mj := 81) (n := 2) (rc := 8) (ml := 2) (nr := 0) (np := 8) (as := [x_r 1, iv_c (h 1 2)]) (rest := []) (lo1 := [x_r 1, iv_c (h 1 2)]) (by decide +kernel) (by decide) (by decide +kernel) (x_rb_of (by decide +kernel)) rfl rfl (x_wr (by decide) (x_wi l2 x_wn)) x_wn (by decide) rfl ?_
  refine x_iload (np := 1) (x := 1) (by decide +kernel) rfl l2 ?_
  refine x_aload (np := 2) (x := 0) (by decide +kernel) rfl (x_nc_le (by decide)) ?_
  have b3 := jB (e := 1) 0 hJ rg_1_1_0_1 (by first | decide | omega) (by first | decide | omega)
  refine x_getC (np := 5) (x := 449) (f := 1) (q := (h 1 1)) (by decide +kernel) (by decide) (by decide +kernel) rfl (fun l4 => ?_)
  refine x_icmp (k := 3) (tg := 17) (np := 8) (by decide +kernel) (by decide) l2 l4 (fun q5 => ?_) (fun q6 => ?_)
  · have q5 : (h 1 1) ≤ (h 1 2) := q5
    refine x_const (np := 18) (x := 9223372034707292159) (a := 2147483647) (by decide +kernel) (by decide) (by decide) ?_
    refine x_retI (np := 19) (x := 0) (by decide +kernel) (by decide) (Or.inl (by decide +kernel)) ⟨_, rfl, (by decide), ?_⟩
    refine x_iload (np := 9) (x := 1) (by decide +kernel) rfl la1 ?_
    refine x_icmp (k := 1) (tg := 16) (np := 12) (by decide +kernel) (by decide) (by decide) la1 (fun q7 => ?_) (fun q8 => ?_)
    · have q7 : 2147483647 ≠ a1 := q7
      refine x_const (np := 17) (x := 9223372039002259456) (a := 2147483648) (by decide +kernel) (by decide) (by decide) ?_
      have z9 := hT.1
      refine x_retI (np := 18) (x := 0) (by decide +kernel) (by decide) (Or.inr ⟨by decide +kernel, by first | decide | omega, by first | decide | omega⟩) ⟨_, rfl, (by decide), ?_⟩
      exact ⟨rfl, (by first | decide | omega), (fun z => by first | decide | omega), (Is.mk0 (by first | decide | omega) (fun z => by have z1 := z.1; have z2 := z.2; omega))⟩
    have q8 : ¬ (2147483647 ≠ a1) := q8
    exfalso; omega
  have q6 : ¬ ((h 1 1) ≤ (h 1 2)) := q6
  refine x_aload (np := 9) (x := 0) (by decide +kernel) rfl (x_nc_le (by decide)) ?_
  have q10 : h 1 0 = 2 := by have z := jB (e := 0) 0 hJ rg_1_0_0_1 (by decide) (by decide); omega
  refine x_getR (np := 12) (x := 448) (f := 0) (q := 2) (by decide +kernel) (by decide) (by decide +kernel) q10 ?_
  refine x_iload (np := 13) (x := 1) (by decide +kernel) rfl l2 ?_
  obtain ⟨u11, q12⟩ : ∃ z, (h 1 2) = 2147483648 + z := ⟨(h 1 2) - 2147483648, by first | decide | omega⟩
  refine x_aldC (np := 14) (x := 0) (n := 400) (i := u11) (q := (h 2 u11)) (by decide +kernel) (by decide +kernel) (by first | decide | omega) (by first | decide | omega) (by decide) rfl (fun l13 => ?_)
  refine x_goto (np := 17) (x := 18) (by decide +kernel) ?_
  refine x_retI (np := 19) (x := 0) (by decide +kernel) l13 (Or.inl (by decide +kernel)) ⟨_, rfl, l13, ?_⟩
  refine x_iload (np := 9) (x := 1) (by decide +kernel) rfl la1 ?_
  refine x_icmp (k := 1) (tg := 16) (np := 12) (by decide +kernel) (by decide) l13 la1 (fun q14 => ?_) (fun q15 => ?_)
  · have q14 : (h 2 u11) ≠ a1 := q14
    refine x_const (np := 17) (x := 9223372039002259456) (a := 2147483648) (by decide +kernel) (by decide) (by decide) ?_
    have z16 := hT.1
    have z17 := Tp.at (p := (h 1 2)) (u := u11) hT (by first | decide | omega) (by first | decide | omega)
    refine x_retI (np := 18) (x := 0) (by decide +kernel) (by decide) (Or.inr ⟨by decide +kernel, by first | decide | omega, by first | decide | omega⟩) ⟨_, rfl, (by decide), ?_⟩
    exact ⟨rfl, (by first | decide | omega), (fun z => by first | decide | omega), (Is.mk0 (by first | decide | omega) (fun z => by have z1 := z.1; have z2 := z.2; omega))⟩
  have q15 : ¬ ((h 2 u11) ≠ a1) := q15
  refine x_const (np := 13) (x := 9223372043297226753) (a := 2147483649) (by decide +kernel) (by decide) (by decide) ?_
  refine x_goto (np := 16) (x := 17) (by decide +kernel) ?_
  have z18 := hT.1
  have z19 := Tp.at (p := (h 1 2)) (u := u11) hT (by first | decide | omega) (by first | decide | omega)
  refine x_retI (np := 18) (x := 0) (by decide +kernel) (by decide) (Or.inr ⟨by decide +kernel, by first | decide | omega, by first | decide | omega⟩) ⟨_, rfl, (by decide), ?_⟩
  exact ⟨rfl, (by first | decide | omega), (fun z => by first | decide | omega), (Is.mk1 (by first | decide | omega) ⟨by first | decide | omega, by first | decide | omega⟩)⟩
set_option maxHeartbeats 0 in
/-- LentNames$Tape.takesSign(C)Z -/
theorem c76_1 {sc : Nat × Nat} {d a1 : Nat} {h : xh} {tB : Nat → Nat} {tN : Nat} (hJ : J h) (ba1 : 2147483648 ≤ a1 ∧ a1 ≤ 2147483775) (hT : Tp tB tN h) : X sc 76 (d + 2) (xI fun r h' => J h' ∧ Fr 33 h h' ∧ (2147483648 ≤ r ∧ r ≤ 2147483649) ∧ (r = 2147483649 → h 1 2 + 1 ≤ h' 1 2) ∧ (r = 2147483648 → h' 1 2 = h 1 2) ∧ Tk (Sg tB tN a1 (h 1 2)) tB tN (h 1 2) 1 r (h' 1 2)) 0 0 0 [x_r 1, iv_c a1] [] h := by
  have la1 : a1 < 4294967296 := by first | decide | omega
  have hF := Fr.refl 33 h
  refine x_aload (np := 1) (x := 0) (by decide +kernel) rfl (x_nc_le (by decide)) ?_
  refine x_iload (np := 2) (x := 1) (by decide +kernel) rfl la1 ?_
  refine x_cP (t := 6) (mj := 75) (n := 2) (rc := 8) (ml := 2) (nr := 0) (np := 5) (as := [x_r 1, iv_c a1]) (rest := []) (lo1 := [x_r 1, iv_c a1]) (by decide +kernel) (by decide) (by decide +kernel) (x_rb_of (by decide +kernel)) rfl rfl (x_wr (by decide) (x_wi la1 x_wn)) x_wn (by decide) rfl (c75_1 hJ  (by first | decide | omega) hT) (fun v1 l2 q3 => ?_)
  obtain ⟨b6, c4, c5⟩ := q3
  have b7 := jB (e := 1) 0 hJ rg_1_1_0_1 (by first | decide | omega) (by first | decide | omega)
  have b8 := jB (e := 2) 0 hJ rg_1_2_0_1 (by first | decide | omega) (by first | decide | omega)
  refine x_ifz (k := 1) (tg := 10) (np := 8) (by decide +kernel) (by decide) l2 (fun q9 => ?_) (fun q10 => ?_)
  · have q9 : v1 ≠ 2147483648 := q9
    have b11 := c4 (by first | decide | omega)
    refine x_aload (np := 11) (x := 0) (by decide +kernel) rfl (x_nc_le (by decide)) ?_
    refine x_aload (np := 12) (x := 0) (by decide +kernel) rfl (x_nc_le (by decide)) ?_
    refine x_getC (np := 15) (x := 450) (f := 2) (q := (h 1 2)) (by decide +kernel) (by decide) (by decide +kernel) rfl (fun l12 => ?_)
    refine x_const (np := 16) (x := 9223372043297226753) (a := 2147483649) (by decide +kernel) (by decide) (by decide) ?_
    refine x_iadd (np := 17) (x := 0) (v := (1 + (h 1 2))) (by decide +kernel) l12 (by decide) (by first | decide | omega) (by first | decide | omega) ?_
    refine x_cV (t := 6) (mj := 80) (n := 2) (rc := 8) (ml := 2) (nr := 0) (np := 20) (as := [x_r 1, iv_c (1 + (h 1 2))]) (rest := []) (lo1 := [x_r 1, iv_c (1 + (h 1 2))]) (by decide +kernel) (by decide) (by decide +kernel) (x_rb_of (by decide +kernel)) rfl rfl (x_wr (by decide) (x_wi (by first | decide | omega) x_wn)) x_wn (by decide) rfl (c80_1 hJ  (by first | decide | omega) hT) (fun h16 q15 => ?_)
    obtain ⟨j17, f18, c21, c22⟩ := q15
    have f23 := Fr.trans hF f18 (by decide)
    have b24 := jB (e := 2) 0 j17 rg_1_2_0_1 (by first | decide | omega) (by first | decide | omega)
    refine x_const (np := 21) (x := 9223372043297226753) (a := 2147483649) (by decide +kernel) (by decide) (by decide) ?_
    refine x_retI (np := 22) (x := 0) (by decide +kernel) (by decide) (Or.inr ⟨by decide +kernel, by first | decide | omega, by first | decide | omega⟩) ⟨_, rfl, (by decide), ?_⟩
    exact ⟨j17, f23, (by first | decide | omega), (fun z => by first | decide | omega), (fun z => by first | decide | omega), (Tk.mk1 (by first | decide | omega) (Is.yes c5 (by first | decide | omega)) c22 (by first | decide | omega))⟩
  have q10 : ¬ (v1 ≠ 2147483648) := q10
  refine x_const (np := 9) (x := 9223372039002259456) (a := 2147483648) (by decide +kernel) (by decide) (by decide) ?_
  refine x_retI (np := 10) (x := 0) (by decide +kernel) (by decide) (Or.inr ⟨by decide +kernel, by first | decide | omega, by first | decide | omega⟩) ⟨_, rfl, (by decide), ?_⟩
  exact ⟨hJ, hF, (by first | decide | omega), (fun z => by first | decide | omega), (fun z => by first | decide | omega), (Tk.mk0 (by first | decide | omega) (Is.no c5 (by first | decide | omega)) rfl)⟩
set_option maxHeartbeats 0 in
/-- LentNames$TownReader.reads(LLentNames$Town;)Z -/
theorem c92_61_T0 {sc : Nat × Nat} {d ra1 : Nat} {h : xh} {tB : Nat → Nat} {tN : Nat} (hJ : J h) (ta1 : tw ra1) (hT : Tp tB tN h) : X sc 92 (d + 9) (xI fun r h' => J h' ∧ Fr 63331869759914145 h h' ∧ (2147483648 ≤ r ∧ r ≤ 2147483649) ∧ (h' ra1 7 = h ra1 7) ∧ (h' ra1 8 = h ra1 8) ∧ Tt tB tN (h ra1 7) (h (ra1 + 1) 2) (h (ra1 + 3) 2) (h (ra1 + 5) 2) (h (ra1 + 7) 2) (rs4 r (h' (ra1 + 1) 2) (h' (ra1 + 3) 2) (h' (ra1 + 5) 2) (h' (ra1 + 7) 2)) ∧ Ot ra1 h h' ∧ (r = 2147483649 → Wl (wq h ra1) (wq h' ra1) (h (ra1 + 3) 2) (h' (ra1 + 3) 2)) ∧ (r = 2147483649 → Tx tB tN (h ra1 7) (h (ra1 + 1) 2) (h (ra1 + 3) 2) (h (ra1 + 5) 2) (h (ra1 + 7) 2) (fun b => xq h ra1 b) (fun b => xq h' ra1 b)) ∧ (r = 2147483649 → Tz tB tN (h ra1 7) (h (ra1 + 1) 2) (h (ra1 + 3) 2) (h (ra1 + 5) 2) (h (ra1 + 7) 2) (ab (aq h ra1) (bq h ra1)) (ab (aq h' ra1) (bq h' ra1)))) 0 0 0 [x_r 61, x_r ra1, 147573952589676412928] [] h := by
  have hF := Fr.refl 63331869759914145 h
  refine x_aload (np := 1) (x := 0) (by decide +kernel) rfl (x_nc_le (by decide)) ?_
  refine x_aload (np := 2) (x := 1) (by decide +kernel) rfl (x_nc_le (tn_0 ta1)) ?_
  refine x_putR (np := 5) (x := 8769) (f := 1) (by decide +kernel) (by decide +kernel) (tn_0 ta1) (by decide) ?_
  have j2 := J_upW (k := 61) (i := 1) hJ ta1 (by decide)
  have f4 := Fr.up (k := 61) (i := 1) (v := ra1) hF (by decide +kernel)
  generalize e3 : x_up h 61 1 ra1 = h1 at j2 f4 ⊢
  refine x_aload (np := 6) (x := 0) (by decide +kernel) rfl (x_nc_le (by decide)) ?_
  have q5 : h1 61 0 = 1 := by have z := jB (e := 0) 0 j2 rg_61_0_0_1 (by decide) (by decide); omega
  refine x_getR (np := 9) (x := 576) (f := 0) (q := 1) (by decide +kernel) (by decide) (by decide +kernel) q5 ?_
  refine x_nV (t := 6) (mj := 73) (n := 1) (rc := 8) (ml := 1) (nr := 0) (np := 12) (as := [x_r 1]) (rest := []) (lo1 := [x_r 1]) (by decide +kernel) (by decide) (by decide +kernel) (x_rb_of (by decide +kernel)) rfl rfl (x_wr (by decide) x_wn) x_wn (by decide) rfl ?_
  refine x_aload (np := 1) (x := 0) (by decide +kernel) rfl (x_nc_le (by decide)) ?_
  refine x_const (np := 2) (x := 9223372039002259456) (a := 2147483648) (by decide +kernel) (by decide) (by decide) ?_
  have m9 : Tp tB tN h1 := by rw [← e3]; exact Tp.oth hT (by decide) (by decide)
  refine x_cV (t := 6) (mj := 80) (n := 2) (rc := 8) (ml := 2) (nr := 0) (np := 5) (as := [x_r 1, iv_c 2147483648]) (rest := []) (lo1 := [x_r 1, iv_c 2147483648]) (by decide +kernel) (by decide) (by decide +kernel) (x_rb_of (by decide +kernel)) rfl rfl (x_wr (by decide) (x_wi (by decide) x_wn)) x_wn (by decide) rfl (c80_1 j2  (by first | decide | omega) m9) (fun h10 q8 => ?_)
  obtain ⟨j11, f12, c15, c16⟩ := q8
  have f17 := Fr.trans f4 f12 (by decide)
  have b18 := jB (e := 2) 0 j11 rg_1_2_0_1 (by first | decide | omega) (by first | decide | omega)
  refine x_retV (np := 6) (x := 0) (by decide +kernel) (by decide +kernel) ⟨rfl, ?_⟩
  refine x_aload (np := 13) (x := 0) (by decide +kernel) rfl (x_nc_le (by decide)) ?_
  have q19 : h10 61 0 = 1 := by have z := jB (e := 0) 0 j11 rg_61_0_0_1 (by decide) (by decide); omega
  refine x_getR (np := 16) (x := 576) (f := 0) (q := 1) (by decide +kernel) (by decide) (by decide +kernel) q19 ?_
  refine x_nI (t := 6) (mj := 74) (n := 1) (rc := 8) (ml := 1) (nr := 0) (np := 19) (as := [x_r 1]) (rest := []) (lo1 := [x_r 1]) (by decide +kernel) (by decide) (by decide +kernel) (x_rb_of (by decide +kernel)) rfl rfl (x_wr (by decide) x_wn) x_wn (by decide) rfl ?_
  refine x_aload (np := 1) (x := 0) (by decide +kernel) rfl (x_nc_le (by decide)) ?_
  refine x_getC (np := 4) (x := 450) (f := 2) (q := (h10 1 2)) (by decide +kernel) (by decide) (by decide +kernel) rfl (fun l20 => ?_)
  refine x_aload (np := 5) (x := 0) (by decide +kernel) rfl (x_nc_le (by decide)) ?_
  have q21 : h10 1 1 = h1 1 1 := jK 0 f12 rg_1_1_0_1 (by first | decide | omega) (by first | decide | omega) (by decide)
  have q22 : h1 1 1 = h 1 1 := by rw [← e3]; exact x_up_k (by decide)
  have b23 := jB (e := 1) 0 hJ rg_1_1_0_1 (by first | decide | omega) (by first | decide | omega)
  refine x_getC (np := 8) (x := 449) (f := 1) (q := (h 1 1)) (by decide +kernel) (by decide) (by decide +kernel) (q21.trans q22) (fun l24 => ?_)
  refine x_icmp (k := 2) (tg := 15) (np := 11) (by decide +kernel) (by decide) l20 l24 (fun q25 => ?_) (fun q26 => ?_)
  · have q25 : (h10 1 2) < (h 1 1) := q25
    refine x_const (np := 16) (x := 9223372039002259456) (a := 2147483648) (by decide +kernel) (by decide) (by decide) ?_
    refine x_retI (np := 17) (x := 0) (by decide +kernel) (by decide) (Or.inr ⟨by decide +kernel, by first | decide | omega, by first | decide | omega⟩) ⟨_, rfl, (by decide), ?_⟩
    refine x_ifz (k := 0) (tg := 24) (np := 22) (by decide +kernel) (by decide) (by decide) (fun q27 => ?_) (fun q28 => ?_)
    · have q27 : 2147483648 = 2147483648 := q27
      refine x_const (np := 25) (x := 9223372039002259456) (a := 2147483648) (by decide +kernel) (by decide) (by decide) ?_
      refine x_istore (np := 26) (x := 2) (lo' := [x_r 61, x_r ra1, iv_c 2147483648]) (by decide +kernel) (by decide) (Nat.le_of_ble_eq_true rfl) rfl ?_
      have p1475 : ∀ (n : Nat) (v1470 : Nat) (h1472 : xh), 4294967296 - v1470 < n → (2147483648 ≤ v1470 ∧ v1470 ≤ 2147483662) → rv h1472 0 = h ra1 7 → rv h1472 1 = h ra1 8 → J h1472 → Fr 63331869759897761 h10 h1472 → Tl tB tN (h ra1 7) (h (ra1 + 1) 2) (h (ra1 + 3) 2) (h (ra1 + 5) 2) (h (ra1 + 7) 2) (2147483662 - v1470) (rv h1472 2) (rv h1472 3) (rv h1472 4) (rv h1472 5) (h1472 1 2) → Ot ra1 h h1472 → Wl (wq h ra1) (wq h1472 ra1) (h (ra1 + 3) 2) (rv h1472 3) → Txl tB tN (h ra1 7) (h (ra1 + 1) 2) (h (ra1 + 3) 2) (h (ra1 + 5) 2) (h (ra1 + 7) 2) (fun b => xq h ra1 b) (2147483662 - v1470) (rv h1472 2) (rv h1472 3) (rv h1472 4) (rv h1472 5) (h1472 1 2) (fun b => xq h1472 ra1 b) → Tzl tB tN (h ra1 7) (h (ra1 + 1) 2) (h (ra1 + 3) 2) (h (ra1 + 5) 2) (h (ra1 + 7) 2) (ab (aq h ra1) (bq h ra1)) (2147483662 - v1470) (rv h1472 2) (rv h1472 3) (rv h1472 4) (rv h1472 5) (h1472 1 2) (ab (aq h1472 ra1) (bq h1472 ra1)) → X sc 92 (d + 9) (xI fun r h' => J h' ∧ Fr 63331869759914145 h h' ∧ (2147483648 ≤ r ∧ r ≤ 2147483649) ∧ (h' ra1 7 = h ra1 7) ∧ (h' ra1 8 = h ra1 8) ∧ Tt tB tN (h ra1 7) (h (ra1 + 1) 2) (h (ra1 + 3) 2) (h (ra1 + 5) 2) (h (ra1 + 7) 2) (rs4 r (h' (ra1 + 1) 2) (h' (ra1 + 3) 2) (h' (ra1 + 5) 2) (h' (ra1 + 7) 2)) ∧ Ot ra1 h h' ∧ (r = 2147483649 → Wl (wq h ra1) (wq h' ra1) (h (ra1 + 3) 2) (h' (ra1 + 3) 2)) ∧ (r = 2147483649 → Tx tB tN (h ra1 7) (h (ra1 + 1) 2) (h (ra1 + 3) 2) (h (ra1 + 5) 2) (h (ra1 + 7) 2) (fun b => xq h ra1 b) (fun b => xq h' ra1 b)) ∧ (r = 2147483649 → Tz tB tN (h ra1 7) (h (ra1 + 1) 2) (h (ra1 + 3) 2) (h (ra1 + 5) 2) (h (ra1 + 7) 2) (ab (aq h ra1) (bq h ra1)) (ab (aq h' ra1) (bq h' ra1)))) 0 0 26 [x_r 61, x_r ra1, iv_c v1470] [] h1472 := by
        intro n
        induction n with
        | zero => intro v1470 h1472 q1483; exact absurd q1483 (Nat.not_lt_zero _)
        | succ n i1484 =>
          intro v1470 h1472 q1483 b1471 b1476 b1477 j1474 f1473 m1478 m1479 m1480 m1481 m1482
          have f1485 := Fr.trans f17 f1473 (by decide)
          have b1486 := jB (e := 2) 0 j1474 rg_1_2_0_1 (by first | decide | omega) (by first | decide | omega)
          have q1487 : h1472 61 1 = h10 61 1 := f1473 61 1 (by decide +kernel)
          have q1488 : h10 61 1 = h1 61 1 := f12 61 1 (by decide +kernel)
          have q1489 : h1 61 1 = ra1 := by rw [← e3]; exact x_up_at
          have b1490 := jB (e := 7) 0 j1474 (rg_T0_7_0_1 ta1) (by first | decide | omega) (by first | decide | omega)
          have e1491 : rv h1472 0 = (h1472 ra1 7) := (congrArg (fun z => svq h1472 z 0) ((q1487.trans q1488).trans q1489)).trans rfl
          have q1492 : h1472 61 1 = h10 61 1 := f1473 61 1 (by decide +kernel)
          have q1493 : h10 61 1 = h1 61 1 := f12 61 1 (by decide +kernel)
          have q1494 : h1 61 1 = ra1 := by rw [← e3]; exact x_up_at
          have e1495 : rv h1472 1 = (h1472 ra1 8) := (congrArg (fun z => svq h1472 z 1) ((q1492.trans q1493).trans q1494)).trans rfl
          have q1496 : h1472 61 1 = h10 61 1 := f1473 61 1 (by decide +kernel)
          have q1497 : h10 61 1 = h1 61 1 := f12 61 1 (by decide +kernel)
          have q1498 : h1 61 1 = ra1 := by rw [← e3]; exact x_up_at
          have b1499 := jB (e := 2) 0 j1474 (rg_T1_2_0_1 ta1) (by first | decide | omega) (by first | decide | omega)
          have e1500 : rv h1472 2 = (h1472 (ra1 + 1) 2) := (congrArg (fun z => svq h1472 z 2) ((q1496.trans q1497).trans q1498)).trans rfl
          have q1501 : h1472 61 1 = h10 61 1 := f1473 61 1 (by decide +kernel)
          have q1502 : h10 61 1 = h1 61 1 := f12 61 1 (by decide +kernel)
          have q1503 : h1 61 1 = ra1 := by rw [← e3]; exact x_up_at
          have b1504 := jB (e := 2) 0 j1474 (rg_T3_2_0_1 ta1) (by first | decide | omega) (by first | decide | omega)
          have e1505 : rv h1472 3 = (h1472 (ra1 + 3) 2) := (congrArg (fun z => svq h1472 z 3) ((q1501.trans q1502).trans q1503)).trans rfl
          have q1506 : h1472 61 1 = h10 61 1 := f1473 61 1 (by decide +kernel)
          have q1507 : h10 61 1 = h1 61 1 := f12 61 1 (by decide +kernel)
          have q1508 : h1 61 1 = ra1 := by rw [← e3]; exact x_up_at
          have b1509 := jB (e := 2) 0 j1474 (rg_T5_2_0_1 ta1) (by first | decide | omega) (by first | decide | omega)
          have e1510 : rv h1472 4 = (h1472 (ra1 + 5) 2) := (congrArg (fun z => svq h1472 z 4) ((q1506.trans q1507).trans q1508)).trans rfl
          have q1511 : h1472 61 1 = h10 61 1 := f1473 61 1 (by decide +kernel)
          have q1512 : h10 61 1 = h1 61 1 := f12 61 1 (by decide +kernel)
          have q1513 : h1 61 1 = ra1 := by rw [← e3]; exact x_up_at
          have b1514 := jB (e := 2) 0 j1474 (rg_T7_2_0_1 ta1) (by first | decide | omega) (by first | decide | omega)
          have e1515 : rv h1472 5 = (h1472 (ra1 + 7) 2) := (congrArg (fun z => svq h1472 z 5) ((q1511.trans q1512).trans q1513)).trans rfl
          have b1516 := jB (e := 7) 0 hJ (rg_T0_7_0_1 ta1) (by first | decide | omega) (by first | decide | omega)
          refine x_iload (np := 27) (x := 2) (by decide +kernel) rfl (by first | decide | omega) ?_
          refine x_const (np := 29) (x := 9223372099131801614) (a := 2147483662) (by decide +kernel) (by decide) (by decide) ?_
          refine x_icmp (k := 3) (tg := 73) (np := 32) (by decide +kernel) (by decide) (by first | decide | omega) (by decide) (fun q1517 => ?_) (fun q1518 => ?_)
          · have q1517 : 2147483662 ≤ v1470 := q1517
            refine x_const (np := 74) (x := 9223372039002259456) (a := 2147483648) (by decide +kernel) (by decide) (by decide) ?_
            have b1519 := jB (e := 2) 0 hJ (rg_T1_2_0_1 ta1) (by first | decide | omega) (by first | decide | omega)
            have b1520 := jB (e := 2) 0 hJ (rg_T3_2_0_1 ta1) (by first | decide | omega) (by first | decide | omega)
            have b1521 := jB (e := 2) 0 hJ (rg_T5_2_0_1 ta1) (by first | decide | omega) (by first | decide | omega)
            have b1522 := jB (e := 2) 0 hJ (rg_T7_2_0_1 ta1) (by first | decide | omega) (by first | decide | omega)
            refine x_retI (np := 75) (x := 0) (by decide +kernel) (by decide) (Or.inr ⟨by decide +kernel, by first | decide | omega, by first | decide | omega⟩) ⟨_, rfl, (by decide), ?_⟩
            exact ⟨j1474, f1485, (by first | decide | omega), (by first | decide | omega), (by first | decide | omega), (Tt.n0 (by first | decide | omega) (Tl.full m1478 (by first | decide | omega))), m1479, (fun z => absurd z (by first | decide | omega)), (fun z => absurd z (by first | decide | omega)), (fun z => absurd z (by first | decide | omega))⟩
          have q1518 : ¬ (2147483662 ≤ v1470) := q1518
          refine x_aload (np := 33) (x := 0) (by decide +kernel) rfl (x_nc_le (by decide)) ?_
          have m1527 := Tp.fr m9 f12 (by decide) (by decide)
          have m1526 := Tp.fr m1527 f1473 (by decide) (by decide)
          refine x_cI (t := 6) (mj := 93) (n := 1) (rc := 10) (ml := 1) (nr := 0) (np := 36) (as := [x_r 61]) (rest := []) (lo1 := [x_r 61]) (by decide +kernel) (by decide) (by decide +kernel) (x_rb_of (by decide +kernel)) rfl rfl (x_wr (by decide) x_wn) x_wn (by decide) rfl (c93_61 j1474  m1526) (fun v1523 h1528 l1524 q1525 => ?_)
          obtain ⟨j1529, f1530, b1531, c1532, c1533, c1534, c1535, c1536, c1537, c1538⟩ := q1525
          have f1539 := Fr.trans f1485 f1530 (by decide)
          have f1540 := Fr.trans f1473 f1530 (by decide)
          have q1541 : h1472 61 1 = h10 61 1 := f1473 61 1 (by decide +kernel)
          have q1542 : h10 61 1 = h1 61 1 := f12 61 1 (by decide +kernel)
          have q1543 : h1 61 1 = ra1 := by rw [← e3]; exact x_up_at
          have q1544 : h1528 61 1 = h1472 61 1 := f1530 61 1 (by decide +kernel)
          have q1545 : h1472 61 1 = h10 61 1 := f1473 61 1 (by decide +kernel)
          have q1546 : h10 61 1 = h1 61 1 := f12 61 1 (by decide +kernel)
          have q1547 : h1 61 1 = ra1 := by rw [← e3]; exact x_up_at
          have b1548 := jB (e := 7) 0 j1529 (rg_T0_7_0_1 ta1) (by first | decide | omega) (by first | decide | omega)
          have e1549 : rv h1528 0 = (h1528 ra1 7) := (congrArg (fun z => svq h1528 z 0) (((q1544.trans q1545).trans q1546).trans q1547)).trans rfl
          have q1550 : h1472 61 1 = h10 61 1 := f1473 61 1 (by decide +kernel)
          have q1551 : h10 61 1 = h1 61 1 := f12 61 1 (by decide +kernel)
          have q1552 : h1 61 1 = ra1 := by rw [← e3]; exact x_up_at
          have q1553 : h1528 61 1 = h1472 61 1 := f1530 61 1 (by decide +kernel)
          have q1554 : h1472 61 1 = h10 61 1 := f1473 61 1 (by decide +kernel)
          have q1555 : h10 61 1 = h1 61 1 := f12 61 1 (by decide +kernel)
          have q1556 : h1 61 1 = ra1 := by rw [← e3]; exact x_up_at
          have e1557 : rv h1528 1 = (h1528 ra1 8) := (congrArg (fun z => svq h1528 z 1) (((q1553.trans q1554).trans q1555).trans q1556)).trans rfl
          have q1558 : h1472 61 1 = h10 61 1 := f1473 61 1 (by decide +kernel)
          have q1559 : h10 61 1 = h1 61 1 := f12 61 1 (by decide +kernel)
          have q1560 : h1 61 1 = ra1 := by rw [← e3]; exact x_up_at
          refine x_ifz (k := 1) (tg := 41) (np := 39) (by decide +kernel) (by decide) l1524 (fun q1561 => ?_) (fun q1562 => ?_)
          · have q1561 : v1523 ≠ 2147483648 := q1561
            refine x_aload (np := 42) (x := 0) (by decide +kernel) rfl (x_nc_le (by decide)) ?_
            have q1563 : h1528 61 0 = 1 := by have z := jB (e := 0) 0 j1529 rg_61_0_0_1 (by decide) (by decide); omega
            refine x_getR (np := 45) (x := 576) (f := 0) (q := 1) (by decide +kernel) (by decide) (by decide +kernel) q1563 ?_
            refine x_nI (t := 6) (mj := 74) (n := 1) (rc := 8) (ml := 1) (nr := 0) (np := 48) (as := [x_r 1]) (rest := []) (lo1 := [x_r 1]) (by decide +kernel) (by decide) (by decide +kernel) (x_rb_of (by decide +kernel)) rfl rfl (x_wr (by decide) x_wn) x_wn (by decide) rfl ?_
            refine x_aload (np := 1) (x := 0) (by decide +kernel) rfl (x_nc_le (by decide)) ?_
            have b1564 := jB (e := 2) 0 j1529 rg_1_2_0_1 (by first | decide | omega) (by first | decide | omega)
            refine x_getC (np := 4) (x := 450) (f := 2) (q := (h1528 1 2)) (by decide +kernel) (by decide) (by decide +kernel) rfl (fun l1565 => ?_)
            refine x_aload (np := 5) (x := 0) (by decide +kernel) rfl (x_nc_le (by decide)) ?_
            have q1566 : h1528 1 1 = h1472 1 1 := jK 0 f1530 rg_1_1_0_1 (by first | decide | omega) (by first | decide | omega) (by decide)
            have q1567 : h1472 1 1 = h10 1 1 := jK 0 f1473 rg_1_1_0_1 (by first | decide | omega) (by first | decide | omega) (by decide)
            have q1568 : h10 1 1 = h1 1 1 := jK 0 f12 rg_1_1_0_1 (by first | decide | omega) (by first | decide | omega) (by decide)
            have q1569 : h1 1 1 = h 1 1 := by rw [← e3]; exact x_up_k (by decide)
            refine x_getC (np := 8) (x := 449) (f := 1) (q := (h 1 1)) (by decide +kernel) (by decide) (by decide +kernel) (((q1566.trans q1567).trans q1568).trans q1569) (fun l1570 => ?_)
            refine x_icmp (k := 2) (tg := 15) (np := 11) (by decide +kernel) (by decide) l1565 l24 (fun q1571 => ?_) (fun q1572 => ?_)
            · have q1571 : (h1528 1 2) < (h 1 1) := q1571
              refine x_const (np := 16) (x := 9223372039002259456) (a := 2147483648) (by decide +kernel) (by decide) (by decide) ?_
              refine x_retI (np := 17) (x := 0) (by decide +kernel) (by decide) (Or.inr ⟨by decide +kernel, by first | decide | omega, by first | decide | omega⟩) ⟨_, rfl, (by decide), ?_⟩
              refine x_ifz (k := 0) (tg := 53) (np := 51) (by decide +kernel) (by decide) (by decide) (fun q1573 => ?_) (fun q1574 => ?_)
              · have q1573 : 2147483648 = 2147483648 := q1573
                refine x_aload (np := 54) (x := 0) (by decide +kernel) rfl (x_nc_le (by decide)) ?_
                have q1575 : h1528 61 0 = 1 := by have z := jB (e := 0) 0 j1529 rg_61_0_0_1 (by decide) (by decide); omega
                refine x_getR (np := 57) (x := 576) (f := 0) (q := 1) (by decide +kernel) (by decide) (by decide +kernel) q1575 ?_
                refine x_const (np := 59) (x := 9223372292405329979) (a := 2147483707) (by decide +kernel) (by decide) (by decide) ?_
                have m1579 := Tp.fr m1526 f1530 (by decide) (by decide)
                refine x_cI (t := 6) (mj := 76) (n := 2) (rc := 8) (ml := 2) (nr := 0) (np := 62) (as := [x_r 1, iv_c 2147483707]) (rest := []) (lo1 := [x_r 1, iv_c 2147483707]) (by decide +kernel) (by decide) (by decide +kernel) (x_rb_of (by decide +kernel)) rfl rfl (x_wr (by decide) (x_wi (by decide) x_wn)) x_wn (by decide) rfl (c76_1 j1529  (by first | decide | omega) m1579) (fun v1576 h1580 l1577 q1578 => ?_)
                obtain ⟨j1581, f1582, b1583, c1584, c1585, c1586⟩ := q1578
                have f1587 := Fr.trans f1539 f1582 (by decide)
                have f1588 := Fr.trans f1540 f1582 (by decide)
                have b1589 := jB (e := 2) 0 j1581 rg_1_2_0_1 (by first | decide | omega) (by first | decide | omega)
                refine x_ifz (k := 1) (tg := 67) (np := 65) (by decide +kernel) (by decide) l1577 (fun q1590 => ?_) (fun q1591 => ?_)
                · have q1590 : v1576 ≠ 2147483648 := q1590
                  have b1592 := c1584 (by first | decide | omega)
                  refine x_iinc (np := 70) (i := 2) (j := 2147483649) (v := (1 + v1470)) (lo' := [x_r 61, x_r ra1, iv_c (1 + v1470)]) (by decide +kernel) (by decide) (by decide) rfl (by first | decide | omega) (by first | decide | omega) (by first | decide | omega) rfl ?_
                  refine x_goto (np := 73) (x := 26) (by decide +kernel) ?_
                  have q1593 : h1580 61 1 = h1528 61 1 := f1582 61 1 (by decide +kernel)
                  have q1594 : h1528 61 1 = h1472 61 1 := f1530 61 1 (by decide +kernel)
                  have q1595 : h1472 61 1 = h10 61 1 := f1473 61 1 (by decide +kernel)
                  have q1596 : h10 61 1 = h1 61 1 := f12 61 1 (by decide +kernel)
                  have q1597 : h1 61 1 = ra1 := by rw [← e3]; exact x_up_at
                  have q1598 : h1580 ra1 7 = h1528 ra1 7 := jK 0 f1582 (rg_T0_7_0_1 ta1) (by first | decide | omega) (by first | decide | omega) (by decide)
                  have e1599 : rv h1580 0 = (h1528 ra1 7) := (congrArg (fun z => svq h1580 z 0) ((((q1593.trans q1594).trans q1595).trans q1596).trans q1597)).trans q1598
                  have q1600 : h1580 61 1 = h1528 61 1 := f1582 61 1 (by decide +kernel)
                  have q1601 : h1528 61 1 = h1472 61 1 := f1530 61 1 (by decide +kernel)
                  have q1602 : h1472 61 1 = h10 61 1 := f1473 61 1 (by decide +kernel)
                  have q1603 : h10 61 1 = h1 61 1 := f12 61 1 (by decide +kernel)
                  have q1604 : h1 61 1 = ra1 := by rw [← e3]; exact x_up_at
                  have q1605 : h1580 ra1 8 = h1528 ra1 8 := jK 0 f1582 (rg_T0_8_0_1 ta1) (by first | decide | omega) (by first | decide | omega) (by decide)
                  have e1606 : rv h1580 1 = (h1528 ra1 8) := (congrArg (fun z => svq h1580 z 1) ((((q1600.trans q1601).trans q1602).trans q1603).trans q1604)).trans q1605
                  obtain ⟨w1607, e1608⟩ := Tk.yes c1586 (by first | decide | omega)
                  have q1610 : h1472 61 1 = h10 61 1 := f1473 61 1 (by decide +kernel)
                  have q1611 : h10 61 1 = h1 61 1 := f12 61 1 (by decide +kernel)
                  have q1612 : h1 61 1 = ra1 := by rw [← e3]; exact x_up_at
                  have q1613 : h1472 61 1 = h10 61 1 := f1473 61 1 (by decide +kernel)
                  have q1614 : h10 61 1 = h1 61 1 := f12 61 1 (by decide +kernel)
                  have q1615 : h1 61 1 = ra1 := by rw [← e3]; exact x_up_at
                  have q1616 : h1472 61 1 = h10 61 1 := f1473 61 1 (by decide +kernel)
                  have q1617 : h10 61 1 = h1 61 1 := f12 61 1 (by decide +kernel)
                  have q1618 : h1 61 1 = ra1 := by rw [← e3]; exact x_up_at
                  have q1619 : h1472 61 1 = h10 61 1 := f1473 61 1 (by decide +kernel)
                  have q1620 : h10 61 1 = h1 61 1 := f12 61 1 (by decide +kernel)
                  have q1621 : h1 61 1 = ra1 := by rw [← e3]; exact x_up_at
                  have q1622 : h1472 61 1 = h10 61 1 := f1473 61 1 (by decide +kernel)
                  have q1623 : h10 61 1 = h1 61 1 := f12 61 1 (by decide +kernel)
                  have q1624 : h1 61 1 = ra1 := by rw [← e3]; exact x_up_at
                  have q1625 : h1472 61 1 = h10 61 1 := f1473 61 1 (by decide +kernel)
                  have q1626 : h10 61 1 = h1 61 1 := f12 61 1 (by decide +kernel)
                  have q1627 : h1 61 1 = ra1 := by rw [← e3]; exact x_up_at
                  have q1628 : h1472 61 1 = h10 61 1 := f1473 61 1 (by decide +kernel)
                  have q1629 : h10 61 1 = h1 61 1 := f12 61 1 (by decide +kernel)
                  have q1630 : h1 61 1 = ra1 := by rw [← e3]; exact x_up_at
                  have q1631 : h1472 61 1 = h10 61 1 := f1473 61 1 (by decide +kernel)
                  have q1632 : h10 61 1 = h1 61 1 := f12 61 1 (by decide +kernel)
                  have q1633 : h1 61 1 = ra1 := by rw [← e3]; exact x_up_at
                  have q1634 : h1472 61 1 = h10 61 1 := f1473 61 1 (by decide +kernel)
                  have q1635 : h10 61 1 = h1 61 1 := f12 61 1 (by decide +kernel)
                  have q1636 : h1 61 1 = ra1 := by rw [← e3]; exact x_up_at
                  have k1609 := l9_pe (pe' := h ra1 7) (l1 := rv h1472 2) (t1 := rv h1472 3) (d1 := rv h1472 4) (s1 := rv h1472 5) c1534 (by first | decide | omega) (by first | decide | omega) (by first | decide | omega) (by first | decide | omega) (by first | decide | omega)
                  have q1638 : h1580 61 1 = h1528 61 1 := f1582 61 1 (by decide +kernel)
                  have q1639 : h1528 61 1 = h1472 61 1 := f1530 61 1 (by decide +kernel)
                  have q1640 : h1472 61 1 = h10 61 1 := f1473 61 1 (by decide +kernel)
                  have q1641 : h10 61 1 = h1 61 1 := f12 61 1 (by decide +kernel)
                  have q1642 : h1 61 1 = ra1 := by rw [← e3]; exact x_up_at
                  have q1643 : h1580 (ra1 + 1) 2 = h1528 (ra1 + 1) 2 := jK 0 f1582 (rg_T1_2_0_1 ta1) (by first | decide | omega) (by first | decide | omega) (by decide)
                  have b1644 := jB (e := 2) 0 j1529 (rg_T1_2_0_1 ta1) (by first | decide | omega) (by first | decide | omega)
                  have e1645 : rv h1580 2 = (h1528 (ra1 + 1) 2) := (congrArg (fun z => svq h1580 z 2) ((((q1638.trans q1639).trans q1640).trans q1641).trans q1642)).trans q1643
                  have q1646 : h1528 61 1 = h1472 61 1 := f1530 61 1 (by decide +kernel)
                  have q1647 : h1472 61 1 = h10 61 1 := f1473 61 1 (by decide +kernel)
                  have q1648 : h10 61 1 = h1 61 1 := f12 61 1 (by decide +kernel)
                  have q1649 : h1 61 1 = ra1 := by rw [← e3]; exact x_up_at
                  have e1650 : rv h1528 2 = (h1528 (ra1 + 1) 2) := (congrArg (fun z => svq h1528 z 2) (((q1646.trans q1647).trans q1648).trans q1649)).trans rfl
                  have q1651 : h1580 61 1 = h1528 61 1 := f1582 61 1 (by decide +kernel)
                  have q1652 : h1528 61 1 = h1472 61 1 := f1530 61 1 (by decide +kernel)
                  have q1653 : h1472 61 1 = h10 61 1 := f1473 61 1 (by decide +kernel)
                  have q1654 : h10 61 1 = h1 61 1 := f12 61 1 (by decide +kernel)
                  have q1655 : h1 61 1 = ra1 := by rw [← e3]; exact x_up_at
                  have q1656 : h1580 (ra1 + 3) 2 = h1528 (ra1 + 3) 2 := jK 0 f1582 (rg_T3_2_0_1 ta1) (by first | decide | omega) (by first | decide | omega) (by decide)
                  have b1657 := jB (e := 2) 0 j1529 (rg_T3_2_0_1 ta1) (by first | decide | omega) (by first | decide | omega)
                  have e1658 : rv h1580 3 = (h1528 (ra1 + 3) 2) := (congrArg (fun z => svq h1580 z 3) ((((q1651.trans q1652).trans q1653).trans q1654).trans q1655)).trans q1656
                  have q1659 : h1528 61 1 = h1472 61 1 := f1530 61 1 (by decide +kernel)
                  have q1660 : h1472 61 1 = h10 61 1 := f1473 61 1 (by decide +kernel)
                  have q1661 : h10 61 1 = h1 61 1 := f12 61 1 (by decide +kernel)
                  have q1662 : h1 61 1 = ra1 := by rw [← e3]; exact x_up_at
                  have e1663 : rv h1528 3 = (h1528 (ra1 + 3) 2) := (congrArg (fun z => svq h1528 z 3) (((q1659.trans q1660).trans q1661).trans q1662)).trans rfl
                  have q1664 : h1580 61 1 = h1528 61 1 := f1582 61 1 (by decide +kernel)
                  have q1665 : h1528 61 1 = h1472 61 1 := f1530 61 1 (by decide +kernel)
                  have q1666 : h1472 61 1 = h10 61 1 := f1473 61 1 (by decide +kernel)
                  have q1667 : h10 61 1 = h1 61 1 := f12 61 1 (by decide +kernel)
                  have q1668 : h1 61 1 = ra1 := by rw [← e3]; exact x_up_at
                  have q1669 : h1580 (ra1 + 5) 2 = h1528 (ra1 + 5) 2 := jK 0 f1582 (rg_T5_2_0_1 ta1) (by first | decide | omega) (by first | decide | omega) (by decide)
                  have b1670 := jB (e := 2) 0 j1529 (rg_T5_2_0_1 ta1) (by first | decide | omega) (by first | decide | omega)
                  have e1671 : rv h1580 4 = (h1528 (ra1 + 5) 2) := (congrArg (fun z => svq h1580 z 4) ((((q1664.trans q1665).trans q1666).trans q1667).trans q1668)).trans q1669
                  have q1672 : h1528 61 1 = h1472 61 1 := f1530 61 1 (by decide +kernel)
                  have q1673 : h1472 61 1 = h10 61 1 := f1473 61 1 (by decide +kernel)
                  have q1674 : h10 61 1 = h1 61 1 := f12 61 1 (by decide +kernel)
                  have q1675 : h1 61 1 = ra1 := by rw [← e3]; exact x_up_at
                  have e1676 : rv h1528 4 = (h1528 (ra1 + 5) 2) := (congrArg (fun z => svq h1528 z 4) (((q1672.trans q1673).trans q1674).trans q1675)).trans rfl
                  have q1677 : h1580 61 1 = h1528 61 1 := f1582 61 1 (by decide +kernel)
                  have q1678 : h1528 61 1 = h1472 61 1 := f1530 61 1 (by decide +kernel)
                  have q1679 : h1472 61 1 = h10 61 1 := f1473 61 1 (by decide +kernel)
                  have q1680 : h10 61 1 = h1 61 1 := f12 61 1 (by decide +kernel)
                  have q1681 : h1 61 1 = ra1 := by rw [← e3]; exact x_up_at
                  have q1682 : h1580 (ra1 + 7) 2 = h1528 (ra1 + 7) 2 := jK 0 f1582 (rg_T7_2_0_1 ta1) (by first | decide | omega) (by first | decide | omega) (by decide)
                  have b1683 := jB (e := 2) 0 j1529 (rg_T7_2_0_1 ta1) (by first | decide | omega) (by first | decide | omega)
                  have e1684 : rv h1580 5 = (h1528 (ra1 + 7) 2) := (congrArg (fun z => svq h1580 z 5) ((((q1677.trans q1678).trans q1679).trans q1680).trans q1681)).trans q1682
                  have q1685 : h1528 61 1 = h1472 61 1 := f1530 61 1 (by decide +kernel)
                  have q1686 : h1472 61 1 = h10 61 1 := f1473 61 1 (by decide +kernel)
                  have q1687 : h10 61 1 = h1 61 1 := f12 61 1 (by decide +kernel)
                  have q1688 : h1 61 1 = ra1 := by rw [← e3]; exact x_up_at
                  have e1689 : rv h1528 5 = (h1528 (ra1 + 7) 2) := (congrArg (fun z => svq h1528 z 5) (((q1685.trans q1686).trans q1687).trans q1688)).trans rfl
                  have m1637 : Tl tB tN (h ra1 7) (h (ra1 + 1) 2) (h (ra1 + 3) 2) (h (ra1 + 5) 2) (h (ra1 + 7) 2) (2147483662 - (1 + v1470)) (rv h1580 2) (rv h1580 3) (rv h1580 4) (rv h1580 5) (h1580 1 2) := by
                    rw [show rv h1580 2 = rv h1528 2 by first | decide | omega, show rv h1580 3 = rv h1528 3 by first | decide | omega, show rv h1580 4 = rv h1528 4 by first | decide | omega, show rv h1580 5 = rv h1528 5 by first | decide | omega]
                    exact Tl.go (m' := 2147483662 - (1 + v1470)) m1478 (by first | decide | omega) k1609 rfl (by first | decide | omega) w1607 rfl e1608 rfl
                  have m1690 : Ot ra1 h h1528 := Ot.trans m1479 (Ot.cast c1535 ((q1558.trans q1559).trans q1560))
                  have m1691 : Ot ra1 h h1580 := Ot.fr m1690 f1582 (by decide)
                  have q1692 : h1472 61 1 = h10 61 1 := f1473 61 1 (by decide +kernel)
                  have q1693 : h10 61 1 = h1 61 1 := f12 61 1 (by decide +kernel)
                  have q1694 : h1 61 1 = ra1 := by rw [← e3]; exact x_up_at
                  have q1695 : h1472 61 1 = h10 61 1 := f1473 61 1 (by decide +kernel)
                  have q1696 : h10 61 1 = h1 61 1 := f12 61 1 (by decide +kernel)
                  have q1697 : h1 61 1 = ra1 := by rw [← e3]; exact x_up_at
                  have q1698 : h1528 61 1 = h1472 61 1 := f1530 61 1 (by decide +kernel)
                  have q1699 : h1472 61 1 = h10 61 1 := f1473 61 1 (by decide +kernel)
                  have q1700 : h10 61 1 = h1 61 1 := f12 61 1 (by decide +kernel)
                  have q1701 : h1 61 1 = ra1 := by rw [← e3]; exact x_up_at
                  have q1702 : h1580 61 1 = h1528 61 1 := f1582 61 1 (by decide +kernel)
                  have q1703 : h1528 61 1 = h1472 61 1 := f1530 61 1 (by decide +kernel)
                  have q1704 : h1472 61 1 = h10 61 1 := f1473 61 1 (by decide +kernel)
                  have q1705 : h10 61 1 = h1 61 1 := f12 61 1 (by decide +kernel)
                  have q1706 : h1 61 1 = ra1 := by rw [← e3]; exact x_up_at
                  have q1707 : h1580 (ra1 + 3) 2 = h1528 (ra1 + 3) 2 := jK 0 f1582 (rg_T3_2_0_1 ta1) (by first | decide | omega) (by first | decide | omega) (by decide)
                  have q1708 : h1580 (ra1 + 3) 2 = h1528 (ra1 + 3) 2 := jK 0 f1582 (rg_T3_2_0_1 ta1) (by first | decide | omega) (by first | decide | omega) (by decide)
                  have m1709 : ∀ u, u < 10 → wq h1580 ra1 u = wq h1528 ra1 u := fun u hu => (wq_gr ta1 f1582 (by decide) u hu)
                  have q1710 : h1472 61 1 = h10 61 1 := f1473 61 1 (by decide +kernel)
                  have q1711 : h10 61 1 = h1 61 1 := f12 61 1 (by decide +kernel)
                  have q1712 : h1 61 1 = ra1 := by rw [← e3]; exact x_up_at
                  obtain ⟨w1713, e1714⟩ := Tk.yes c1586 (by first | decide | omega)
                  have q1716 : h1472 61 1 = h10 61 1 := f1473 61 1 (by decide +kernel)
                  have q1717 : h10 61 1 = h1 61 1 := f12 61 1 (by decide +kernel)
                  have q1718 : h1 61 1 = ra1 := by rw [← e3]; exact x_up_at
                  have q1719 : h1472 61 1 = h10 61 1 := f1473 61 1 (by decide +kernel)
                  have q1720 : h10 61 1 = h1 61 1 := f12 61 1 (by decide +kernel)
                  have q1721 : h1 61 1 = ra1 := by rw [← e3]; exact x_up_at
                  have q1722 : h1472 61 1 = h10 61 1 := f1473 61 1 (by decide +kernel)
                  have q1723 : h10 61 1 = h1 61 1 := f12 61 1 (by decide +kernel)
                  have q1724 : h1 61 1 = ra1 := by rw [← e3]; exact x_up_at
                  have q1725 : h1472 61 1 = h10 61 1 := f1473 61 1 (by decide +kernel)
                  have q1726 : h10 61 1 = h1 61 1 := f12 61 1 (by decide +kernel)
                  have q1727 : h1 61 1 = ra1 := by rw [← e3]; exact x_up_at
                  have q1728 : h1472 61 1 = h10 61 1 := f1473 61 1 (by decide +kernel)
                  have q1729 : h10 61 1 = h1 61 1 := f12 61 1 (by decide +kernel)
                  have q1730 : h1 61 1 = ra1 := by rw [← e3]; exact x_up_at
                  have q1731 : h1472 61 1 = h10 61 1 := f1473 61 1 (by decide +kernel)
                  have q1732 : h10 61 1 = h1 61 1 := f12 61 1 (by decide +kernel)
                  have q1733 : h1 61 1 = ra1 := by rw [← e3]; exact x_up_at
                  have q1734 : h1472 61 1 = h10 61 1 := f1473 61 1 (by decide +kernel)
                  have q1735 : h10 61 1 = h1 61 1 := f12 61 1 (by decide +kernel)
                  have q1736 : h1 61 1 = ra1 := by rw [← e3]; exact x_up_at
                  have q1737 : h1472 61 1 = h10 61 1 := f1473 61 1 (by decide +kernel)
                  have q1738 : h10 61 1 = h1 61 1 := f12 61 1 (by decide +kernel)
                  have q1739 : h1 61 1 = ra1 := by rw [← e3]; exact x_up_at
                  have q1740 : h1472 61 1 = h10 61 1 := f1473 61 1 (by decide +kernel)
                  have q1741 : h10 61 1 = h1 61 1 := f12 61 1 (by decide +kernel)
                  have q1742 : h1 61 1 = ra1 := by rw [← e3]; exact x_up_at
                  have k1715 := l9_pe (pe' := h ra1 7) (l1 := rv h1472 2) (t1 := rv h1472 3) (d1 := rv h1472 4) (s1 := rv h1472 5) c1534 (by first | decide | omega) (by first | decide | omega) (by first | decide | omega) (by first | decide | omega) (by first | decide | omega)
                  have q1744 : h1472 61 1 = h10 61 1 := f1473 61 1 (by decide +kernel)
                  have q1745 : h10 61 1 = h1 61 1 := f12 61 1 (by decide +kernel)
                  have q1746 : h1 61 1 = ra1 := by rw [← e3]; exact x_up_at
                  have q1747 : h1472 61 1 = h10 61 1 := f1473 61 1 (by decide +kernel)
                  have q1748 : h10 61 1 = h1 61 1 := f12 61 1 (by decide +kernel)
                  have q1749 : h1 61 1 = ra1 := by rw [← e3]; exact x_up_at
                  have m1750 : ∀ u, u < 6 → xq h1580 ra1 u = xq h1528 ra1 u := fun u hu => (xq_gr ta1 f1582 (by decide) u hu)
                  have q1751 : h1580 61 1 = h1528 61 1 := f1582 61 1 (by decide +kernel)
                  have q1752 : h1528 61 1 = h1472 61 1 := f1530 61 1 (by decide +kernel)
                  have q1753 : h1472 61 1 = h10 61 1 := f1473 61 1 (by decide +kernel)
                  have q1754 : h10 61 1 = h1 61 1 := f12 61 1 (by decide +kernel)
                  have q1755 : h1 61 1 = ra1 := by rw [← e3]; exact x_up_at
                  have q1756 : h1580 (ra1 + 1) 2 = h1528 (ra1 + 1) 2 := jK 0 f1582 (rg_T1_2_0_1 ta1) (by first | decide | omega) (by first | decide | omega) (by decide)
                  have q1757 : h1528 61 1 = h1472 61 1 := f1530 61 1 (by decide +kernel)
                  have q1758 : h1472 61 1 = h10 61 1 := f1473 61 1 (by decide +kernel)
                  have q1759 : h10 61 1 = h1 61 1 := f12 61 1 (by decide +kernel)
                  have q1760 : h1 61 1 = ra1 := by rw [← e3]; exact x_up_at
                  have q1761 : h1580 61 1 = h1528 61 1 := f1582 61 1 (by decide +kernel)
                  have q1762 : h1528 61 1 = h1472 61 1 := f1530 61 1 (by decide +kernel)
                  have q1763 : h1472 61 1 = h10 61 1 := f1473 61 1 (by decide +kernel)
                  have q1764 : h10 61 1 = h1 61 1 := f12 61 1 (by decide +kernel)
                  have q1765 : h1 61 1 = ra1 := by rw [← e3]; exact x_up_at
                  have q1766 : h1580 (ra1 + 3) 2 = h1528 (ra1 + 3) 2 := jK 0 f1582 (rg_T3_2_0_1 ta1) (by first | decide | omega) (by first | decide | omega) (by decide)
                  have q1767 : h1528 61 1 = h1472 61 1 := f1530 61 1 (by decide +kernel)
                  have q1768 : h1472 61 1 = h10 61 1 := f1473 61 1 (by decide +kernel)
                  have q1769 : h10 61 1 = h1 61 1 := f12 61 1 (by decide +kernel)
                  have q1770 : h1 61 1 = ra1 := by rw [← e3]; exact x_up_at
                  have q1771 : h1580 61 1 = h1528 61 1 := f1582 61 1 (by decide +kernel)
                  have q1772 : h1528 61 1 = h1472 61 1 := f1530 61 1 (by decide +kernel)
                  have q1773 : h1472 61 1 = h10 61 1 := f1473 61 1 (by decide +kernel)
                  have q1774 : h10 61 1 = h1 61 1 := f12 61 1 (by decide +kernel)
                  have q1775 : h1 61 1 = ra1 := by rw [← e3]; exact x_up_at
                  have q1776 : h1580 (ra1 + 5) 2 = h1528 (ra1 + 5) 2 := jK 0 f1582 (rg_T5_2_0_1 ta1) (by first | decide | omega) (by first | decide | omega) (by decide)
                  have q1777 : h1528 61 1 = h1472 61 1 := f1530 61 1 (by decide +kernel)
                  have q1778 : h1472 61 1 = h10 61 1 := f1473 61 1 (by decide +kernel)
                  have q1779 : h10 61 1 = h1 61 1 := f12 61 1 (by decide +kernel)
                  have q1780 : h1 61 1 = ra1 := by rw [← e3]; exact x_up_at
                  have q1781 : h1580 61 1 = h1528 61 1 := f1582 61 1 (by decide +kernel)
                  have q1782 : h1528 61 1 = h1472 61 1 := f1530 61 1 (by decide +kernel)
                  have q1783 : h1472 61 1 = h10 61 1 := f1473 61 1 (by decide +kernel)
                  have q1784 : h10 61 1 = h1 61 1 := f12 61 1 (by decide +kernel)
                  have q1785 : h1 61 1 = ra1 := by rw [← e3]; exact x_up_at
                  have q1786 : h1580 (ra1 + 7) 2 = h1528 (ra1 + 7) 2 := jK 0 f1582 (rg_T7_2_0_1 ta1) (by first | decide | omega) (by first | decide | omega) (by decide)
                  have q1787 : h1528 61 1 = h1472 61 1 := f1530 61 1 (by decide +kernel)
                  have q1788 : h1472 61 1 = h10 61 1 := f1473 61 1 (by decide +kernel)
                  have q1789 : h10 61 1 = h1 61 1 := f12 61 1 (by decide +kernel)
                  have q1790 : h1 61 1 = ra1 := by rw [← e3]; exact x_up_at
                  have m1743 : Txl tB tN (h ra1 7) (h (ra1 + 1) 2) (h (ra1 + 3) 2) (h (ra1 + 5) 2) (h (ra1 + 7) 2) (fun b => xq h ra1 b) (2147483662 - (1 + v1470)) (rv h1580 2) (rv h1580 3) (rv h1580 4) (rv h1580 5) (h1580 1 2) (fun b => xq h1580 ra1 b) := by
                    rw [show rv h1580 2 = rv h1528 2 by first | decide | omega, show rv h1580 3 = rv h1528 3 by first | decide | omega, show rv h1580 4 = rv h1528 4 by first | decide | omega, show rv h1580 5 = rv h1528 5 by first | decide | omega]
                    exact Txl.go (m' := 2147483662 - (1 + v1470)) m1481 (by first | decide | omega) k1715 rfl (by first | decide | omega) w1713 rfl e1714 rfl (Lx.cst (pe' := h ra1 7) (Lx.bs (c1537 (by first | decide | omega)) ((q1747.trans q1748).trans q1749)) (by first | decide | omega)) (fun _ _ => rfl) m1750
                  obtain ⟨w1791, e1792⟩ := Tk.yes c1586 (by first | decide | omega)
                  have q1794 : h1472 61 1 = h10 61 1 := f1473 61 1 (by decide +kernel)
                  have q1795 : h10 61 1 = h1 61 1 := f12 61 1 (by decide +kernel)
                  have q1796 : h1 61 1 = ra1 := by rw [← e3]; exact x_up_at
                  have q1797 : h1472 61 1 = h10 61 1 := f1473 61 1 (by decide +kernel)
                  have q1798 : h10 61 1 = h1 61 1 := f12 61 1 (by decide +kernel)
                  have q1799 : h1 61 1 = ra1 := by rw [← e3]; exact x_up_at
                  have q1800 : h1472 61 1 = h10 61 1 := f1473 61 1 (by decide +kernel)
                  have q1801 : h10 61 1 = h1 61 1 := f12 61 1 (by decide +kernel)
                  have q1802 : h1 61 1 = ra1 := by rw [← e3]; exact x_up_at
                  have q1803 : h1472 61 1 = h10 61 1 := f1473 61 1 (by decide +kernel)
                  have q1804 : h10 61 1 = h1 61 1 := f12 61 1 (by decide +kernel)
                  have q1805 : h1 61 1 = ra1 := by rw [← e3]; exact x_up_at
                  have q1806 : h1472 61 1 = h10 61 1 := f1473 61 1 (by decide +kernel)
                  have q1807 : h10 61 1 = h1 61 1 := f12 61 1 (by decide +kernel)
                  have q1808 : h1 61 1 = ra1 := by rw [← e3]; exact x_up_at
                  have q1809 : h1472 61 1 = h10 61 1 := f1473 61 1 (by decide +kernel)
                  have q1810 : h10 61 1 = h1 61 1 := f12 61 1 (by decide +kernel)
                  have q1811 : h1 61 1 = ra1 := by rw [← e3]; exact x_up_at
                  have q1812 : h1472 61 1 = h10 61 1 := f1473 61 1 (by decide +kernel)
                  have q1813 : h10 61 1 = h1 61 1 := f12 61 1 (by decide +kernel)
                  have q1814 : h1 61 1 = ra1 := by rw [← e3]; exact x_up_at
                  have q1815 : h1472 61 1 = h10 61 1 := f1473 61 1 (by decide +kernel)
                  have q1816 : h10 61 1 = h1 61 1 := f12 61 1 (by decide +kernel)
                  have q1817 : h1 61 1 = ra1 := by rw [← e3]; exact x_up_at
                  have q1818 : h1472 61 1 = h10 61 1 := f1473 61 1 (by decide +kernel)
                  have q1819 : h10 61 1 = h1 61 1 := f12 61 1 (by decide +kernel)
                  have q1820 : h1 61 1 = ra1 := by rw [← e3]; exact x_up_at
                  have k1793 := l9_pe (pe' := h ra1 7) (l1 := rv h1472 2) (t1 := rv h1472 3) (d1 := rv h1472 4) (s1 := rv h1472 5) c1534 (by first | decide | omega) (by first | decide | omega) (by first | decide | omega) (by first | decide | omega) (by first | decide | omega)
                  have q1822 : h1472 61 1 = h10 61 1 := f1473 61 1 (by decide +kernel)
                  have q1823 : h10 61 1 = h1 61 1 := f12 61 1 (by decide +kernel)
                  have q1824 : h1 61 1 = ra1 := by rw [← e3]; exact x_up_at
                  have q1825 : h1472 61 1 = h10 61 1 := f1473 61 1 (by decide +kernel)
                  have q1826 : h10 61 1 = h1 61 1 := f12 61 1 (by decide +kernel)
                  have q1827 : h1 61 1 = ra1 := by rw [← e3]; exact x_up_at
                  have q1828 : h1472 61 1 = h10 61 1 := f1473 61 1 (by decide +kernel)
                  have q1829 : h10 61 1 = h1 61 1 := f12 61 1 (by decide +kernel)
                  have q1830 : h1 61 1 = ra1 := by rw [← e3]; exact x_up_at
                  have q1831 : h1472 61 1 = h10 61 1 := f1473 61 1 (by decide +kernel)
                  have q1832 : h10 61 1 = h1 61 1 := f12 61 1 (by decide +kernel)
                  have q1833 : h1 61 1 = ra1 := by rw [← e3]; exact x_up_at
                  have m1834 : ∀ u, u < 10 → aq h1580 ra1 u = aq h1528 ra1 u := fun u hu => (aq_gr ta1 f1582 (by decide) u hu)
                  have m1835 : ∀ u, u < 10 → bq h1580 ra1 u = bq h1528 ra1 u := fun u hu => (bq_gr ta1 f1582 (by decide) u hu)
                  have q1836 : h1580 61 1 = h1528 61 1 := f1582 61 1 (by decide +kernel)
                  have q1837 : h1528 61 1 = h1472 61 1 := f1530 61 1 (by decide +kernel)
                  have q1838 : h1472 61 1 = h10 61 1 := f1473 61 1 (by decide +kernel)
                  have q1839 : h10 61 1 = h1 61 1 := f12 61 1 (by decide +kernel)
                  have q1840 : h1 61 1 = ra1 := by rw [← e3]; exact x_up_at
                  have q1841 : h1580 (ra1 + 1) 2 = h1528 (ra1 + 1) 2 := jK 0 f1582 (rg_T1_2_0_1 ta1) (by first | decide | omega) (by first | decide | omega) (by decide)
                  have q1842 : h1528 61 1 = h1472 61 1 := f1530 61 1 (by decide +kernel)
                  have q1843 : h1472 61 1 = h10 61 1 := f1473 61 1 (by decide +kernel)
                  have q1844 : h10 61 1 = h1 61 1 := f12 61 1 (by decide +kernel)
                  have q1845 : h1 61 1 = ra1 := by rw [← e3]; exact x_up_at
                  have q1846 : h1580 61 1 = h1528 61 1 := f1582 61 1 (by decide +kernel)
                  have q1847 : h1528 61 1 = h1472 61 1 := f1530 61 1 (by decide +kernel)
                  have q1848 : h1472 61 1 = h10 61 1 := f1473 61 1 (by decide +kernel)
                  have q1849 : h10 61 1 = h1 61 1 := f12 61 1 (by decide +kernel)
                  have q1850 : h1 61 1 = ra1 := by rw [← e3]; exact x_up_at
                  have q1851 : h1580 (ra1 + 3) 2 = h1528 (ra1 + 3) 2 := jK 0 f1582 (rg_T3_2_0_1 ta1) (by first | decide | omega) (by first | decide | omega) (by decide)
                  have q1852 : h1528 61 1 = h1472 61 1 := f1530 61 1 (by decide +kernel)
                  have q1853 : h1472 61 1 = h10 61 1 := f1473 61 1 (by decide +kernel)
                  have q1854 : h10 61 1 = h1 61 1 := f12 61 1 (by decide +kernel)
                  have q1855 : h1 61 1 = ra1 := by rw [← e3]; exact x_up_at
                  have q1856 : h1580 61 1 = h1528 61 1 := f1582 61 1 (by decide +kernel)
                  have q1857 : h1528 61 1 = h1472 61 1 := f1530 61 1 (by decide +kernel)
                  have q1858 : h1472 61 1 = h10 61 1 := f1473 61 1 (by decide +kernel)
                  have q1859 : h10 61 1 = h1 61 1 := f12 61 1 (by decide +kernel)
                  have q1860 : h1 61 1 = ra1 := by rw [← e3]; exact x_up_at
                  have q1861 : h1580 (ra1 + 5) 2 = h1528 (ra1 + 5) 2 := jK 0 f1582 (rg_T5_2_0_1 ta1) (by first | decide | omega) (by first | decide | omega) (by decide)
                  have q1862 : h1528 61 1 = h1472 61 1 := f1530 61 1 (by decide +kernel)
                  have q1863 : h1472 61 1 = h10 61 1 := f1473 61 1 (by decide +kernel)
                  have q1864 : h10 61 1 = h1 61 1 := f12 61 1 (by decide +kernel)
                  have q1865 : h1 61 1 = ra1 := by rw [← e3]; exact x_up_at
                  have q1866 : h1580 61 1 = h1528 61 1 := f1582 61 1 (by decide +kernel)
                  have q1867 : h1528 61 1 = h1472 61 1 := f1530 61 1 (by decide +kernel)
                  have q1868 : h1472 61 1 = h10 61 1 := f1473 61 1 (by decide +kernel)
                  have q1869 : h10 61 1 = h1 61 1 := f12 61 1 (by decide +kernel)
                  have q1870 : h1 61 1 = ra1 := by rw [← e3]; exact x_up_at
                  have q1871 : h1580 (ra1 + 7) 2 = h1528 (ra1 + 7) 2 := jK 0 f1582 (rg_T7_2_0_1 ta1) (by first | decide | omega) (by first | decide | omega) (by decide)
                  have q1872 : h1528 61 1 = h1472 61 1 := f1530 61 1 (by decide +kernel)
                  have q1873 : h1472 61 1 = h10 61 1 := f1473 61 1 (by decide +kernel)
                  have q1874 : h10 61 1 = h1 61 1 := f12 61 1 (by decide +kernel)
                  have q1875 : h1 61 1 = ra1 := by rw [← e3]; exact x_up_at
                  have m1821 : Tzl tB tN (h ra1 7) (h (ra1 + 1) 2) (h (ra1 + 3) 2) (h (ra1 + 5) 2) (h (ra1 + 7) 2) (ab (aq h ra1) (bq h ra1)) (2147483662 - (1 + v1470)) (rv h1580 2) (rv h1580 3) (rv h1580 4) (rv h1580 5) (h1580 1 2) (ab (aq h1580 ra1) (bq h1580 ra1)) := by
                    rw [show rv h1580 2 = rv h1528 2 by first | decide | omega, show rv h1580 3 = rv h1528 3 by first | decide | omega, show rv h1580 4 = rv h1528 4 by first | decide | omega, show rv h1580 5 = rv h1528 5 by first | decide | omega]
                    exact Tzl.go (m' := 2147483662 - (1 + v1470)) m1482 (by first | decide | omega) k1793 rfl (by first | decide | omega) w1791 rfl e1792 rfl (Sl.cst (pe' := h ra1 7) (s' := rv h1472 5) (Sl.bs (c1538 (by first | decide | omega)) ((q1831.trans q1832).trans q1833)) (by first | decide | omega) (by first | decide | omega)) (ab2 (fun _ _ => rfl) (fun _ _ => rfl)) (ab2 m1834 m1835)
                  exact i1484 (1 + v1470) h1580 (by first | decide | omega) (by first | decide | omega) (by first | decide | omega) (by first | decide | omega) j1581 f1588 m1637 m1691 (Wl.trans m1480 (Wl.mp (Wl.bs (c1536 (by first | decide | omega)) ((q1710.trans q1711).trans q1712)) (fun _ _ => rfl) m1709 (by first | decide | omega) (by first | decide | omega))) m1743 m1821
                have q1591 : ¬ (v1576 ≠ 2147483648) := q1591
                have b1876 := c1585 (by first | decide | omega)
                refine x_const (np := 66) (x := 9223372039002259456) (a := 2147483648) (by decide +kernel) (by decide) (by decide) ?_
                have q1877 : h1580 ra1 7 = h1528 ra1 7 := jK 0 f1582 (rg_T0_7_0_1 ta1) (by first | decide | omega) (by first | decide | omega) (by decide)
                have q1878 : h1580 ra1 8 = h1528 ra1 8 := jK 0 f1582 (rg_T0_8_0_1 ta1) (by first | decide | omega) (by first | decide | omega) (by decide)
                have m1879 : Ot ra1 h h1528 := Ot.trans m1479 (Ot.cast c1535 ((q1558.trans q1559).trans q1560))
                have m1880 : Ot ra1 h h1580 := Ot.fr m1879 f1582 (by decide)
                have q1881 : h1580 (ra1 + 1) 2 = h1528 (ra1 + 1) 2 := jK 0 f1582 (rg_T1_2_0_1 ta1) (by first | decide | omega) (by first | decide | omega) (by decide)
                have b1882 := jB (e := 2) 0 j1529 (rg_T1_2_0_1 ta1) (by first | decide | omega) (by first | decide | omega)
                have b1883 := jB (e := 2) 0 hJ (rg_T1_2_0_1 ta1) (by first | decide | omega) (by first | decide | omega)
                have q1884 : h1580 (ra1 + 3) 2 = h1528 (ra1 + 3) 2 := jK 0 f1582 (rg_T3_2_0_1 ta1) (by first | decide | omega) (by first | decide | omega) (by decide)
                have b1885 := jB (e := 2) 0 j1529 (rg_T3_2_0_1 ta1) (by first | decide | omega) (by first | decide | omega)
                have b1886 := jB (e := 2) 0 hJ (rg_T3_2_0_1 ta1) (by first | decide | omega) (by first | decide | omega)
                have q1887 : h1580 (ra1 + 5) 2 = h1528 (ra1 + 5) 2 := jK 0 f1582 (rg_T5_2_0_1 ta1) (by first | decide | omega) (by first | decide | omega) (by decide)
                have b1888 := jB (e := 2) 0 j1529 (rg_T5_2_0_1 ta1) (by first | decide | omega) (by first | decide | omega)
                have b1889 := jB (e := 2) 0 hJ (rg_T5_2_0_1 ta1) (by first | decide | omega) (by first | decide | omega)
                have q1890 : h1580 (ra1 + 7) 2 = h1528 (ra1 + 7) 2 := jK 0 f1582 (rg_T7_2_0_1 ta1) (by first | decide | omega) (by first | decide | omega) (by decide)
                have b1891 := jB (e := 2) 0 j1529 (rg_T7_2_0_1 ta1) (by first | decide | omega) (by first | decide | omega)
                have b1892 := jB (e := 2) 0 hJ (rg_T7_2_0_1 ta1) (by first | decide | omega) (by first | decide | omega)
                have q1894 : h1472 61 1 = h10 61 1 := f1473 61 1 (by decide +kernel)
                have q1895 : h10 61 1 = h1 61 1 := f12 61 1 (by decide +kernel)
                have q1896 : h1 61 1 = ra1 := by rw [← e3]; exact x_up_at
                have q1897 : h1472 61 1 = h10 61 1 := f1473 61 1 (by decide +kernel)
                have q1898 : h10 61 1 = h1 61 1 := f12 61 1 (by decide +kernel)
                have q1899 : h1 61 1 = ra1 := by rw [← e3]; exact x_up_at
                have q1900 : h1472 61 1 = h10 61 1 := f1473 61 1 (by decide +kernel)
                have q1901 : h10 61 1 = h1 61 1 := f12 61 1 (by decide +kernel)
                have q1902 : h1 61 1 = ra1 := by rw [← e3]; exact x_up_at
                have q1903 : h1472 61 1 = h10 61 1 := f1473 61 1 (by decide +kernel)
                have q1904 : h10 61 1 = h1 61 1 := f12 61 1 (by decide +kernel)
                have q1905 : h1 61 1 = ra1 := by rw [← e3]; exact x_up_at
                have q1906 : h1472 61 1 = h10 61 1 := f1473 61 1 (by decide +kernel)
                have q1907 : h10 61 1 = h1 61 1 := f12 61 1 (by decide +kernel)
                have q1908 : h1 61 1 = ra1 := by rw [← e3]; exact x_up_at
                have q1909 : h1472 61 1 = h10 61 1 := f1473 61 1 (by decide +kernel)
                have q1910 : h10 61 1 = h1 61 1 := f12 61 1 (by decide +kernel)
                have q1911 : h1 61 1 = ra1 := by rw [← e3]; exact x_up_at
                have q1912 : h1472 61 1 = h10 61 1 := f1473 61 1 (by decide +kernel)
                have q1913 : h10 61 1 = h1 61 1 := f12 61 1 (by decide +kernel)
                have q1914 : h1 61 1 = ra1 := by rw [← e3]; exact x_up_at
                have q1915 : h1472 61 1 = h10 61 1 := f1473 61 1 (by decide +kernel)
                have q1916 : h10 61 1 = h1 61 1 := f12 61 1 (by decide +kernel)
                have q1917 : h1 61 1 = ra1 := by rw [← e3]; exact x_up_at
                have q1918 : h1472 61 1 = h10 61 1 := f1473 61 1 (by decide +kernel)
                have q1919 : h10 61 1 = h1 61 1 := f12 61 1 (by decide +kernel)
                have q1920 : h1 61 1 = ra1 := by rw [← e3]; exact x_up_at
                have k1893 := l9_pe (pe' := h ra1 7) (l1 := rv h1472 2) (t1 := rv h1472 3) (d1 := rv h1472 4) (s1 := rv h1472 5) c1534 (by first | decide | omega) (by first | decide | omega) (by first | decide | omega) (by first | decide | omega) (by first | decide | omega)
                have q1921 : h1528 1 1 = h1472 1 1 := jK 0 f1530 rg_1_1_0_1 (by first | decide | omega) (by first | decide | omega) (by decide)
                have q1922 : h1472 1 1 = h10 1 1 := jK 0 f1473 rg_1_1_0_1 (by first | decide | omega) (by first | decide | omega) (by decide)
                have q1923 : h10 1 1 = h1 1 1 := jK 0 f12 rg_1_1_0_1 (by first | decide | omega) (by first | decide | omega) (by decide)
                have q1924 : h1 1 1 = h 1 1 := by rw [← e3]; exact x_up_k (by decide)
                have z1925 := m1579.1
                have q1926 : h1528 61 1 = h1472 61 1 := f1530 61 1 (by decide +kernel)
                have q1927 : h1472 61 1 = h10 61 1 := f1473 61 1 (by decide +kernel)
                have q1928 : h10 61 1 = h1 61 1 := f12 61 1 (by decide +kernel)
                have q1929 : h1 61 1 = ra1 := by rw [← e3]; exact x_up_at
                have e1930 : rv h1528 2 = (h1528 (ra1 + 1) 2) := (congrArg (fun z => svq h1528 z 2) (((q1926.trans q1927).trans q1928).trans q1929)).trans rfl
                have q1931 : h1528 61 1 = h1472 61 1 := f1530 61 1 (by decide +kernel)
                have q1932 : h1472 61 1 = h10 61 1 := f1473 61 1 (by decide +kernel)
                have q1933 : h10 61 1 = h1 61 1 := f12 61 1 (by decide +kernel)
                have q1934 : h1 61 1 = ra1 := by rw [← e3]; exact x_up_at
                have e1935 : rv h1528 3 = (h1528 (ra1 + 3) 2) := (congrArg (fun z => svq h1528 z 3) (((q1931.trans q1932).trans q1933).trans q1934)).trans rfl
                have q1936 : h1528 61 1 = h1472 61 1 := f1530 61 1 (by decide +kernel)
                have q1937 : h1472 61 1 = h10 61 1 := f1473 61 1 (by decide +kernel)
                have q1938 : h10 61 1 = h1 61 1 := f12 61 1 (by decide +kernel)
                have q1939 : h1 61 1 = ra1 := by rw [← e3]; exact x_up_at
                have e1940 : rv h1528 4 = (h1528 (ra1 + 5) 2) := (congrArg (fun z => svq h1528 z 4) (((q1936.trans q1937).trans q1938).trans q1939)).trans rfl
                have q1941 : h1528 61 1 = h1472 61 1 := f1530 61 1 (by decide +kernel)
                have q1942 : h1472 61 1 = h10 61 1 := f1473 61 1 (by decide +kernel)
                have q1943 : h10 61 1 = h1 61 1 := f12 61 1 (by decide +kernel)
                have q1944 : h1 61 1 = ra1 := by rw [← e3]; exact x_up_at
                have e1945 : rv h1528 5 = (h1528 (ra1 + 7) 2) := (congrArg (fun z => svq h1528 z 5) (((q1941.trans q1942).trans q1943).trans q1944)).trans rfl
                obtain ⟨w1946, e1947⟩ := Tk.no c1586 (by first | decide | omega)
                refine x_retI (np := 67) (x := 0) (by decide +kernel) (by decide) (Or.inr ⟨by decide +kernel, by first | decide | omega, by first | decide | omega⟩) ⟨_, rfl, (by decide), ?_⟩
                exact ⟨j1581, f1587, (by first | decide | omega), (by first | decide | omega), (by first | decide | omega), (Tt.n0 (by first | decide | omega) (Tl.bad m1478 (by first | decide | omega) k1893 rfl (by first | decide | omega) (by first | decide | omega) w1946 rfl)), m1880, (fun z => absurd z (by first | decide | omega)), (fun z => absurd z (by first | decide | omega)), (fun z => absurd z (by first | decide | omega))⟩
              have q1574 : ¬ (2147483648 = 2147483648) := q1574
              exfalso; omega
            have q1572 : ¬ ((h1528 1 2) < (h 1 1)) := q1572
            refine x_const (np := 12) (x := 9223372043297226753) (a := 2147483649) (by decide +kernel) (by decide) (by decide) ?_
            refine x_goto (np := 15) (x := 16) (by decide +kernel) ?_
            refine x_retI (np := 17) (x := 0) (by decide +kernel) (by decide) (Or.inr ⟨by decide +kernel, by first | decide | omega, by first | decide | omega⟩) ⟨_, rfl, (by decide), ?_⟩
            refine x_ifz (k := 0) (tg := 53) (np := 51) (by decide +kernel) (by decide) (by decide) (fun q1948 => ?_) (fun q1949 => ?_)
            · have q1948 : 2147483649 = 2147483648 := q1948
              exfalso; omega
            have q1949 : ¬ (2147483649 = 2147483648) := q1949
            refine x_const (np := 52) (x := 9223372043297226753) (a := 2147483649) (by decide +kernel) (by decide) (by decide) ?_
            have m1950 : Ot ra1 h h1528 := Ot.trans m1479 (Ot.cast c1535 ((q1558.trans q1559).trans q1560))
            have b1951 := jB (e := 2) 0 j1529 (rg_T1_2_0_1 ta1) (by first | decide | omega) (by first | decide | omega)
            have b1952 := jB (e := 2) 0 hJ (rg_T1_2_0_1 ta1) (by first | decide | omega) (by first | decide | omega)
            have b1953 := jB (e := 2) 0 j1529 (rg_T3_2_0_1 ta1) (by first | decide | omega) (by first | decide | omega)
            have b1954 := jB (e := 2) 0 hJ (rg_T3_2_0_1 ta1) (by first | decide | omega) (by first | decide | omega)
            have b1955 := jB (e := 2) 0 j1529 (rg_T5_2_0_1 ta1) (by first | decide | omega) (by first | decide | omega)
            have b1956 := jB (e := 2) 0 hJ (rg_T5_2_0_1 ta1) (by first | decide | omega) (by first | decide | omega)
            have b1957 := jB (e := 2) 0 j1529 (rg_T7_2_0_1 ta1) (by first | decide | omega) (by first | decide | omega)
            have b1958 := jB (e := 2) 0 hJ (rg_T7_2_0_1 ta1) (by first | decide | omega) (by first | decide | omega)
            have q1960 : h1472 61 1 = h10 61 1 := f1473 61 1 (by decide +kernel)
            have q1961 : h10 61 1 = h1 61 1 := f12 61 1 (by decide +kernel)
            have q1962 : h1 61 1 = ra1 := by rw [← e3]; exact x_up_at
            have q1963 : h1472 61 1 = h10 61 1 := f1473 61 1 (by decide +kernel)
            have q1964 : h10 61 1 = h1 61 1 := f12 61 1 (by decide +kernel)
            have q1965 : h1 61 1 = ra1 := by rw [← e3]; exact x_up_at
            have q1966 : h1472 61 1 = h10 61 1 := f1473 61 1 (by decide +kernel)
            have q1967 : h10 61 1 = h1 61 1 := f12 61 1 (by decide +kernel)
            have q1968 : h1 61 1 = ra1 := by rw [← e3]; exact x_up_at
            have q1969 : h1472 61 1 = h10 61 1 := f1473 61 1 (by decide +kernel)
            have q1970 : h10 61 1 = h1 61 1 := f12 61 1 (by decide +kernel)
            have q1971 : h1 61 1 = ra1 := by rw [← e3]; exact x_up_at
            have q1972 : h1472 61 1 = h10 61 1 := f1473 61 1 (by decide +kernel)
            have q1973 : h10 61 1 = h1 61 1 := f12 61 1 (by decide +kernel)
            have q1974 : h1 61 1 = ra1 := by rw [← e3]; exact x_up_at
            have q1975 : h1472 61 1 = h10 61 1 := f1473 61 1 (by decide +kernel)
            have q1976 : h10 61 1 = h1 61 1 := f12 61 1 (by decide +kernel)
            have q1977 : h1 61 1 = ra1 := by rw [← e3]; exact x_up_at
            have q1978 : h1472 61 1 = h10 61 1 := f1473 61 1 (by decide +kernel)
            have q1979 : h10 61 1 = h1 61 1 := f12 61 1 (by decide +kernel)
            have q1980 : h1 61 1 = ra1 := by rw [← e3]; exact x_up_at
            have q1981 : h1472 61 1 = h10 61 1 := f1473 61 1 (by decide +kernel)
            have q1982 : h10 61 1 = h1 61 1 := f12 61 1 (by decide +kernel)
            have q1983 : h1 61 1 = ra1 := by rw [← e3]; exact x_up_at
            have q1984 : h1472 61 1 = h10 61 1 := f1473 61 1 (by decide +kernel)
            have q1985 : h10 61 1 = h1 61 1 := f12 61 1 (by decide +kernel)
            have q1986 : h1 61 1 = ra1 := by rw [← e3]; exact x_up_at
            have k1959 := l9_pe (pe' := h ra1 7) (l1 := rv h1472 2) (t1 := rv h1472 3) (d1 := rv h1472 4) (s1 := rv h1472 5) c1534 (by first | decide | omega) (by first | decide | omega) (by first | decide | omega) (by first | decide | omega) (by first | decide | omega)
            have q1987 : h1528 1 1 = h1472 1 1 := jK 0 f1530 rg_1_1_0_1 (by first | decide | omega) (by first | decide | omega) (by decide)
            have q1988 : h1472 1 1 = h10 1 1 := jK 0 f1473 rg_1_1_0_1 (by first | decide | omega) (by first | decide | omega) (by decide)
            have q1989 : h10 1 1 = h1 1 1 := jK 0 f12 rg_1_1_0_1 (by first | decide | omega) (by first | decide | omega) (by decide)
            have q1990 : h1 1 1 = h 1 1 := by rw [← e3]; exact x_up_k (by decide)
            have m1992 := Tp.fr m1526 f1530 (by decide) (by decide)
            have z1991 := m1992.1
            have q1993 : h1528 61 1 = h1472 61 1 := f1530 61 1 (by decide +kernel)
            have q1994 : h1472 61 1 = h10 61 1 := f1473 61 1 (by decide +kernel)
            have q1995 : h10 61 1 = h1 61 1 := f12 61 1 (by decide +kernel)
            have q1996 : h1 61 1 = ra1 := by rw [← e3]; exact x_up_at
            have e1997 : rv h1528 2 = (h1528 (ra1 + 1) 2) := (congrArg (fun z => svq h1528 z 2) (((q1993.trans q1994).trans q1995).trans q1996)).trans rfl
            have q1998 : h1528 61 1 = h1472 61 1 := f1530 61 1 (by decide +kernel)
            have q1999 : h1472 61 1 = h10 61 1 := f1473 61 1 (by decide +kernel)
            have q2000 : h10 61 1 = h1 61 1 := f12 61 1 (by decide +kernel)
            have q2001 : h1 61 1 = ra1 := by rw [← e3]; exact x_up_at
            have e2002 : rv h1528 3 = (h1528 (ra1 + 3) 2) := (congrArg (fun z => svq h1528 z 3) (((q1998.trans q1999).trans q2000).trans q2001)).trans rfl
            have q2003 : h1528 61 1 = h1472 61 1 := f1530 61 1 (by decide +kernel)
            have q2004 : h1472 61 1 = h10 61 1 := f1473 61 1 (by decide +kernel)
            have q2005 : h10 61 1 = h1 61 1 := f12 61 1 (by decide +kernel)
            have q2006 : h1 61 1 = ra1 := by rw [← e3]; exact x_up_at
            have e2007 : rv h1528 4 = (h1528 (ra1 + 5) 2) := (congrArg (fun z => svq h1528 z 4) (((q2003.trans q2004).trans q2005).trans q2006)).trans rfl
            have q2008 : h1528 61 1 = h1472 61 1 := f1530 61 1 (by decide +kernel)
            have q2009 : h1472 61 1 = h10 61 1 := f1473 61 1 (by decide +kernel)
            have q2010 : h10 61 1 = h1 61 1 := f12 61 1 (by decide +kernel)
            have q2011 : h1 61 1 = ra1 := by rw [← e3]; exact x_up_at
            have e2012 : rv h1528 5 = (h1528 (ra1 + 7) 2) := (congrArg (fun z => svq h1528 z 5) (((q2008.trans q2009).trans q2010).trans q2011)).trans rfl
            have q2013 : h1472 61 1 = h10 61 1 := f1473 61 1 (by decide +kernel)
            have q2014 : h10 61 1 = h1 61 1 := f12 61 1 (by decide +kernel)
            have q2015 : h1 61 1 = ra1 := by rw [← e3]; exact x_up_at
            have q2016 : h1472 61 1 = h10 61 1 := f1473 61 1 (by decide +kernel)
            have q2017 : h10 61 1 = h1 61 1 := f12 61 1 (by decide +kernel)
            have q2018 : h1 61 1 = ra1 := by rw [← e3]; exact x_up_at
            have q2019 : h1528 61 1 = h1472 61 1 := f1530 61 1 (by decide +kernel)
            have q2020 : h1472 61 1 = h10 61 1 := f1473 61 1 (by decide +kernel)
            have q2021 : h10 61 1 = h1 61 1 := f12 61 1 (by decide +kernel)
            have q2022 : h1 61 1 = ra1 := by rw [← e3]; exact x_up_at
            have q2023 : h1528 61 1 = h1472 61 1 := f1530 61 1 (by decide +kernel)
            have q2024 : h1472 61 1 = h10 61 1 := f1473 61 1 (by decide +kernel)
            have q2025 : h10 61 1 = h1 61 1 := f12 61 1 (by decide +kernel)
            have q2026 : h1 61 1 = ra1 := by rw [← e3]; exact x_up_at
            have q2027 : h1472 61 1 = h10 61 1 := f1473 61 1 (by decide +kernel)
            have q2028 : h10 61 1 = h1 61 1 := f12 61 1 (by decide +kernel)
            have q2029 : h1 61 1 = ra1 := by rw [← e3]; exact x_up_at
            have q2031 : h1472 61 1 = h10 61 1 := f1473 61 1 (by decide +kernel)
            have q2032 : h10 61 1 = h1 61 1 := f12 61 1 (by decide +kernel)
            have q2033 : h1 61 1 = ra1 := by rw [← e3]; exact x_up_at
            have q2034 : h1472 61 1 = h10 61 1 := f1473 61 1 (by decide +kernel)
            have q2035 : h10 61 1 = h1 61 1 := f12 61 1 (by decide +kernel)
            have q2036 : h1 61 1 = ra1 := by rw [← e3]; exact x_up_at
            have q2037 : h1472 61 1 = h10 61 1 := f1473 61 1 (by decide +kernel)
            have q2038 : h10 61 1 = h1 61 1 := f12 61 1 (by decide +kernel)
            have q2039 : h1 61 1 = ra1 := by rw [← e3]; exact x_up_at
            have q2040 : h1472 61 1 = h10 61 1 := f1473 61 1 (by decide +kernel)
            have q2041 : h10 61 1 = h1 61 1 := f12 61 1 (by decide +kernel)
            have q2042 : h1 61 1 = ra1 := by rw [← e3]; exact x_up_at
            have q2043 : h1472 61 1 = h10 61 1 := f1473 61 1 (by decide +kernel)
            have q2044 : h10 61 1 = h1 61 1 := f12 61 1 (by decide +kernel)
            have q2045 : h1 61 1 = ra1 := by rw [← e3]; exact x_up_at
            have q2046 : h1472 61 1 = h10 61 1 := f1473 61 1 (by decide +kernel)
            have q2047 : h10 61 1 = h1 61 1 := f12 61 1 (by decide +kernel)
            have q2048 : h1 61 1 = ra1 := by rw [← e3]; exact x_up_at
            have q2049 : h1472 61 1 = h10 61 1 := f1473 61 1 (by decide +kernel)
            have q2050 : h10 61 1 = h1 61 1 := f12 61 1 (by decide +kernel)
            have q2051 : h1 61 1 = ra1 := by rw [← e3]; exact x_up_at
            have q2052 : h1472 61 1 = h10 61 1 := f1473 61 1 (by decide +kernel)
            have q2053 : h10 61 1 = h1 61 1 := f12 61 1 (by decide +kernel)
            have q2054 : h1 61 1 = ra1 := by rw [← e3]; exact x_up_at
            have q2055 : h1472 61 1 = h10 61 1 := f1473 61 1 (by decide +kernel)
            have q2056 : h10 61 1 = h1 61 1 := f12 61 1 (by decide +kernel)
            have q2057 : h1 61 1 = ra1 := by rw [← e3]; exact x_up_at
            have k2030 := l9_pe (pe' := h ra1 7) (l1 := rv h1472 2) (t1 := rv h1472 3) (d1 := rv h1472 4) (s1 := rv h1472 5) c1534 (by first | decide | omega) (by first | decide | omega) (by first | decide | omega) (by first | decide | omega) (by first | decide | omega)
            have q2058 : h1528 1 1 = h1472 1 1 := jK 0 f1530 rg_1_1_0_1 (by first | decide | omega) (by first | decide | omega) (by decide)
            have q2059 : h1472 1 1 = h10 1 1 := jK 0 f1473 rg_1_1_0_1 (by first | decide | omega) (by first | decide | omega) (by decide)
            have q2060 : h10 1 1 = h1 1 1 := jK 0 f12 rg_1_1_0_1 (by first | decide | omega) (by first | decide | omega) (by decide)
            have q2061 : h1 1 1 = h 1 1 := by rw [← e3]; exact x_up_k (by decide)
            have z2062 := m1992.1
            have q2063 : h1472 61 1 = h10 61 1 := f1473 61 1 (by decide +kernel)
            have q2064 : h10 61 1 = h1 61 1 := f12 61 1 (by decide +kernel)
            have q2065 : h1 61 1 = ra1 := by rw [← e3]; exact x_up_at
            have q2066 : h1472 61 1 = h10 61 1 := f1473 61 1 (by decide +kernel)
            have q2067 : h10 61 1 = h1 61 1 := f12 61 1 (by decide +kernel)
            have q2068 : h1 61 1 = ra1 := by rw [← e3]; exact x_up_at
            have q2070 : h1472 61 1 = h10 61 1 := f1473 61 1 (by decide +kernel)
            have q2071 : h10 61 1 = h1 61 1 := f12 61 1 (by decide +kernel)
            have q2072 : h1 61 1 = ra1 := by rw [← e3]; exact x_up_at
            have q2073 : h1472 61 1 = h10 61 1 := f1473 61 1 (by decide +kernel)
            have q2074 : h10 61 1 = h1 61 1 := f12 61 1 (by decide +kernel)
            have q2075 : h1 61 1 = ra1 := by rw [← e3]; exact x_up_at
            have q2076 : h1472 61 1 = h10 61 1 := f1473 61 1 (by decide +kernel)
            have q2077 : h10 61 1 = h1 61 1 := f12 61 1 (by decide +kernel)
            have q2078 : h1 61 1 = ra1 := by rw [← e3]; exact x_up_at
            have q2079 : h1472 61 1 = h10 61 1 := f1473 61 1 (by decide +kernel)
            have q2080 : h10 61 1 = h1 61 1 := f12 61 1 (by decide +kernel)
            have q2081 : h1 61 1 = ra1 := by rw [← e3]; exact x_up_at
            have q2082 : h1472 61 1 = h10 61 1 := f1473 61 1 (by decide +kernel)
            have q2083 : h10 61 1 = h1 61 1 := f12 61 1 (by decide +kernel)
            have q2084 : h1 61 1 = ra1 := by rw [← e3]; exact x_up_at
            have q2085 : h1472 61 1 = h10 61 1 := f1473 61 1 (by decide +kernel)
            have q2086 : h10 61 1 = h1 61 1 := f12 61 1 (by decide +kernel)
            have q2087 : h1 61 1 = ra1 := by rw [← e3]; exact x_up_at
            have q2088 : h1472 61 1 = h10 61 1 := f1473 61 1 (by decide +kernel)
            have q2089 : h10 61 1 = h1 61 1 := f12 61 1 (by decide +kernel)
            have q2090 : h1 61 1 = ra1 := by rw [← e3]; exact x_up_at
            have q2091 : h1472 61 1 = h10 61 1 := f1473 61 1 (by decide +kernel)
            have q2092 : h10 61 1 = h1 61 1 := f12 61 1 (by decide +kernel)
            have q2093 : h1 61 1 = ra1 := by rw [← e3]; exact x_up_at
            have q2094 : h1472 61 1 = h10 61 1 := f1473 61 1 (by decide +kernel)
            have q2095 : h10 61 1 = h1 61 1 := f12 61 1 (by decide +kernel)
            have q2096 : h1 61 1 = ra1 := by rw [← e3]; exact x_up_at
            have k2069 := l9_pe (pe' := h ra1 7) (l1 := rv h1472 2) (t1 := rv h1472 3) (d1 := rv h1472 4) (s1 := rv h1472 5) c1534 (by first | decide | omega) (by first | decide | omega) (by first | decide | omega) (by first | decide | omega) (by first | decide | omega)
            have q2097 : h1528 1 1 = h1472 1 1 := jK 0 f1530 rg_1_1_0_1 (by first | decide | omega) (by first | decide | omega) (by decide)
            have q2098 : h1472 1 1 = h10 1 1 := jK 0 f1473 rg_1_1_0_1 (by first | decide | omega) (by first | decide | omega) (by decide)
            have q2099 : h10 1 1 = h1 1 1 := jK 0 f12 rg_1_1_0_1 (by first | decide | omega) (by first | decide | omega) (by decide)
            have q2100 : h1 1 1 = h 1 1 := by rw [← e3]; exact x_up_k (by decide)
            have z2101 := m1992.1
            have q2102 : h1472 61 1 = h10 61 1 := f1473 61 1 (by decide +kernel)
            have q2103 : h10 61 1 = h1 61 1 := f12 61 1 (by decide +kernel)
            have q2104 : h1 61 1 = ra1 := by rw [← e3]; exact x_up_at
            have q2105 : h1472 61 1 = h10 61 1 := f1473 61 1 (by decide +kernel)
            have q2106 : h10 61 1 = h1 61 1 := f12 61 1 (by decide +kernel)
            have q2107 : h1 61 1 = ra1 := by rw [← e3]; exact x_up_at
            have q2108 : h1472 61 1 = h10 61 1 := f1473 61 1 (by decide +kernel)
            have q2109 : h10 61 1 = h1 61 1 := f12 61 1 (by decide +kernel)
            have q2110 : h1 61 1 = ra1 := by rw [← e3]; exact x_up_at
            have q2111 : h1472 61 1 = h10 61 1 := f1473 61 1 (by decide +kernel)
            have q2112 : h10 61 1 = h1 61 1 := f12 61 1 (by decide +kernel)
            have q2113 : h1 61 1 = ra1 := by rw [← e3]; exact x_up_at
            refine x_retI (np := 53) (x := 0) (by decide +kernel) (by decide) (Or.inr ⟨by decide +kernel, by first | decide | omega, by first | decide | omega⟩) ⟨_, rfl, (by decide), ?_⟩
            exact ⟨j1529, f1539, (by first | decide | omega), (by first | decide | omega), (by first | decide | omega), (Tt.s1 (by first | decide | omega) (Tl.fin m1478 (by first | decide | omega) k1959 rfl (by first | decide | omega) (by first | decide | omega)) (by first | decide | omega) (by first | decide | omega) (by first | decide | omega) (by first | decide | omega)), m1950, (fun _ => Wl.trans m1480 (Wl.mp (Wl.bs (c1536 (by first | decide | omega)) ((q2027.trans q2028).trans q2029)) (fun _ _ => rfl) (fun _ _ => rfl) (by first | decide | omega) (by first | decide | omega))), (fun _ => Txl.fin m1481 (by first | decide | omega) k2030 rfl (by first | decide | omega) (by first | decide | omega) (Lx.cst (pe' := h ra1 7) (Lx.bs (c1537 (by first | decide | omega)) ((q2066.trans q2067).trans q2068)) (by first | decide | omega)) (fun _ _ => rfl) (fun _ _ => rfl)), (fun _ => Tzl.fin m1482 (by first | decide | omega) k2069 rfl (by first | decide | omega) (by first | decide | omega) (Sl.cst (pe' := h ra1 7) (s' := rv h1472 5) (Sl.bs (c1538 (by first | decide | omega)) ((q2111.trans q2112).trans q2113)) (by first | decide | omega) (by first | decide | omega)) (ab2 (fun _ _ => rfl) (fun _ _ => rfl)) (ab2 (fun _ _ => rfl) (fun _ _ => rfl)))⟩
          have q1562 : ¬ (v1523 ≠ 2147483648) := q1562
          refine x_const (np := 40) (x := 9223372039002259456) (a := 2147483648) (by decide +kernel) (by decide) (by decide) ?_
          have m2114 : Ot ra1 h h1528 := Ot.trans m1479 (Ot.cast c1535 ((q1558.trans q1559).trans q1560))
          have b2115 := jB (e := 2) 0 j1529 (rg_T1_2_0_1 ta1) (by first | decide | omega) (by first | decide | omega)
          have b2116 := jB (e := 2) 0 hJ (rg_T1_2_0_1 ta1) (by first | decide | omega) (by first | decide | omega)
          have b2117 := jB (e := 2) 0 j1529 (rg_T3_2_0_1 ta1) (by first | decide | omega) (by first | decide | omega)
          have b2118 := jB (e := 2) 0 hJ (rg_T3_2_0_1 ta1) (by first | decide | omega) (by first | decide | omega)
          have b2119 := jB (e := 2) 0 j1529 (rg_T5_2_0_1 ta1) (by first | decide | omega) (by first | decide | omega)
          have b2120 := jB (e := 2) 0 hJ (rg_T5_2_0_1 ta1) (by first | decide | omega) (by first | decide | omega)
          have b2121 := jB (e := 2) 0 j1529 (rg_T7_2_0_1 ta1) (by first | decide | omega) (by first | decide | omega)
          have b2122 := jB (e := 2) 0 hJ (rg_T7_2_0_1 ta1) (by first | decide | omega) (by first | decide | omega)
          have q2124 : h1472 61 1 = h10 61 1 := f1473 61 1 (by decide +kernel)
          have q2125 : h10 61 1 = h1 61 1 := f12 61 1 (by decide +kernel)
          have q2126 : h1 61 1 = ra1 := by rw [← e3]; exact x_up_at
          have q2127 : h1472 61 1 = h10 61 1 := f1473 61 1 (by decide +kernel)
          have q2128 : h10 61 1 = h1 61 1 := f12 61 1 (by decide +kernel)
          have q2129 : h1 61 1 = ra1 := by rw [← e3]; exact x_up_at
          have q2130 : h1472 61 1 = h10 61 1 := f1473 61 1 (by decide +kernel)
          have q2131 : h10 61 1 = h1 61 1 := f12 61 1 (by decide +kernel)
          have q2132 : h1 61 1 = ra1 := by rw [← e3]; exact x_up_at
          have q2133 : h1472 61 1 = h10 61 1 := f1473 61 1 (by decide +kernel)
          have q2134 : h10 61 1 = h1 61 1 := f12 61 1 (by decide +kernel)
          have q2135 : h1 61 1 = ra1 := by rw [← e3]; exact x_up_at
          have q2136 : h1472 61 1 = h10 61 1 := f1473 61 1 (by decide +kernel)
          have q2137 : h10 61 1 = h1 61 1 := f12 61 1 (by decide +kernel)
          have q2138 : h1 61 1 = ra1 := by rw [← e3]; exact x_up_at
          have q2139 : h1472 61 1 = h10 61 1 := f1473 61 1 (by decide +kernel)
          have q2140 : h10 61 1 = h1 61 1 := f12 61 1 (by decide +kernel)
          have q2141 : h1 61 1 = ra1 := by rw [← e3]; exact x_up_at
          have q2142 : h1472 61 1 = h10 61 1 := f1473 61 1 (by decide +kernel)
          have q2143 : h10 61 1 = h1 61 1 := f12 61 1 (by decide +kernel)
          have q2144 : h1 61 1 = ra1 := by rw [← e3]; exact x_up_at
          have q2145 : h1472 61 1 = h10 61 1 := f1473 61 1 (by decide +kernel)
          have q2146 : h10 61 1 = h1 61 1 := f12 61 1 (by decide +kernel)
          have q2147 : h1 61 1 = ra1 := by rw [← e3]; exact x_up_at
          have q2148 : h1472 61 1 = h10 61 1 := f1473 61 1 (by decide +kernel)
          have q2149 : h10 61 1 = h1 61 1 := f12 61 1 (by decide +kernel)
          have q2150 : h1 61 1 = ra1 := by rw [← e3]; exact x_up_at
          have k2123 := l9_pe (pe' := h ra1 7) (l1 := rv h1472 2) (t1 := rv h1472 3) (d1 := rv h1472 4) (s1 := rv h1472 5) c1534 (by first | decide | omega) (by first | decide | omega) (by first | decide | omega) (by first | decide | omega) (by first | decide | omega)
          refine x_retI (np := 41) (x := 0) (by decide +kernel) (by decide) (Or.inr ⟨by decide +kernel, by first | decide | omega, by first | decide | omega⟩) ⟨_, rfl, (by decide), ?_⟩
          exact ⟨j1529, f1539, (by first | decide | omega), (by first | decide | omega), (by first | decide | omega), (Tt.n0 (by first | decide | omega) (Tl.no m1478 (by first | decide | omega) k2123 rfl (by first | decide | omega))), m2114, (fun z => absurd z (by first | decide | omega)), (fun z => absurd z (by first | decide | omega)), (fun z => absurd z (by first | decide | omega))⟩
      have b2151 := jB (e := 7) 0 hJ (rg_T0_7_0_1 ta1) (by first | decide | omega) (by first | decide | omega)
      have q2152 : h10 61 1 = h1 61 1 := f12 61 1 (by decide +kernel)
      have q2153 : h1 61 1 = ra1 := by rw [← e3]; exact x_up_at
      have q2154 : h10 ra1 7 = h1 ra1 7 := jK 0 f12 (rg_T0_7_0_1 ta1) (by first | decide | omega) (by first | decide | omega) (by decide)
      have q2155 : h1 ra1 7 = h ra1 7 := by rw [← e3]; exact x_up_k (tne_0_61 ta1)
      have e2156 : rv h10 0 = (h ra1 7) := (congrArg (fun z => svq h10 z 0) (q2152.trans q2153)).trans (q2154.trans q2155)
      have q2157 : h10 61 1 = h1 61 1 := f12 61 1 (by decide +kernel)
      have q2158 : h1 61 1 = ra1 := by rw [← e3]; exact x_up_at
      have q2159 : h10 ra1 8 = h1 ra1 8 := jK 0 f12 (rg_T0_8_0_1 ta1) (by first | decide | omega) (by first | decide | omega) (by decide)
      have q2160 : h1 ra1 8 = h ra1 8 := by rw [← e3]; exact x_up_k (tne_0_61 ta1)
      have e2161 : rv h10 1 = (h ra1 8) := (congrArg (fun z => svq h10 z 1) (q2157.trans q2158)).trans (q2159.trans q2160)
      have q2162 : h10 1 1 = h1 1 1 := jK 0 f12 rg_1_1_0_1 (by first | decide | omega) (by first | decide | omega) (by decide)
      have q2163 : h1 1 1 = h 1 1 := by rw [← e3]; exact x_up_k (by decide)
      have m2165 := Tp.fr m9 f12 (by decide) (by decide)
      have z2164 := m2165.1
      have b2167 := jB (e := 2) 0 hJ (rg_T1_2_0_1 ta1) (by first | decide | omega) (by first | decide | omega)
      have q2168 : h10 61 1 = h1 61 1 := f12 61 1 (by decide +kernel)
      have q2169 : h1 61 1 = ra1 := by rw [← e3]; exact x_up_at
      have q2170 : h10 (ra1 + 1) 2 = h1 (ra1 + 1) 2 := jK 0 f12 (rg_T1_2_0_1 ta1) (by first | decide | omega) (by first | decide | omega) (by decide)
      have q2171 : h1 (ra1 + 1) 2 = h (ra1 + 1) 2 := by rw [← e3]; exact x_up_k (tne_1_61 ta1)
      have e2172 : rv h10 2 = (h (ra1 + 1) 2) := (congrArg (fun z => svq h10 z 2) (q2168.trans q2169)).trans (q2170.trans q2171)
      have b2173 := jB (e := 2) 0 hJ (rg_T3_2_0_1 ta1) (by first | decide | omega) (by first | decide | omega)
      have q2174 : h10 61 1 = h1 61 1 := f12 61 1 (by decide +kernel)
      have q2175 : h1 61 1 = ra1 := by rw [← e3]; exact x_up_at
      have q2176 : h10 (ra1 + 3) 2 = h1 (ra1 + 3) 2 := jK 0 f12 (rg_T3_2_0_1 ta1) (by first | decide | omega) (by first | decide | omega) (by decide)
      have q2177 : h1 (ra1 + 3) 2 = h (ra1 + 3) 2 := by rw [← e3]; exact x_up_k (tne_3_61 ta1)
      have e2178 : rv h10 3 = (h (ra1 + 3) 2) := (congrArg (fun z => svq h10 z 3) (q2174.trans q2175)).trans (q2176.trans q2177)
      have b2179 := jB (e := 2) 0 hJ (rg_T5_2_0_1 ta1) (by first | decide | omega) (by first | decide | omega)
      have q2180 : h10 61 1 = h1 61 1 := f12 61 1 (by decide +kernel)
      have q2181 : h1 61 1 = ra1 := by rw [← e3]; exact x_up_at
      have q2182 : h10 (ra1 + 5) 2 = h1 (ra1 + 5) 2 := jK 0 f12 (rg_T5_2_0_1 ta1) (by first | decide | omega) (by first | decide | omega) (by decide)
      have q2183 : h1 (ra1 + 5) 2 = h (ra1 + 5) 2 := by rw [← e3]; exact x_up_k (tne_5_61 ta1)
      have e2184 : rv h10 4 = (h (ra1 + 5) 2) := (congrArg (fun z => svq h10 z 4) (q2180.trans q2181)).trans (q2182.trans q2183)
      have b2185 := jB (e := 2) 0 hJ (rg_T7_2_0_1 ta1) (by first | decide | omega) (by first | decide | omega)
      have q2186 : h10 61 1 = h1 61 1 := f12 61 1 (by decide +kernel)
      have q2187 : h1 61 1 = ra1 := by rw [← e3]; exact x_up_at
      have q2188 : h10 (ra1 + 7) 2 = h1 (ra1 + 7) 2 := jK 0 f12 (rg_T7_2_0_1 ta1) (by first | decide | omega) (by first | decide | omega) (by decide)
      have q2189 : h1 (ra1 + 7) 2 = h (ra1 + 7) 2 := by rw [← e3]; exact x_up_k (tne_7_61 ta1)
      have e2190 : rv h10 5 = (h (ra1 + 7) 2) := (congrArg (fun z => svq h10 z 5) (q2186.trans q2187)).trans (q2188.trans q2189)
      have m2166 : Tl tB tN (h ra1 7) (h (ra1 + 1) 2) (h (ra1 + 3) 2) (h (ra1 + 5) 2) (h (ra1 + 7) 2) (2147483662 - 2147483648) (rv h10 2) (rv h10 3) (rv h10 4) (rv h10 5) (h10 1 2) := by
        rw [show rv h10 2 = h (ra1 + 1) 2 by first | decide | omega, show rv h10 3 = h (ra1 + 3) 2 by first | decide | omega, show rv h10 4 = h (ra1 + 5) 2 by first | decide | omega, show rv h10 5 = h (ra1 + 7) 2 by first | decide | omega]
        exact Tl.zero ((show h10 1 2 = h10 1 2 by first | decide | omega).trans c16) (by first | decide | omega) rfl
      have m2191 : Ot ra1 h h1 := by rw [← e3]; exact Ot.oth Ot.refl (by decide)
      have m2192 : Ot ra1 h h10 := Ot.fr m2191 f12 (by decide)
      have q2193 : h10 61 1 = h1 61 1 := f12 61 1 (by decide +kernel)
      have q2194 : h1 61 1 = ra1 := by rw [← e3]; exact x_up_at
      have q2195 : h10 (ra1 + 3) 2 = h1 (ra1 + 3) 2 := jK 0 f12 (rg_T3_2_0_1 ta1) (by first | decide | omega) (by first | decide | omega) (by decide)
      have q2196 : h1 (ra1 + 3) 2 = h (ra1 + 3) 2 := by rw [← e3]; exact x_up_k (tne_3_61 ta1)
      have m2197 : ∀ u, u < 10 → wq h10 ra1 u = wq h ra1 u := fun u hu => (Eq.trans (wq_gr ta1 f12 (by decide) u hu) (show wq h1 ra1 u = wq h ra1 u by rw [← e3]; exact wq_k (@nc_o ra1 4 61 ta1 (by decide))))
      have q2198 : h10 1 1 = h1 1 1 := jK 0 f12 rg_1_1_0_1 (by first | decide | omega) (by first | decide | omega) (by decide)
      have q2199 : h1 1 1 = h 1 1 := by rw [← e3]; exact x_up_k (by decide)
      have z2200 := m2165.1
      have m2202 : ∀ u, u < 6 → xq h10 ra1 u = xq h ra1 u := fun u hu => (Eq.trans (xq_gr ta1 f12 (by decide) u hu) (show xq h1 ra1 u = xq h ra1 u by rw [← e3]; exact xq_k (@nc_o ra1 9 61 ta1 (by decide))))
      have q2203 : h10 61 1 = h1 61 1 := f12 61 1 (by decide +kernel)
      have q2204 : h1 61 1 = ra1 := by rw [← e3]; exact x_up_at
      have q2205 : h10 (ra1 + 1) 2 = h1 (ra1 + 1) 2 := jK 0 f12 (rg_T1_2_0_1 ta1) (by first | decide | omega) (by first | decide | omega) (by decide)
      have q2206 : h1 (ra1 + 1) 2 = h (ra1 + 1) 2 := by rw [← e3]; exact x_up_k (tne_1_61 ta1)
      have q2207 : h10 61 1 = h1 61 1 := f12 61 1 (by decide +kernel)
      have q2208 : h1 61 1 = ra1 := by rw [← e3]; exact x_up_at
      have q2209 : h10 (ra1 + 3) 2 = h1 (ra1 + 3) 2 := jK 0 f12 (rg_T3_2_0_1 ta1) (by first | decide | omega) (by first | decide | omega) (by decide)
      have q2210 : h1 (ra1 + 3) 2 = h (ra1 + 3) 2 := by rw [← e3]; exact x_up_k (tne_3_61 ta1)
      have q2211 : h10 61 1 = h1 61 1 := f12 61 1 (by decide +kernel)
      have q2212 : h1 61 1 = ra1 := by rw [← e3]; exact x_up_at
      have q2213 : h10 (ra1 + 5) 2 = h1 (ra1 + 5) 2 := jK 0 f12 (rg_T5_2_0_1 ta1) (by first | decide | omega) (by first | decide | omega) (by decide)
      have q2214 : h1 (ra1 + 5) 2 = h (ra1 + 5) 2 := by rw [← e3]; exact x_up_k (tne_5_61 ta1)
      have q2215 : h10 61 1 = h1 61 1 := f12 61 1 (by decide +kernel)
      have q2216 : h1 61 1 = ra1 := by rw [← e3]; exact x_up_at
      have q2217 : h10 (ra1 + 7) 2 = h1 (ra1 + 7) 2 := jK 0 f12 (rg_T7_2_0_1 ta1) (by first | decide | omega) (by first | decide | omega) (by decide)
      have q2218 : h1 (ra1 + 7) 2 = h (ra1 + 7) 2 := by rw [← e3]; exact x_up_k (tne_7_61 ta1)
      have m2201 : Txl tB tN (h ra1 7) (h (ra1 + 1) 2) (h (ra1 + 3) 2) (h (ra1 + 5) 2) (h (ra1 + 7) 2) (fun b => xq h ra1 b) (2147483662 - 2147483648) (rv h10 2) (rv h10 3) (rv h10 4) (rv h10 5) (h10 1 2) (fun b => xq h10 ra1 b) := by
        rw [show rv h10 2 = h (ra1 + 1) 2 by first | decide | omega, show rv h10 3 = h (ra1 + 3) 2 by first | decide | omega, show rv h10 4 = h (ra1 + 5) 2 by first | decide | omega, show rv h10 5 = h (ra1 + 7) 2 by first | decide | omega]
        exact Txl.zero ((show h10 1 2 = h10 1 2 by first | decide | omega).trans c16) (by first | decide | omega) rfl m2202
      have q2219 : h10 1 1 = h1 1 1 := jK 0 f12 rg_1_1_0_1 (by first | decide | omega) (by first | decide | omega) (by decide)
      have q2220 : h1 1 1 = h 1 1 := by rw [← e3]; exact x_up_k (by decide)
      have z2221 := m2165.1
      have m2223 : ∀ u, u < 10 → aq h10 ra1 u = aq h ra1 u := fun u hu => (Eq.trans (aq_gr ta1 f12 (by decide) u hu) (show aq h1 ra1 u = aq h ra1 u by rw [← e3]; exact aq_k (@nc_o ra1 8 61 ta1 (by decide))))
      have m2224 : ∀ u, u < 10 → bq h10 ra1 u = bq h ra1 u := fun u hu => (Eq.trans (bq_gr ta1 f12 (by decide) u hu) (show bq h1 ra1 u = bq h ra1 u by rw [← e3]; exact bq_k (@nc_o ra1 8 61 ta1 (by decide))))
      have q2225 : h10 61 1 = h1 61 1 := f12 61 1 (by decide +kernel)
      have q2226 : h1 61 1 = ra1 := by rw [← e3]; exact x_up_at
      have q2227 : h10 (ra1 + 1) 2 = h1 (ra1 + 1) 2 := jK 0 f12 (rg_T1_2_0_1 ta1) (by first | decide | omega) (by first | decide | omega) (by decide)
      have q2228 : h1 (ra1 + 1) 2 = h (ra1 + 1) 2 := by rw [← e3]; exact x_up_k (tne_1_61 ta1)
      have q2229 : h10 61 1 = h1 61 1 := f12 61 1 (by decide +kernel)
      have q2230 : h1 61 1 = ra1 := by rw [← e3]; exact x_up_at
      have q2231 : h10 (ra1 + 3) 2 = h1 (ra1 + 3) 2 := jK 0 f12 (rg_T3_2_0_1 ta1) (by first | decide | omega) (by first | decide | omega) (by decide)
      have q2232 : h1 (ra1 + 3) 2 = h (ra1 + 3) 2 := by rw [← e3]; exact x_up_k (tne_3_61 ta1)
      have q2233 : h10 61 1 = h1 61 1 := f12 61 1 (by decide +kernel)
      have q2234 : h1 61 1 = ra1 := by rw [← e3]; exact x_up_at
      have q2235 : h10 (ra1 + 5) 2 = h1 (ra1 + 5) 2 := jK 0 f12 (rg_T5_2_0_1 ta1) (by first | decide | omega) (by first | decide | omega) (by decide)
      have q2236 : h1 (ra1 + 5) 2 = h (ra1 + 5) 2 := by rw [← e3]; exact x_up_k (tne_5_61 ta1)
      have q2237 : h10 61 1 = h1 61 1 := f12 61 1 (by decide +kernel)
      have q2238 : h1 61 1 = ra1 := by rw [← e3]; exact x_up_at
      have q2239 : h10 (ra1 + 7) 2 = h1 (ra1 + 7) 2 := jK 0 f12 (rg_T7_2_0_1 ta1) (by first | decide | omega) (by first | decide | omega) (by decide)
      have q2240 : h1 (ra1 + 7) 2 = h (ra1 + 7) 2 := by rw [← e3]; exact x_up_k (tne_7_61 ta1)
      have m2222 : Tzl tB tN (h ra1 7) (h (ra1 + 1) 2) (h (ra1 + 3) 2) (h (ra1 + 5) 2) (h (ra1 + 7) 2) (ab (aq h ra1) (bq h ra1)) (2147483662 - 2147483648) (rv h10 2) (rv h10 3) (rv h10 4) (rv h10 5) (h10 1 2) (ab (aq h10 ra1) (bq h10 ra1)) := by
        rw [show rv h10 2 = h (ra1 + 1) 2 by first | decide | omega, show rv h10 3 = h (ra1 + 3) 2 by first | decide | omega, show rv h10 4 = h (ra1 + 5) 2 by first | decide | omega, show rv h10 5 = h (ra1 + 7) 2 by first | decide | omega]
        exact Tzl.zero ((show h10 1 2 = h10 1 2 by first | decide | omega).trans c16) (by first | decide | omega) rfl (ab2 m2223 m2224)
      exact p1475 _ 2147483648 h10 (Nat.lt_succ_self _) (by first | decide | omega) (by first | decide | omega) (by first | decide | omega) j11 (Fr.refl _ _) m2166 m2192 (Wl.refl (by first | decide | omega) m2197) m2201 m2222
    have q28 : ¬ (2147483648 = 2147483648) := q28
    exfalso; omega
  have q26 : ¬ ((h10 1 2) < (h 1 1)) := q26
  refine x_const (np := 12) (x := 9223372043297226753) (a := 2147483649) (by decide +kernel) (by decide) (by decide) ?_
  refine x_goto (np := 15) (x := 16) (by decide +kernel) ?_
  refine x_retI (np := 17) (x := 0) (by decide +kernel) (by decide) (Or.inr ⟨by decide +kernel, by first | decide | omega, by first | decide | omega⟩) ⟨_, rfl, (by decide), ?_⟩
  refine x_ifz (k := 0) (tg := 24) (np := 22) (by decide +kernel) (by decide) (by decide) (fun q2241 => ?_) (fun q2242 => ?_)
  · have q2241 : 2147483649 = 2147483648 := q2241
    exfalso; omega
  have q2242 : ¬ (2147483649 = 2147483648) := q2242
  refine x_const (np := 23) (x := 9223372043297226753) (a := 2147483649) (by decide +kernel) (by decide) (by decide) ?_
  have b2243 := jB (e := 7) 0 hJ (rg_T0_7_0_1 ta1) (by first | decide | omega) (by first | decide | omega)
  have q2244 : h10 ra1 7 = h1 ra1 7 := jK 0 f12 (rg_T0_7_0_1 ta1) (by first | decide | omega) (by first | decide | omega) (by decide)
  have q2245 : h1 ra1 7 = h ra1 7 := by rw [← e3]; exact x_up_k (tne_0_61 ta1)
  have q2246 : h10 ra1 8 = h1 ra1 8 := jK 0 f12 (rg_T0_8_0_1 ta1) (by first | decide | omega) (by first | decide | omega) (by decide)
  have q2247 : h1 ra1 8 = h ra1 8 := by rw [← e3]; exact x_up_k (tne_0_61 ta1)
  have m2248 : Ot ra1 h h1 := by rw [← e3]; exact Ot.oth Ot.refl (by decide)
  have m2249 : Ot ra1 h h10 := Ot.fr m2248 f12 (by decide)
  have q2250 : h10 (ra1 + 1) 2 = h1 (ra1 + 1) 2 := jK 0 f12 (rg_T1_2_0_1 ta1) (by first | decide | omega) (by first | decide | omega) (by decide)
  have q2251 : h1 (ra1 + 1) 2 = h (ra1 + 1) 2 := by rw [← e3]; exact x_up_k (tne_1_61 ta1)
  have b2252 := jB (e := 2) 0 hJ (rg_T1_2_0_1 ta1) (by first | decide | omega) (by first | decide | omega)
  have q2253 : h10 (ra1 + 3) 2 = h1 (ra1 + 3) 2 := jK 0 f12 (rg_T3_2_0_1 ta1) (by first | decide | omega) (by first | decide | omega) (by decide)
  have q2254 : h1 (ra1 + 3) 2 = h (ra1 + 3) 2 := by rw [← e3]; exact x_up_k (tne_3_61 ta1)
  have b2255 := jB (e := 2) 0 hJ (rg_T3_2_0_1 ta1) (by first | decide | omega) (by first | decide | omega)
  have q2256 : h10 (ra1 + 5) 2 = h1 (ra1 + 5) 2 := jK 0 f12 (rg_T5_2_0_1 ta1) (by first | decide | omega) (by first | decide | omega) (by decide)
  have q2257 : h1 (ra1 + 5) 2 = h (ra1 + 5) 2 := by rw [← e3]; exact x_up_k (tne_5_61 ta1)
  have b2258 := jB (e := 2) 0 hJ (rg_T5_2_0_1 ta1) (by first | decide | omega) (by first | decide | omega)
  have q2259 : h10 (ra1 + 7) 2 = h1 (ra1 + 7) 2 := jK 0 f12 (rg_T7_2_0_1 ta1) (by first | decide | omega) (by first | decide | omega) (by decide)
  have q2260 : h1 (ra1 + 7) 2 = h (ra1 + 7) 2 := by rw [← e3]; exact x_up_k (tne_7_61 ta1)
  have b2261 := jB (e := 2) 0 hJ (rg_T7_2_0_1 ta1) (by first | decide | omega) (by first | decide | omega)
  have q2262 : h10 1 1 = h1 1 1 := jK 0 f12 rg_1_1_0_1 (by first | decide | omega) (by first | decide | omega) (by decide)
  have q2263 : h1 1 1 = h 1 1 := by rw [← e3]; exact x_up_k (by decide)
  have m2265 := Tp.fr m9 f12 (by decide) (by decide)
  have z2264 := m2265.1
  have q2266 : h10 (ra1 + 3) 2 = h1 (ra1 + 3) 2 := jK 0 f12 (rg_T3_2_0_1 ta1) (by first | decide | omega) (by first | decide | omega) (by decide)
  have q2267 : h1 (ra1 + 3) 2 = h (ra1 + 3) 2 := by rw [← e3]; exact x_up_k (tne_3_61 ta1)
  have m2268 : ∀ u, u < 10 → wq h10 ra1 u = wq h ra1 u := fun u hu => (Eq.trans (wq_gr ta1 f12 (by decide) u hu) (show wq h1 ra1 u = wq h ra1 u by rw [← e3]; exact wq_k (@nc_o ra1 4 61 ta1 (by decide))))
  have q2269 : h10 1 1 = h1 1 1 := jK 0 f12 rg_1_1_0_1 (by first | decide | omega) (by first | decide | omega) (by decide)
  have q2270 : h1 1 1 = h 1 1 := by rw [← e3]; exact x_up_k (by decide)
  have z2271 := m2265.1
  have m2272 : ∀ u, u < 6 → xq h10 ra1 u = xq h ra1 u := fun u hu => (Eq.trans (xq_gr ta1 f12 (by decide) u hu) (show xq h1 ra1 u = xq h ra1 u by rw [← e3]; exact xq_k (@nc_o ra1 9 61 ta1 (by decide))))
  have q2273 : h10 1 1 = h1 1 1 := jK 0 f12 rg_1_1_0_1 (by first | decide | omega) (by first | decide | omega) (by decide)
  have q2274 : h1 1 1 = h 1 1 := by rw [← e3]; exact x_up_k (by decide)
  have z2275 := m2265.1
  have m2276 : ∀ u, u < 10 → aq h10 ra1 u = aq h ra1 u := fun u hu => (Eq.trans (aq_gr ta1 f12 (by decide) u hu) (show aq h1 ra1 u = aq h ra1 u by rw [← e3]; exact aq_k (@nc_o ra1 8 61 ta1 (by decide))))
  have m2277 : ∀ u, u < 10 → bq h10 ra1 u = bq h ra1 u := fun u hu => (Eq.trans (bq_gr ta1 f12 (by decide) u hu) (show bq h1 ra1 u = bq h ra1 u by rw [← e3]; exact bq_k (@nc_o ra1 8 61 ta1 (by decide))))
  refine x_retI (np := 24) (x := 0) (by decide +kernel) (by decide) (Or.inr ⟨by decide +kernel, by first | decide | omega, by first | decide | omega⟩) ⟨_, rfl, (by decide), ?_⟩
  exact ⟨j11, f17, (by first | decide | omega), (by first | decide | omega), (by first | decide | omega), (Tt.s1 (by first | decide | omega) (Tt.nil c16 (by first | decide | omega) rfl) (by first | decide | omega) (by first | decide | omega) (by first | decide | omega) (by first | decide | omega)), m2249, (fun _ => Wl.refl (by first | decide | omega) m2268), (fun _ => Tx.nil c16 (by first | decide | omega) m2272), (fun _ => Tz.nil c16 (by first | decide | omega) (ab2 m2276 m2277))⟩
