/-! ===== methods ===== -/
set_option maxHeartbeats 0 in
/-- LentNamesModel.readTownLine()Z -/
theorem c186_75 {sc : Nat × Nat} {d  : Nat} {h : xh} {tB : Nat → Nat} {tN : Nat} (hJ : J h) (hC : Cl h) (hT : Tq tB tN h) (hp0 : h 75 7 = le9 tB tN (h 75 9)) : X sc 186 (d + 7) (xI fun r h' => J h' ∧ Fr 273678337 h h' ∧ (2147483648 ≤ r ∧ r ≤ 2147483649) ∧ (r = 2147483649 → h' 78 0 = h 78 0) ∧ (r = 2147483649 → h' 78 1 = h 78 1) ∧ (r = 2147483649 → Cl h') ∧ line9 tB tN (h 76 0) (h 78 2) (h 78 3) (h 78 4) (h 78 5) (h 75 9) (rs5 r (sk tB tN (h' 75 7)) (h' 78 2) (h' 78 3) (h' 78 4) (h' 78 5))) 0 0 0 [x_r 75] [] h := by
  have hF := Fr.refl 273678337 h
  refine x_aload (np := 1) (x := 0) (by decide +kernel) rfl (x_nc_le (by decide)) ?_
  refine x_ldcB (i := 0) (idx := 183) (tx := "lend") (by rw [tb_y186]; exact List.mem_of_getElem? (i := 35) rfl) (by decide) (by rw [tb_b186]; decide +kernel) ?_
  refine x_cP (t := 6) (mj := 170) (n := 2) (rc := 12) (ml := 4) (nr := 0) (np := 6) (as := [x_r 75, x_b (0 + 1)]) (rest := []) (lo1 := [x_r 75, x_b (0 + 1), 147573952589676412928, 147573952589676412928]) (by decide +kernel) (by decide) (by decide +kernel) (x_rb_of (by decide +kernel)) rfl rfl (x_wr (by decide) (x_wB (by decide) x_wn)) x_wn (by decide) rfl (c170_75_S0 hJ  (by decide) hT) (fun v1 l2 q3 => ?_)
  obtain ⟨b6, c4, c5⟩ := q3
  have b7 := jB (e := 7) 0 hJ rg_75_7_0_1 (by omega) (by omega)
  have b8 := jB (e := 9) 0 hJ rg_75_9_0_1 (by omega) (by omega)
  have b9 : iv_tl 0 = 4 := by decide
  refine x_ifz (k := 0) (tg := 14) (np := 9) (by decide +kernel) (by decide) l2 (fun q10 => ?_) (fun q11 => ?_)
  · have q10 : v1 = 2147483648 := q10
    refine x_aload (np := 15) (x := 0) (by decide +kernel) rfl (x_nc_le (by decide)) ?_
    refine x_ldcB (i := 17) (idx := 189) (tx := "late") (by rw [tb_y186]; exact List.mem_of_getElem? (i := 41) rfl) (by decide) (by rw [tb_b186]; decide +kernel) ?_
    refine x_cP (t := 6) (mj := 170) (n := 2) (rc := 12) (ml := 4) (nr := 0) (np := 20) (as := [x_r 75, x_b (17 + 1)]) (rest := []) (lo1 := [x_r 75, x_b (17 + 1), 147573952589676412928, 147573952589676412928]) (by decide +kernel) (by decide) (by decide +kernel) (x_rb_of (by decide +kernel)) rfl rfl (x_wr (by decide) (x_wB (by decide) x_wn)) x_wn (by decide) rfl (c170_75_S0 hJ  (by decide) hT) (fun v12 l13 q14 => ?_)
    obtain ⟨b17, c15, c16⟩ := q14
    have b18 : iv_tl 17 = 4 := by decide
    refine x_ifz (k := 0) (tg := 28) (np := 23) (by decide +kernel) (by decide) l13 (fun q19 => ?_) (fun q20 => ?_)
    · have q19 : v12 = 2147483648 := q19
      refine x_aload (np := 29) (x := 0) (by decide +kernel) rfl (x_nc_le (by decide)) ?_
      refine x_ldcB (i := 19) (idx := 194) (tx := "dies") (by rw [tb_y186]; exact List.mem_of_getElem? (i := 43) rfl) (by decide) (by rw [tb_b186]; decide +kernel) ?_
      refine x_cP (t := 6) (mj := 170) (n := 2) (rc := 12) (ml := 4) (nr := 0) (np := 34) (as := [x_r 75, x_b (19 + 1)]) (rest := []) (lo1 := [x_r 75, x_b (19 + 1), 147573952589676412928, 147573952589676412928]) (by decide +kernel) (by decide) (by decide +kernel) (x_rb_of (by decide +kernel)) rfl rfl (x_wr (by decide) (x_wB (by decide) x_wn)) x_wn (by decide) rfl (c170_75_S0 hJ  (by decide) hT) (fun v21 l22 q23 => ?_)
      obtain ⟨b26, c24, c25⟩ := q23
      have b27 : iv_tl 19 = 4 := by decide
      refine x_ifz (k := 0) (tg := 42) (np := 37) (by decide +kernel) (by decide) l22 (fun q28 => ?_) (fun q29 => ?_)
      · have q28 : v21 = 2147483648 := q28
        refine x_aload (np := 43) (x := 0) (by decide +kernel) rfl (x_nc_le (by decide)) ?_
        refine x_ldcB (i := 20) (idx := 199) (tx := "court") (by rw [tb_y186]; exact List.mem_of_getElem? (i := 44) rfl) (by decide) (by rw [tb_b186]; decide +kernel) ?_
        refine x_cP (t := 6) (mj := 170) (n := 2) (rc := 12) (ml := 4) (nr := 0) (np := 48) (as := [x_r 75, x_b (20 + 1)]) (rest := []) (lo1 := [x_r 75, x_b (20 + 1), 147573952589676412928, 147573952589676412928]) (by decide +kernel) (by decide) (by decide +kernel) (x_rb_of (by decide +kernel)) rfl rfl (x_wr (by decide) (x_wB (by decide) x_wn)) x_wn (by decide) rfl (c170_75_S0 hJ  (by decide) hT) (fun v30 l31 q32 => ?_)
        obtain ⟨b35, c33, c34⟩ := q32
        have b36 : iv_tl 20 = 5 := by decide
        refine x_ifz (k := 0) (tg := 56) (np := 51) (by decide +kernel) (by decide) l31 (fun q37 => ?_) (fun q38 => ?_)
        · have q37 : v30 = 2147483648 := q37
          refine x_aload (np := 57) (x := 0) (by decide +kernel) rfl (x_nc_le (by decide)) ?_
          refine x_ldcB (i := 6) (idx := 204) (tx := "letter") (by rw [tb_y186]; exact List.mem_of_getElem? (i := 45) rfl) (by decide) (by rw [tb_b186]; decide +kernel) ?_
          refine x_cP (t := 6) (mj := 170) (n := 2) (rc := 12) (ml := 4) (nr := 0) (np := 62) (as := [x_r 75, x_b (6 + 1)]) (rest := []) (lo1 := [x_r 75, x_b (6 + 1), 147573952589676412928, 147573952589676412928]) (by decide +kernel) (by decide) (by decide +kernel) (x_rb_of (by decide +kernel)) rfl rfl (x_wr (by decide) (x_wB (by decide) x_wn)) x_wn (by decide) rfl (c170_75_S0 hJ  (by decide) hT) (fun v39 l40 q41 => ?_)
          obtain ⟨b44, c42, c43⟩ := q41
          have b45 : iv_tl 6 = 6 := by decide
          refine x_ifz (k := 0) (tg := 70) (np := 65) (by decide +kernel) (by decide) l40 (fun q46 => ?_) (fun q47 => ?_)
          · have q46 : v39 = 2147483648 := q46
            refine x_aload (np := 71) (x := 0) (by decide +kernel) rfl (x_nc_le (by decide)) ?_
            refine x_ldcB (i := 8) (idx := 209) (tx := "debt") (by rw [tb_y186]; exact List.mem_of_getElem? (i := 47) rfl) (by decide) (by rw [tb_b186]; decide +kernel) ?_
            refine x_cP (t := 6) (mj := 170) (n := 2) (rc := 12) (ml := 4) (nr := 0) (np := 76) (as := [x_r 75, x_b (8 + 1)]) (rest := []) (lo1 := [x_r 75, x_b (8 + 1), 147573952589676412928, 147573952589676412928]) (by decide +kernel) (by decide) (by decide +kernel) (x_rb_of (by decide +kernel)) rfl rfl (x_wr (by decide) (x_wB (by decide) x_wn)) x_wn (by decide) rfl (c170_75_S0 hJ  (by decide) hT) (fun v48 l49 q50 => ?_)
            obtain ⟨b53, c51, c52⟩ := q50
            have b54 : iv_tl 8 = 4 := by decide
            refine x_ifz (k := 0) (tg := 84) (np := 79) (by decide +kernel) (by decide) l49 (fun q55 => ?_) (fun q56 => ?_)
            · have q55 : v48 = 2147483648 := q55
              refine x_aload (np := 85) (x := 0) (by decide +kernel) rfl (x_nc_le (by decide)) ?_
              refine x_ldcB (i := 13) (idx := 214) (tx := "seen") (by rw [tb_y186]; exact List.mem_of_getElem? (i := 52) rfl) (by decide) (by rw [tb_b186]; decide +kernel) ?_
              refine x_cP (t := 6) (mj := 170) (n := 2) (rc := 12) (ml := 4) (nr := 0) (np := 90) (as := [x_r 75, x_b (13 + 1)]) (rest := []) (lo1 := [x_r 75, x_b (13 + 1), 147573952589676412928, 147573952589676412928]) (by decide +kernel) (by decide) (by decide +kernel) (x_rb_of (by decide +kernel)) rfl rfl (x_wr (by decide) (x_wB (by decide) x_wn)) x_wn (by decide) rfl (c170_75_S0 hJ  (by decide) hT) (fun v57 l58 q59 => ?_)
              obtain ⟨b62, c60, c61⟩ := q59
              have b63 : iv_tl 13 = 4 := by decide
              refine x_ifz (k := 0) (tg := 104) (np := 93) (by decide +kernel) (by decide) l58 (fun q64 => ?_) (fun q65 => ?_)
              · have q64 : v57 = 2147483648 := q64
                refine x_const (np := 105) (x := 9223372039002259456) (a := 2147483648) (by decide +kernel) (by decide) (by decide) ?_
                have b66 := jB (e := 0) 0 hJ rg_78_0_0_1 (by omega) (by omega)
                have b67 := jB (e := 0) 0 hJ rg_76_0_0_1 (by omega) (by omega)
                have b68 := jB (e := 2) 0 hJ rg_78_2_0_1 (by omega) (by omega)
                have b69 := jB (e := 3) 0 hJ rg_78_3_0_1 (by omega) (by omega)
                have b70 := jB (e := 4) 0 hJ rg_78_4_0_1 (by omega) (by omega)
                have b71 := jB (e := 5) 0 hJ rg_78_5_0_1 (by omega) (by omega)
                refine x_retI (np := 106) (x := 0) (by decide +kernel) (by decide) (Or.inr ⟨by decide +kernel, by omega, by omega⟩) ⟨_, rfl, (by decide), ?_⟩
                exact ⟨hJ, hF, (by omega), (fun z => by omega), (fun z => by omega), (fun z => absurd z (by omega)), (l9_no (Wd.no (by decide) (Is.no c5 (by omega)) hp0) (Wd.no (by decide) (Is.no c43 (by omega)) hp0) (Wd.no (by decide) (Is.no c52 (by omega)) hp0) (Wd.no (by decide) (Is.no c61 (by omega)) hp0) (Wd.no (by decide) (Is.no c16 (by omega)) hp0) (Wd.no (by decide) (Is.no c25 (by omega)) hp0) (Wd.no (by decide) (Is.no c34 (by omega)) hp0) (by omega))⟩
              have q65 : ¬ (v57 = 2147483648) := q65
              have b72 := c60 (by omega)
              refine x_aload (np := 94) (x := 0) (by decide +kernel) rfl (x_nc_le (by decide)) ?_
              refine x_cI (t := 6) (mj := 185) (n := 1) (rc := 12) (ml := 4) (nr := 0) (np := 97) (as := [x_r 75]) (rest := []) (lo1 := [x_r 75, 147573952589676412928, 147573952589676412928, 147573952589676412928]) (by decide +kernel) (by decide) (by decide +kernel) (x_rb_of (by decide +kernel)) rfl rfl (x_wr (by decide) x_wn) x_wn (by decide) rfl (c185_75 hJ  hC hT) (fun v73 h76 l74 q75 => ?_)
              obtain ⟨j77, f78, b79, c80, c81, c82, c83, c84, c85, c86, c87⟩ := q75
              have f88 := Fr.trans hF f78 (by decide)
              have b89 := jB (e := 0) 0 hJ rg_78_0_0_1 (by omega) (by omega)
              have b90 := jB (e := 0) 0 j77 rg_78_0_0_1 (by omega) (by omega)
              have b91 := jB (e := 2) 0 hJ rg_78_2_0_1 (by omega) (by omega)
              have b92 := jB (e := 2) 0 j77 rg_78_2_0_1 (by omega) (by omega)
              have b93 := jB (e := 3) 0 hJ rg_78_3_0_1 (by omega) (by omega)
              have b94 := jB (e := 3) 0 j77 rg_78_3_0_1 (by omega) (by omega)
              have b95 := jB (e := 4) 0 hJ rg_78_4_0_1 (by omega) (by omega)
              have b96 := jB (e := 4) 0 j77 rg_78_4_0_1 (by omega) (by omega)
              have b97 := jB (e := 5) 0 hJ rg_78_5_0_1 (by omega) (by omega)
              have b98 := jB (e := 5) 0 j77 rg_78_5_0_1 (by omega) (by omega)
              refine x_ifz (k := 0) (tg := 104) (np := 100) (by decide +kernel) (by decide) l74 (fun q99 => ?_) (fun q100 => ?_)
              · have q99 : v73 = 2147483648 := q99
                refine x_const (np := 105) (x := 9223372039002259456) (a := 2147483648) (by decide +kernel) (by decide) (by decide) ?_
                have b101 := jB (e := 0) 0 hJ rg_76_0_0_1 (by omega) (by omega)
                have y102 := Is.yes c61 (by omega)
                have k103 : line9 tB tN (h 76 0) (h 78 2) (h 78 3) (h 78 4) (h 78 5) (h 75 9) (rs5 2147483648 (sk tB tN (h76 75 7)) (h76 78 2) (h76 78 3) (h76 78 4) (h76 78 5)) := by
                  rcases c87 with ⟨z1, z2⟩ | ⟨z1, z2⟩
                  · exact l9_seen0 (Wd.of' (by decide) y102 hp0) rfl (by omega) (by omega)
                  · exact l9_seen (Wd.of' (by decide) y102 hp0) rfl (by omega) (congrArg (sk tB tN) y102.1) rfl z2 (by omega) (by omega) (fun z => by have y0 := c80 z; have y1 := c81 z; have y2 := c82 z; have y3 := c83 z; have y4 := c84 z; have y5 := c85 z; exact ⟨rfl, by omega, by omega, by omega, by omega⟩)
                refine x_retI (np := 106) (x := 0) (by decide +kernel) (by decide) (Or.inr ⟨by decide +kernel, by omega, by omega⟩) ⟨_, rfl, (by decide), ?_⟩
                exact ⟨j77, f88, (by omega), (fun z => by omega), (fun z => by omega), (fun z => absurd z (by omega)), k103⟩
              have q100 : ¬ (v73 = 2147483648) := q100
              have b105 := c80 (by omega)
              have b106 := c81 (by omega)
              have b107 := c82 (by omega)
              have b108 := c83 (by omega)
              have b109 := c84 (by omega)
              have b110 := c85 (by omega)
              have m111 := c86 (by omega)
              refine x_const (np := 101) (x := 9223372043297226753) (a := 2147483649) (by decide +kernel) (by decide) (by decide) ?_
              refine x_goto (np := 104) (x := 105) (by decide +kernel) ?_
              have b112 := jB (e := 0) 0 hJ rg_76_0_0_1 (by omega) (by omega)
              have y113 := Is.yes c61 (by omega)
              have k114 : line9 tB tN (h 76 0) (h 78 2) (h 78 3) (h 78 4) (h 78 5) (h 75 9) (rs5 2147483649 (sk tB tN (h76 75 7)) (h76 78 2) (h76 78 3) (h76 78 4) (h76 78 5)) := by
                rcases c87 with ⟨z1, z2⟩ | ⟨z1, z2⟩
                · exact l9_seen0 (Wd.of' (by decide) y113 hp0) rfl (by omega) (by omega)
                · exact l9_seen (Wd.of' (by decide) y113 hp0) rfl (by omega) (congrArg (sk tB tN) y113.1) rfl z2 (by omega) (by omega) (fun z => by have y0 := c80 z; have y1 := c81 z; have y2 := c82 z; have y3 := c83 z; have y4 := c84 z; have y5 := c85 z; exact ⟨rfl, by omega, by omega, by omega, by omega⟩)
              refine x_retI (np := 106) (x := 0) (by decide +kernel) (by decide) (Or.inr ⟨by decide +kernel, by omega, by omega⟩) ⟨_, rfl, (by decide), ?_⟩
              exact ⟨j77, f88, (by omega), (fun z => by omega), (fun z => by omega), (fun _ => m111), k114⟩
            have q56 : ¬ (v48 = 2147483648) := q56
            have b116 := c51 (by omega)
            refine x_aload (np := 80) (x := 0) (by decide +kernel) rfl (x_nc_le (by decide)) ?_
            refine x_cI (t := 6) (mj := 184) (n := 1) (rc := 12) (ml := 2) (nr := 0) (np := 83) (as := [x_r 75]) (rest := []) (lo1 := [x_r 75, 147573952589676412928]) (by decide +kernel) (by decide) (by decide +kernel) (x_rb_of (by decide +kernel)) rfl rfl (x_wr (by decide) x_wn) x_wn (by decide) rfl (c184_75 hJ  hC hT) (fun v117 h120 l118 q119 => ?_)
            obtain ⟨j121, f122, b123, c124, c125, c126, c127, c128, c129, c130, c131⟩ := q119
            have f132 := Fr.trans hF f122 (by decide)
            have b133 := jB (e := 0) 0 hJ rg_78_0_0_1 (by omega) (by omega)
            have b134 := jB (e := 0) 0 j121 rg_78_0_0_1 (by omega) (by omega)
            have b135 := jB (e := 2) 0 hJ rg_78_2_0_1 (by omega) (by omega)
            have b136 := jB (e := 2) 0 j121 rg_78_2_0_1 (by omega) (by omega)
            have b137 := jB (e := 3) 0 hJ rg_78_3_0_1 (by omega) (by omega)
            have b138 := jB (e := 3) 0 j121 rg_78_3_0_1 (by omega) (by omega)
            have b139 := jB (e := 4) 0 hJ rg_78_4_0_1 (by omega) (by omega)
            have b140 := jB (e := 4) 0 j121 rg_78_4_0_1 (by omega) (by omega)
            have b141 := jB (e := 5) 0 hJ rg_78_5_0_1 (by omega) (by omega)
            have b142 := jB (e := 5) 0 j121 rg_78_5_0_1 (by omega) (by omega)
            have b143 := jB (e := 0) 0 hJ rg_76_0_0_1 (by omega) (by omega)
            have y144 := Is.yes c52 (by omega)
            have k145 : line9 tB tN (h 76 0) (h 78 2) (h 78 3) (h 78 4) (h 78 5) (h 75 9) (rs5 v117 (sk tB tN (h120 75 7)) (h120 78 2) (h120 78 3) (h120 78 4) (h120 78 5)) := by
              rcases c131 with ⟨z1, z2⟩ | ⟨z1, z2⟩
              · exact l9_debt0 (Wd.of' (by decide) y144 hp0) rfl (by omega) (by omega)
              · exact l9_debt (Wd.of' (by decide) y144 hp0) rfl (by omega) (congrArg (sk tB tN) y144.1) rfl z2 (by omega) (by omega) (fun z => by have y0 := c124 z; have y1 := c125 z; have y2 := c126 z; have y3 := c127 z; have y4 := c128 z; have y5 := c129 z; exact ⟨rfl, by omega, by omega, by omega, by omega⟩)
            refine x_retI (np := 84) (x := 0) (by decide +kernel) l118 (Or.inr ⟨by decide +kernel, by omega, by omega⟩) ⟨_, rfl, l118, ?_⟩
            exact ⟨j121, f132, (by omega), (fun z => by omega), (fun z => by omega), (fun z => c130 (by omega)), k145⟩
          have q47 : ¬ (v39 = 2147483648) := q47
          have b147 := c42 (by omega)
          refine x_aload (np := 66) (x := 0) (by decide +kernel) rfl (x_nc_le (by decide)) ?_
          refine x_cI (t := 6) (mj := 183) (n := 1) (rc := 12) (ml := 2) (nr := 0) (np := 69) (as := [x_r 75]) (rest := []) (lo1 := [x_r 75, 147573952589676412928]) (by decide +kernel) (by decide) (by decide +kernel) (x_rb_of (by decide +kernel)) rfl rfl (x_wr (by decide) x_wn) x_wn (by decide) rfl (c183_75 hJ  hC hT) (fun v148 h151 l149 q150 => ?_)
          obtain ⟨j152, f153, b154, c155, c156, c157, c158, c159, c160, c161, c162⟩ := q150
          have f163 := Fr.trans hF f153 (by decide)
          have b164 := jB (e := 0) 0 hJ rg_78_0_0_1 (by omega) (by omega)
          have b165 := jB (e := 0) 0 j152 rg_78_0_0_1 (by omega) (by omega)
          have b166 := jB (e := 2) 0 hJ rg_78_2_0_1 (by omega) (by omega)
          have b167 := jB (e := 2) 0 j152 rg_78_2_0_1 (by omega) (by omega)
          have b168 := jB (e := 3) 0 hJ rg_78_3_0_1 (by omega) (by omega)
          have b169 := jB (e := 3) 0 j152 rg_78_3_0_1 (by omega) (by omega)
          have b170 := jB (e := 4) 0 hJ rg_78_4_0_1 (by omega) (by omega)
          have b171 := jB (e := 4) 0 j152 rg_78_4_0_1 (by omega) (by omega)
          have b172 := jB (e := 5) 0 hJ rg_78_5_0_1 (by omega) (by omega)
          have b173 := jB (e := 5) 0 j152 rg_78_5_0_1 (by omega) (by omega)
          have b174 := jB (e := 0) 0 hJ rg_76_0_0_1 (by omega) (by omega)
          have y175 := Is.yes c43 (by omega)
          have k176 : line9 tB tN (h 76 0) (h 78 2) (h 78 3) (h 78 4) (h 78 5) (h 75 9) (rs5 v148 (sk tB tN (h151 75 7)) (h151 78 2) (h151 78 3) (h151 78 4) (h151 78 5)) := by
            rcases c162 with ⟨z1, z2⟩ | ⟨z1, z2⟩
            · exact l9_letter0 (Wd.of' (by decide) y175 hp0) rfl (by omega) (by omega)
            · exact l9_letter (Wd.of' (by decide) y175 hp0) rfl (by omega) (congrArg (sk tB tN) y175.1) rfl z2 (by omega) (by omega) (fun z => by have y0 := c155 z; have y1 := c156 z; have y2 := c157 z; have y3 := c158 z; have y4 := c159 z; have y5 := c160 z; exact ⟨rfl, by omega, by omega, by omega, by omega⟩)
          refine x_retI (np := 70) (x := 0) (by decide +kernel) l149 (Or.inr ⟨by decide +kernel, by omega, by omega⟩) ⟨_, rfl, l149, ?_⟩
          exact ⟨j152, f163, (by omega), (fun z => by omega), (fun z => by omega), (fun z => c161 (by omega)), k176⟩
        have q38 : ¬ (v30 = 2147483648) := q38
        have b178 := c33 (by omega)
        refine x_aload (np := 52) (x := 0) (by decide +kernel) rfl (x_nc_le (by decide)) ?_
        refine x_cI (t := 6) (mj := 182) (n := 1) (rc := 12) (ml := 2) (nr := 0) (np := 55) (as := [x_r 75]) (rest := []) (lo1 := [x_r 75, 147573952589676412928]) (by decide +kernel) (by decide) (by decide +kernel) (x_rb_of (by decide +kernel)) rfl rfl (x_wr (by decide) x_wn) x_wn (by decide) rfl (c182_75 hJ  hC hT) (fun v179 h182 l180 q181 => ?_)
        obtain ⟨j183, f184, b185, c186, c187, c188, c189, c190, c191, c192, c193⟩ := q181
        have f194 := Fr.trans hF f184 (by decide)
        have b195 := jB (e := 0) 0 hJ rg_78_0_0_1 (by omega) (by omega)
        have b196 := jB (e := 0) 0 j183 rg_78_0_0_1 (by omega) (by omega)
        have b197 := jB (e := 2) 0 hJ rg_78_2_0_1 (by omega) (by omega)
        have b198 := jB (e := 2) 0 j183 rg_78_2_0_1 (by omega) (by omega)
        have b199 := jB (e := 3) 0 hJ rg_78_3_0_1 (by omega) (by omega)
        have b200 := jB (e := 3) 0 j183 rg_78_3_0_1 (by omega) (by omega)
        have b201 := jB (e := 4) 0 hJ rg_78_4_0_1 (by omega) (by omega)
        have b202 := jB (e := 4) 0 j183 rg_78_4_0_1 (by omega) (by omega)
        have b203 := jB (e := 5) 0 hJ rg_78_5_0_1 (by omega) (by omega)
        have b204 := jB (e := 5) 0 j183 rg_78_5_0_1 (by omega) (by omega)
        have b205 := jB (e := 0) 0 hJ rg_76_0_0_1 (by omega) (by omega)
        have y206 := Is.yes c34 (by omega)
        refine x_retI (np := 56) (x := 0) (by decide +kernel) l180 (Or.inr ⟨by decide +kernel, by omega, by omega⟩) ⟨_, rfl, l180, ?_⟩
        exact ⟨j183, f194, (by omega), (fun z => by omega), (fun z => by omega), (fun z => c192 (by omega)), (l9_court (Wd.of' (by decide) y206 hp0) rfl (congrArg (sk tB tN) y206.1) rfl c193 (by omega) (by omega) (fun z => by have y0 := c186 z; have y1 := c187 z; have y2 := c188 z; have y3 := c189 z; have y4 := c190 z; have y5 := c191 z; exact ⟨rfl, by omega, by omega, by omega, by omega⟩))⟩
      have q29 : ¬ (v21 = 2147483648) := q29
      have b207 := c24 (by omega)
      refine x_aload (np := 38) (x := 0) (by decide +kernel) rfl (x_nc_le (by decide)) ?_
      refine x_cI (t := 6) (mj := 181) (n := 1) (rc := 12) (ml := 3) (nr := 0) (np := 41) (as := [x_r 75]) (rest := []) (lo1 := [x_r 75, 147573952589676412928, 147573952589676412928]) (by decide +kernel) (by decide) (by decide +kernel) (x_rb_of (by decide +kernel)) rfl rfl (x_wr (by decide) x_wn) x_wn (by decide) rfl (c181_75 hJ  hC hT) (fun v208 h211 l209 q210 => ?_)
      obtain ⟨j212, f213, b214, c215, c216, c217, c218, c219, c220, c221, c222⟩ := q210
      have f223 := Fr.trans hF f213 (by decide)
      have b224 := jB (e := 0) 0 hJ rg_78_0_0_1 (by omega) (by omega)
      have b225 := jB (e := 0) 0 j212 rg_78_0_0_1 (by omega) (by omega)
      have b226 := jB (e := 2) 0 hJ rg_78_2_0_1 (by omega) (by omega)
      have b227 := jB (e := 2) 0 j212 rg_78_2_0_1 (by omega) (by omega)
      have b228 := jB (e := 3) 0 hJ rg_78_3_0_1 (by omega) (by omega)
      have b229 := jB (e := 3) 0 j212 rg_78_3_0_1 (by omega) (by omega)
      have b230 := jB (e := 4) 0 hJ rg_78_4_0_1 (by omega) (by omega)
      have b231 := jB (e := 4) 0 j212 rg_78_4_0_1 (by omega) (by omega)
      have b232 := jB (e := 5) 0 hJ rg_78_5_0_1 (by omega) (by omega)
      have b233 := jB (e := 5) 0 j212 rg_78_5_0_1 (by omega) (by omega)
      have b234 := jB (e := 0) 0 hJ rg_76_0_0_1 (by omega) (by omega)
      have y235 := Is.yes c25 (by omega)
      refine x_retI (np := 42) (x := 0) (by decide +kernel) l209 (Or.inr ⟨by decide +kernel, by omega, by omega⟩) ⟨_, rfl, l209, ?_⟩
      exact ⟨j212, f223, (by omega), (fun z => by omega), (fun z => by omega), (fun z => c221 (by omega)), (l9_dies (Wd.of' (by decide) y235 hp0) rfl (congrArg (sk tB tN) y235.1) rfl c222 (by omega) (by omega) (fun z => by have y0 := c215 z; have y1 := c216 z; have y2 := c217 z; have y3 := c218 z; have y4 := c219 z; have y5 := c220 z; exact ⟨rfl, by omega, by omega, by omega, by omega⟩))⟩
    have q20 : ¬ (v12 = 2147483648) := q20
    have b236 := c15 (by omega)
    refine x_aload (np := 24) (x := 0) (by decide +kernel) rfl (x_nc_le (by decide)) ?_
    refine x_cI (t := 6) (mj := 180) (n := 1) (rc := 12) (ml := 2) (nr := 0) (np := 27) (as := [x_r 75]) (rest := []) (lo1 := [x_r 75, 147573952589676412928]) (by decide +kernel) (by decide) (by decide +kernel) (x_rb_of (by decide +kernel)) rfl rfl (x_wr (by decide) x_wn) x_wn (by decide) rfl (c180_75 hJ  hC hT) (fun v237 h240 l238 q239 => ?_)
    obtain ⟨j241, f242, b243, c244, c245, c246, c247, c248, c249, c250, c251⟩ := q239
    have f252 := Fr.trans hF f242 (by decide)
    have b253 := jB (e := 0) 0 hJ rg_78_0_0_1 (by omega) (by omega)
    have b254 := jB (e := 0) 0 j241 rg_78_0_0_1 (by omega) (by omega)
    have b255 := jB (e := 2) 0 hJ rg_78_2_0_1 (by omega) (by omega)
    have b256 := jB (e := 2) 0 j241 rg_78_2_0_1 (by omega) (by omega)
    have b257 := jB (e := 3) 0 hJ rg_78_3_0_1 (by omega) (by omega)
    have b258 := jB (e := 3) 0 j241 rg_78_3_0_1 (by omega) (by omega)
    have b259 := jB (e := 4) 0 hJ rg_78_4_0_1 (by omega) (by omega)
    have b260 := jB (e := 4) 0 j241 rg_78_4_0_1 (by omega) (by omega)
    have b261 := jB (e := 5) 0 hJ rg_78_5_0_1 (by omega) (by omega)
    have b262 := jB (e := 5) 0 j241 rg_78_5_0_1 (by omega) (by omega)
    have b263 := jB (e := 0) 0 hJ rg_76_0_0_1 (by omega) (by omega)
    have y264 := Is.yes c16 (by omega)
    refine x_retI (np := 28) (x := 0) (by decide +kernel) l238 (Or.inr ⟨by decide +kernel, by omega, by omega⟩) ⟨_, rfl, l238, ?_⟩
    exact ⟨j241, f252, (by omega), (fun z => by omega), (fun z => by omega), (fun z => c250 (by omega)), (l9_late (Wd.of' (by decide) y264 hp0) rfl (congrArg (sk tB tN) y264.1) rfl c251 (by omega) (by omega) (fun z => by have y0 := c244 z; have y1 := c245 z; have y2 := c246 z; have y3 := c247 z; have y4 := c248 z; have y5 := c249 z; exact ⟨rfl, by omega, by omega, by omega, by omega⟩))⟩
  have q11 : ¬ (v1 = 2147483648) := q11
  have b265 := c4 (by omega)
  refine x_aload (np := 10) (x := 0) (by decide +kernel) rfl (x_nc_le (by decide)) ?_
  refine x_cI (t := 6) (mj := 179) (n := 1) (rc := 12) (ml := 2) (nr := 0) (np := 13) (as := [x_r 75]) (rest := []) (lo1 := [x_r 75, 147573952589676412928]) (by decide +kernel) (by decide) (by decide +kernel) (x_rb_of (by decide +kernel)) rfl rfl (x_wr (by decide) x_wn) x_wn (by decide) rfl (c179_75 hJ  hC hT) (fun v266 h269 l267 q268 => ?_)
  obtain ⟨j270, f271, b272, c273, c274, c275, c276, c277, c278, c279, c280⟩ := q268
  have f281 := Fr.trans hF f271 (by decide)
  have b282 := jB (e := 0) 0 hJ rg_78_0_0_1 (by omega) (by omega)
  have b283 := jB (e := 0) 0 j270 rg_78_0_0_1 (by omega) (by omega)
  have b284 := jB (e := 2) 0 hJ rg_78_2_0_1 (by omega) (by omega)
  have b285 := jB (e := 2) 0 j270 rg_78_2_0_1 (by omega) (by omega)
  have b286 := jB (e := 3) 0 hJ rg_78_3_0_1 (by omega) (by omega)
  have b287 := jB (e := 3) 0 j270 rg_78_3_0_1 (by omega) (by omega)
  have b288 := jB (e := 4) 0 hJ rg_78_4_0_1 (by omega) (by omega)
  have b289 := jB (e := 4) 0 j270 rg_78_4_0_1 (by omega) (by omega)
  have b290 := jB (e := 5) 0 hJ rg_78_5_0_1 (by omega) (by omega)
  have b291 := jB (e := 5) 0 j270 rg_78_5_0_1 (by omega) (by omega)
  have b292 := jB (e := 0) 0 hJ rg_76_0_0_1 (by omega) (by omega)
  have y293 := Is.yes c5 (by omega)
  have k294 : line9 tB tN (h 76 0) (h 78 2) (h 78 3) (h 78 4) (h 78 5) (h 75 9) (rs5 v266 (sk tB tN (h269 75 7)) (h269 78 2) (h269 78 3) (h269 78 4) (h269 78 5)) := by
    rcases c280 with ⟨z1, z2⟩ | ⟨z1, z2⟩
    · exact l9_lend0 (Wd.of' (by decide) y293 hp0) rfl (by omega) (by omega)
    · exact l9_lend (Wd.of' (by decide) y293 hp0) rfl (by omega) (congrArg (sk tB tN) y293.1) rfl z2 (by omega) (by omega) (fun z => by have y0 := c273 z; have y1 := c274 z; have y2 := c275 z; have y3 := c276 z; have y4 := c277 z; have y5 := c278 z; exact ⟨rfl, by omega, by omega, by omega, by omega⟩)
  refine x_retI (np := 14) (x := 0) (by decide +kernel) l267 (Or.inr ⟨by decide +kernel, by omega, by omega⟩) ⟨_, rfl, l267, ?_⟩
  exact ⟨j270, f281, (by omega), (fun z => by omega), (fun z => by omega), (fun z => c279 (by omega)), k294⟩
set_option maxHeartbeats 0 in
/-- LentNamesModel.readAll(Z)I -/
theorem c194_75_c1 {sc : Nat × Nat} {d  : Nat} {h : xh} {tB : Nat → Nat} {tN : Nat} (hJ : J h) (hC : Cl h) (hT : Tr tB tN h) : X sc 194 (d + 8) (xI fun r h' => J h' ∧ Fr 293076993 h h' ∧ (2147483647 ≤ r ∧ r ≤ 2147483662) ∧ (h' 75 6 = 2147483648) ∧ (2147483648 ≤ r → h' 78 0 = h 78 0) ∧ (2147483648 ≤ r → h' 78 1 = h 78 1) ∧ (2147483648 ≤ r → Cl h') ∧ Tt tB tN (h 76 0) (h 78 2) (h 78 3) (h 78 4) (h 78 5) (rt4 r (h' 78 2) (h' 78 3) (h' 78 4) (h' 78 5))) 0 0 0 [x_r 75, iv_c 2147483649, 147573952589676412928] [] h := by
  have hF := Fr.refl 293076993 h
  refine x_aload (np := 1) (x := 0) (by decide +kernel) rfl (x_nc_le (by decide)) ?_
  refine x_aload (np := 2) (x := 0) (by decide +kernel) rfl (x_nc_le (by decide)) ?_
  have b1 := jB (e := 6) 0 hJ rg_75_6_0_1 (by omega) (by omega)
  refine x_getC (np := 5) (x := 710) (f := 6) (q := (h 75 6)) (by decide +kernel) (by decide) (by decide +kernel) rfl (fun l2 => ?_)
  refine x_putI (np := 8) (x := 712) (f := 8) (by decide +kernel) (by decide +kernel) l2 (Or.inl (by decide)) ?_
  have j4 := jU (e := 8) (v := (h 75 6)) 0 hJ rg_75_8_0_1 (by omega) (by omega) (by omega)
  have f6 := jF (e := 8) (v := (h 75 6)) 0 hF rg_75_8_0_1 (by omega) (by omega) (by decide)
  generalize e5 : x_up h 75 8 (h 75 6) = h3 at j4 f6 ⊢
  refine x_aload (np := 9) (x := 0) (by decide +kernel) rfl (x_nc_le (by decide)) ?_
  refine x_const (np := 10) (x := 9223372039002259456) (a := 2147483648) (by decide +kernel) (by decide) (by decide) ?_
  refine x_putI (np := 13) (x := 710) (f := 6) (by decide +kernel) (by decide +kernel) (by decide) (Or.inl (by decide)) ?_
  have j8 := jU (e := 6) (v := 2147483648) 0 j4 rg_75_6_0_1 (by omega) (by omega) (by omega)
  have f10 := jF (e := 6) (v := 2147483648) 0 f6 rg_75_6_0_1 (by omega) (by omega) (by decide)
  generalize e9 : x_up h3 75 6 2147483648 = h7 at j8 f10 ⊢
  refine x_aload (np := 14) (x := 0) (by decide +kernel) rfl (x_nc_le (by decide)) ?_
  refine x_const (np := 15) (x := 9223372039002259456) (a := 2147483648) (by decide +kernel) (by decide) (by decide) ?_
  refine x_putI (np := 18) (x := 711) (f := 7) (by decide +kernel) (by decide +kernel) (by decide) (Or.inl (by decide)) ?_
  have j12 := jU (e := 7) (v := 2147483648) 0 j8 rg_75_7_0_1 (by omega) (by omega) (by omega)
  have f14 := jF (e := 7) (v := 2147483648) 0 f10 rg_75_7_0_1 (by omega) (by omega) (by decide)
  generalize e13 : x_up h7 75 7 2147483648 = h11 at j12 f14 ⊢
  refine x_aload (np := 19) (x := 0) (by decide +kernel) rfl (x_nc_le (by decide)) ?_
  refine x_const (np := 20) (x := 9223372039002259456) (a := 2147483648) (by decide +kernel) (by decide) (by decide) ?_
  refine x_putI (np := 23) (x := 717) (f := 13) (by decide +kernel) (by decide +kernel) (by decide) (Or.inl (by decide)) ?_
  have j16 := jU (e := 13) (v := 2147483648) 0 j12 rg_75_13_0_1 (by omega) (by omega) (by omega)
  have f18 := jF (e := 13) (v := 2147483648) 0 f14 rg_75_13_0_1 (by omega) (by omega) (by decide)
  generalize e17 : x_up h11 75 13 2147483648 = h15 at j16 f18 ⊢
  refine x_aload (np := 24) (x := 0) (by decide +kernel) rfl (x_nc_le (by decide)) ?_
  have m25 : Tq tB tN h3 := by rw [← e5]; exact Tr.tq hT (by omega)
  have m24 : Tq tB tN h7 := by rw [← e9]; exact Tq.oth m25 (by decide) (by decide)
  have m23 : Tq tB tN h11 := by rw [← e13]; exact Tq.oth m24 (by decide) (by decide)
  have m22 : Tq tB tN h15 := by rw [← e17]; exact Tq.oth m23 (by decide) (by decide)
  refine x_cV (t := 6) (mj := 168) (n := 1) (rc := 12) (ml := 1) (nr := 0) (np := 27) (as := [x_r 75]) (rest := []) (lo1 := [x_r 75]) (by decide +kernel) (by decide) (by decide +kernel) (x_rb_of (by decide +kernel)) rfl rfl (x_wr (by decide) x_wn) x_wn (by decide) rfl (c168_75 j16  m22) (fun h26 q21 => ?_)
  obtain ⟨j27, f28, c31, c32, c33⟩ := q21
  have f34 := Fr.trans f18 f28 (by decide)
  have q35 : h15 75 7 = h11 75 7 := by rw [← e17]; exact x_up_i (by omega)
  have q36 : h11 75 7 = 2147483648 := by rw [← e13]; exact x_up_at
  have b37 := jB (e := 7) 0 j27 rg_75_7_0_1 (by omega) (by omega)
  have b38 := jB (e := 9) 0 j27 rg_75_9_0_1 (by omega) (by omega)
  refine x_aload (np := 28) (x := 0) (by decide +kernel) rfl (x_nc_le (by decide)) ?_
  refine x_getC (np := 31) (x := 711) (f := 7) (q := (h26 75 7)) (by decide +kernel) (by decide) (by decide +kernel) rfl (fun l39 => ?_)
  refine x_aload (np := 32) (x := 0) (by decide +kernel) rfl (x_nc_le (by decide)) ?_
  have q40 : h26 75 8 = h15 75 8 := jK 0 f28 rg_75_8_0_1 (by omega) (by omega) (by decide)
  have q41 : h15 75 8 = h11 75 8 := by rw [← e17]; exact x_up_i (by omega)
  have q42 : h11 75 8 = h7 75 8 := by rw [← e13]; exact x_up_i (by omega)
  have q43 : h7 75 8 = h3 75 8 := by rw [← e9]; exact x_up_i (by omega)
  have q44 : h3 75 8 = (h 75 6) := by rw [← e5]; exact x_up_at
  refine x_getC (np := 35) (x := 712) (f := 8) (q := (h 75 6)) (by decide +kernel) (by decide) (by decide +kernel) ((((q40.trans q41).trans q42).trans q43).trans q44) (fun l45 => ?_)
  refine x_icmp (k := 1) (tg := 40) (np := 38) (by decide +kernel) (by decide) l39 l2 (fun q46 => ?_) (fun q47 => ?_)
  · have q46 : (h26 75 7) ≠ (h 75 6) := q46
    refine x_const (np := 41) (x := 9223372039002259456) (a := 2147483648) (by decide +kernel) (by decide) (by decide) ?_
    refine x_istore (np := 42) (x := 2) (lo' := [x_r 75, iv_c 2147483649, iv_c 2147483648]) (by decide +kernel) (by decide) (Nat.le_of_ble_eq_true rfl) rfl ?_
    have p1977 : ∀ (n : Nat) (v1972 : Nat) (h1974 : xh), 4294967296 - v1972 < n → (2147483648 ≤ v1972 ∧ v1972 ≤ 2147483662) → h1974 78 0 = h 78 0 → h1974 78 1 = h 78 1 → J h1974 → Fr 273678337 h26 h1974 → Cl h1974 → Tl tB tN (h 76 0) (h 78 2) (h 78 3) (h 78 4) (h 78 5) (2147483662 - v1972) (h1974 78 2) (h1974 78 3) (h1974 78 4) (h1974 78 5) (sk tB tN (h1974 75 7)) → X sc 194 (d + 8) (xI fun r h' => J h' ∧ Fr 293076993 h h' ∧ (2147483647 ≤ r ∧ r ≤ 2147483662) ∧ (h' 75 6 = 2147483648) ∧ (2147483648 ≤ r → h' 78 0 = h 78 0) ∧ (2147483648 ≤ r → h' 78 1 = h 78 1) ∧ (2147483648 ≤ r → Cl h') ∧ Tt tB tN (h 76 0) (h 78 2) (h 78 3) (h 78 4) (h 78 5) (rt4 r (h' 78 2) (h' 78 3) (h' 78 4) (h' 78 5))) 0 0 42 [x_r 75, iv_c 2147483649, iv_c v1972] [] h1974 := by
      intro n
      induction n with
      | zero => intro v1972 h1974 q1982; exact absurd q1982 (Nat.not_lt_zero _)
      | succ n i1983 =>
        intro v1972 h1974 q1982 b1973 b1978 b1979 j1976 f1975 m1981 m1980
        have f1984 := Fr.trans f34 f1975 (by decide)
        have b1985 := jB (e := 2) 0 j1976 rg_78_2_0_1 (by omega) (by omega)
        have b1986 := jB (e := 3) 0 j1976 rg_78_3_0_1 (by omega) (by omega)
        have b1987 := jB (e := 4) 0 j1976 rg_78_4_0_1 (by omega) (by omega)
        have b1988 := jB (e := 5) 0 j1976 rg_78_5_0_1 (by omega) (by omega)
        refine x_aload (np := 43) (x := 0) (by decide +kernel) rfl (x_nc_le (by decide)) ?_
        have m1993 := Tq.fr m22 f28 (by decide) (by decide)
        have m1992 := Tq.fr m1993 f1975 (by decide) (by decide)
        refine x_cV (t := 6) (mj := 169) (n := 1) (rc := 12) (ml := 1) (nr := 0) (np := 46) (as := [x_r 75]) (rest := []) (lo1 := [x_r 75]) (by decide +kernel) (by decide) (by decide +kernel) (x_rb_of (by decide +kernel)) rfl rfl (x_wr (by decide) x_wn) x_wn (by decide) rfl (c169_75 j1976  m1992) (fun h1994 q1991 => ?_)
        obtain ⟨j1995, f1996, c1999, c2000, c2001, c2002⟩ := q1991
        have f2003 := Fr.trans f1984 f1996 (by decide)
        have f2004 := Fr.trans f1975 f1996 (by decide)
        have b2005 := jB (e := 7) 0 j1976 rg_75_7_0_1 (by omega) (by omega)
        have b2006 := jB (e := 9) 0 j1995 rg_75_9_0_1 (by omega) (by omega)
        have b2007 := jB (e := 7) 0 j1995 rg_75_7_0_1 (by omega) (by omega)
        refine x_iload (np := 47) (x := 2) (by decide +kernel) rfl (by omega) ?_
        refine x_iload (np := 48) (x := 1) (by decide +kernel) rfl (by decide) ?_
        refine x_ifz (k := 0) (tg := 56) (np := 51) (by decide +kernel) (by decide) (by decide) (fun q2008 => ?_) (fun q2009 => ?_)
        · have q2008 : 2147483649 = 2147483648 := q2008
          exfalso; omega
        have q2009 : ¬ (2147483649 = 2147483648) := q2009
        refine x_const (np := 53) (x := 9223372099131801614) (a := 2147483662) (by decide +kernel) (by decide) (by decide) ?_
        refine x_goto (np := 56) (x := 58) (by decide +kernel) ?_
        refine x_icmp (k := 0) (tg := 83) (np := 61) (by decide +kernel) (by decide) (by omega) (by decide) (fun q2010 => ?_) (fun q2011 => ?_)
        · have q2010 : v1972 = 2147483662 := q2010
          refine x_const (np := 84) (x := 9223372034707292159) (a := 2147483647) (by decide +kernel) (by decide) (by decide) ?_
          have q2012 : h1994 75 6 = h1974 75 6 := jK 0 f1996 rg_75_6_0_1 (by omega) (by omega) (by decide)
          have q2013 : h1974 75 6 = h26 75 6 := jK 0 f1975 rg_75_6_0_1 (by omega) (by omega) (by decide)
          have q2014 : h26 75 6 = h15 75 6 := jK 0 f28 rg_75_6_0_1 (by omega) (by omega) (by decide)
          have q2015 : h15 75 6 = h11 75 6 := by rw [← e17]; exact x_up_i (by omega)
          have q2016 : h11 75 6 = h7 75 6 := by rw [← e13]; exact x_up_i (by omega)
          have q2017 : h7 75 6 = 2147483648 := by rw [← e9]; exact x_up_at
          have b2018 := jB (e := 0) 0 hJ rg_78_0_0_1 (by omega) (by omega)
          have q2019 : h1994 78 0 = h1974 78 0 := jK 0 f1996 rg_78_0_0_1 (by omega) (by omega) (by decide)
          have b2020 := jB (e := 0) 0 j1976 rg_78_0_0_1 (by omega) (by omega)
          have q2021 : h1994 78 1 = h1974 78 1 := jK 0 f1996 rg_78_1_0_1 (by omega) (by omega) (by decide)
          have b2022 := jB (e := 2) 0 hJ rg_78_2_0_1 (by omega) (by omega)
          have q2023 : h1994 78 2 = h1974 78 2 := jK 0 f1996 rg_78_2_0_1 (by omega) (by omega) (by decide)
          have b2024 := jB (e := 3) 0 hJ rg_78_3_0_1 (by omega) (by omega)
          have q2025 : h1994 78 3 = h1974 78 3 := jK 0 f1996 rg_78_3_0_1 (by omega) (by omega) (by decide)
          have b2026 := jB (e := 4) 0 hJ rg_78_4_0_1 (by omega) (by omega)
          have q2027 : h1994 78 4 = h1974 78 4 := jK 0 f1996 rg_78_4_0_1 (by omega) (by omega) (by decide)
          have b2028 := jB (e := 5) 0 hJ rg_78_5_0_1 (by omega) (by omega)
          have q2029 : h1994 78 5 = h1974 78 5 := jK 0 f1996 rg_78_5_0_1 (by omega) (by omega) (by decide)
          refine x_retI (np := 85) (x := 0) (by decide +kernel) (by decide) (Or.inl (by decide +kernel)) ⟨_, rfl, (by decide), ?_⟩
          exact ⟨j1995, f2003, (by omega), (by omega), (fun z => by omega), (fun z => by omega), (fun z => absurd z (by omega)), (Tt.r0 (by omega) (Tl.full m1980 (by omega)))⟩
        have q2011 : ¬ (v1972 = 2147483662) := q2011
        refine x_iload (np := 62) (x := 1) (by decide +kernel) rfl (by decide) ?_
        refine x_ifz (k := 0) (tg := 75) (np := 65) (by decide +kernel) (by decide) (by decide) (fun q2030 => ?_) (fun q2031 => ?_)
        · have q2030 : 2147483649 = 2147483648 := q2030
          exfalso; omega
        have q2031 : ¬ (2147483649 = 2147483648) := q2031
        refine x_aload (np := 66) (x := 0) (by decide +kernel) rfl (x_nc_le (by decide)) ?_
        have m2035 := Cl.fr m1981 f1996 (by decide)
        have m2036 := Tq.fr m1992 f1996 (by decide) (by decide)
        refine x_cI (t := 6) (mj := 186) (n := 1) (rc := 12) (ml := 1) (nr := 0) (np := 69) (as := [x_r 75]) (rest := []) (lo1 := [x_r 75]) (by decide +kernel) (by decide) (by decide +kernel) (x_rb_of (by decide +kernel)) rfl rfl (x_wr (by decide) x_wn) x_wn (by decide) rfl (c186_75 j1995  m2035 m2036 c2002) (fun v2032 h2037 l2033 q2034 => ?_)
        obtain ⟨j2038, f2039, b2040, c2041, c2042, c2043, c2044⟩ := q2034
        have f2045 := Fr.trans f2003 f2039 (by decide)
        have f2046 := Fr.trans f2004 f2039 (by decide)
        have q2047 : h1994 78 0 = h1974 78 0 := jK 0 f1996 rg_78_0_0_1 (by omega) (by omega) (by decide)
        have b2048 := jB (e := 0) 0 j1976 rg_78_0_0_1 (by omega) (by omega)
        have b2049 := jB (e := 0) 0 j2038 rg_78_0_0_1 (by omega) (by omega)
        have q2050 : h1994 78 1 = h1974 78 1 := jK 0 f1996 rg_78_1_0_1 (by omega) (by omega) (by decide)
        refine x_ifz (k := 0) (tg := 83) (np := 72) (by decide +kernel) (by decide) l2033 (fun q2051 => ?_) (fun q2052 => ?_)
        · have q2051 : v2032 = 2147483648 := q2051
          refine x_const (np := 84) (x := 9223372034707292159) (a := 2147483647) (by decide +kernel) (by decide) (by decide) ?_
          have q2053 : h2037 75 6 = h1994 75 6 := jK 0 f2039 rg_75_6_0_1 (by omega) (by omega) (by decide)
          have q2054 : h1994 75 6 = h1974 75 6 := jK 0 f1996 rg_75_6_0_1 (by omega) (by omega) (by decide)
          have q2055 : h1974 75 6 = h26 75 6 := jK 0 f1975 rg_75_6_0_1 (by omega) (by omega) (by decide)
          have q2056 : h26 75 6 = h15 75 6 := jK 0 f28 rg_75_6_0_1 (by omega) (by omega) (by decide)
          have q2057 : h15 75 6 = h11 75 6 := by rw [← e17]; exact x_up_i (by omega)
          have q2058 : h11 75 6 = h7 75 6 := by rw [← e13]; exact x_up_i (by omega)
          have q2059 : h7 75 6 = 2147483648 := by rw [← e9]; exact x_up_at
          have b2060 := jB (e := 0) 0 hJ rg_78_0_0_1 (by omega) (by omega)
          have b2061 := jB (e := 2) 0 hJ rg_78_2_0_1 (by omega) (by omega)
          have b2062 := jB (e := 2) 0 j2038 rg_78_2_0_1 (by omega) (by omega)
          have b2063 := jB (e := 3) 0 hJ rg_78_3_0_1 (by omega) (by omega)
          have b2064 := jB (e := 3) 0 j2038 rg_78_3_0_1 (by omega) (by omega)
          have b2065 := jB (e := 4) 0 hJ rg_78_4_0_1 (by omega) (by omega)
          have b2066 := jB (e := 4) 0 j2038 rg_78_4_0_1 (by omega) (by omega)
          have b2067 := jB (e := 5) 0 hJ rg_78_5_0_1 (by omega) (by omega)
          have b2068 := jB (e := 5) 0 j2038 rg_78_5_0_1 (by omega) (by omega)
          have q2070 : h1994 76 0 = h1974 76 0 := jK 0 f1996 rg_76_0_0_1 (by omega) (by omega) (by decide)
          have q2071 : h1974 76 0 = h26 76 0 := jK 0 f1975 rg_76_0_0_1 (by omega) (by omega) (by decide)
          have q2072 : h26 76 0 = h15 76 0 := jK 0 f28 rg_76_0_0_1 (by omega) (by omega) (by decide)
          have q2073 : h15 76 0 = h11 76 0 := by rw [← e17]; exact x_up_k (by decide)
          have q2074 : h11 76 0 = h7 76 0 := by rw [← e13]; exact x_up_k (by decide)
          have q2075 : h7 76 0 = h3 76 0 := by rw [← e9]; exact x_up_k (by decide)
          have q2076 : h3 76 0 = h 76 0 := by rw [← e5]; exact x_up_k (by decide)
          have b2077 := jB (e := 0) 0 hJ rg_76_0_0_1 (by omega) (by omega)
          have q2078 : h1994 78 2 = h1974 78 2 := jK 0 f1996 rg_78_2_0_1 (by omega) (by omega) (by decide)
          have q2079 : h1994 78 3 = h1974 78 3 := jK 0 f1996 rg_78_3_0_1 (by omega) (by omega) (by decide)
          have q2080 : h1994 78 4 = h1974 78 4 := jK 0 f1996 rg_78_4_0_1 (by omega) (by omega) (by decide)
          have q2081 : h1994 78 5 = h1974 78 5 := jK 0 f1996 rg_78_5_0_1 (by omega) (by omega) (by decide)
          have k2069 := l9_pe (pe' := h 76 0) (l1 := h1974 78 2) (t1 := h1974 78 3) (d1 := h1974 78 4) (s1 := h1974 78 5) c2044 (by omega) (by omega) (by omega) (by omega) (by omega)
          refine x_retI (np := 85) (x := 0) (by decide +kernel) (by decide) (Or.inl (by decide +kernel)) ⟨_, rfl, (by decide), ?_⟩
          exact ⟨j2038, f2045, (by omega), (by omega), (fun z => by omega), (fun z => by omega), (fun z => absurd z (by omega)), (Tt.r0 (by omega) (Tl.no m1980 (by omega) k2069 c2001 (by omega)))⟩
        have q2052 : ¬ (v2032 = 2147483648) := q2052
        have b2082 := c2041 (by omega)
        have b2083 := c2042 (by omega)
        have m2084 := c2043 (by omega)
        refine x_goto (np := 75) (x := 85) (by decide +kernel) ?_
        refine x_aload (np := 86) (x := 0) (by decide +kernel) rfl (x_nc_le (by decide)) ?_
        have m2088 := Tq.fr m2036 f2039 (by decide) (by decide)
        refine x_cV (t := 6) (mj := 168) (n := 1) (rc := 12) (ml := 1) (nr := 0) (np := 89) (as := [x_r 75]) (rest := []) (lo1 := [x_r 75]) (by decide +kernel) (by decide) (by decide +kernel) (x_rb_of (by decide +kernel)) rfl rfl (x_wr (by decide) x_wn) x_wn (by decide) rfl (c168_75 j2038  m2088) (fun h2089 q2087 => ?_)
        obtain ⟨j2090, f2091, c2094, c2095, c2096⟩ := q2087
        have f2097 := Fr.trans f2045 f2091 (by decide)
        have f2098 := Fr.trans f2046 f2091 (by decide)
        have b2099 := jB (e := 7) 0 j2038 rg_75_7_0_1 (by omega) (by omega)
        have b2100 := jB (e := 7) 0 j2090 rg_75_7_0_1 (by omega) (by omega)
        have b2101 := jB (e := 9) 0 j2090 rg_75_9_0_1 (by omega) (by omega)
        refine x_aload (np := 90) (x := 0) (by decide +kernel) rfl (x_nc_le (by decide)) ?_
        refine x_getC (np := 93) (x := 711) (f := 7) (q := (h2089 75 7)) (by decide +kernel) (by decide) (by decide +kernel) rfl (fun l2102 => ?_)
        refine x_aload (np := 94) (x := 0) (by decide +kernel) rfl (x_nc_le (by decide)) ?_
        have q2103 : h2089 75 8 = h2037 75 8 := jK 0 f2091 rg_75_8_0_1 (by omega) (by omega) (by decide)
        have q2104 : h2037 75 8 = h1994 75 8 := jK 0 f2039 rg_75_8_0_1 (by omega) (by omega) (by decide)
        have q2105 : h1994 75 8 = h1974 75 8 := jK 0 f1996 rg_75_8_0_1 (by omega) (by omega) (by decide)
        have q2106 : h1974 75 8 = h26 75 8 := jK 0 f1975 rg_75_8_0_1 (by omega) (by omega) (by decide)
        have q2107 : h26 75 8 = h15 75 8 := jK 0 f28 rg_75_8_0_1 (by omega) (by omega) (by decide)
        have q2108 : h15 75 8 = h11 75 8 := by rw [← e17]; exact x_up_i (by omega)
        have q2109 : h11 75 8 = h7 75 8 := by rw [← e13]; exact x_up_i (by omega)
        have q2110 : h7 75 8 = h3 75 8 := by rw [← e9]; exact x_up_i (by omega)
        have q2111 : h3 75 8 = (h 75 6) := by rw [← e5]; exact x_up_at
        refine x_getC (np := 97) (x := 712) (f := 8) (q := (h 75 6)) (by decide +kernel) (by decide) (by decide +kernel) ((((((((q2103.trans q2104).trans q2105).trans q2106).trans q2107).trans q2108).trans q2109).trans q2110).trans q2111) (fun l2112 => ?_)
        refine x_icmp (k := 1) (tg := 104) (np := 100) (by decide +kernel) (by decide) l2102 l2 (fun q2113 => ?_) (fun q2114 => ?_)
        · have q2113 : (h2089 75 7) ≠ (h 75 6) := q2113
          refine x_aload (np := 105) (x := 0) (by decide +kernel) rfl (x_nc_le (by decide)) ?_
          refine x_const (np := 107) (x := 9223372292405329979) (a := 2147483707) (by decide +kernel) (by decide) (by decide) ?_
          refine x_const (np := 109) (x := 9223372292405329979) (a := 2147483707) (by decide +kernel) (by decide) (by decide) ?_
          refine x_nI (t := 6) (mj := 167) (n := 3) (rc := 12) (ml := 3) (nr := 0) (np := 112) (as := [x_r 75, iv_c 2147483707, iv_c 2147483707]) (rest := []) (lo1 := [x_r 75, iv_c 2147483707, iv_c 2147483707]) (by decide +kernel) (by decide) (by decide +kernel) (x_rb_of (by decide +kernel)) rfl rfl (x_wr (by decide) (x_wi (by decide) (x_wi (by decide) x_wn))) x_wn (by decide) rfl ?_
          refine x_aload (np := 1) (x := 0) (by decide +kernel) rfl (x_nc_le (by decide)) ?_
          refine x_getC (np := 4) (x := 711) (f := 7) (q := (h2089 75 7)) (by decide +kernel) (by decide) (by decide +kernel) rfl (fun l2115 => ?_)
          refine x_aload (np := 5) (x := 0) (by decide +kernel) rfl (x_nc_le (by decide)) ?_
          have q2116 : h2089 75 8 = h2037 75 8 := jK 0 f2091 rg_75_8_0_1 (by omega) (by omega) (by decide)
          have q2117 : h2037 75 8 = h1994 75 8 := jK 0 f2039 rg_75_8_0_1 (by omega) (by omega) (by decide)
          have q2118 : h1994 75 8 = h1974 75 8 := jK 0 f1996 rg_75_8_0_1 (by omega) (by omega) (by decide)
          have q2119 : h1974 75 8 = h26 75 8 := jK 0 f1975 rg_75_8_0_1 (by omega) (by omega) (by decide)
          have q2120 : h26 75 8 = h15 75 8 := jK 0 f28 rg_75_8_0_1 (by omega) (by omega) (by decide)
          have q2121 : h15 75 8 = h11 75 8 := by rw [← e17]; exact x_up_i (by omega)
          have q2122 : h11 75 8 = h7 75 8 := by rw [← e13]; exact x_up_i (by omega)
          have q2123 : h7 75 8 = h3 75 8 := by rw [← e9]; exact x_up_i (by omega)
          have q2124 : h3 75 8 = (h 75 6) := by rw [← e5]; exact x_up_at
          refine x_getC (np := 8) (x := 712) (f := 8) (q := (h 75 6)) (by decide +kernel) (by decide) (by decide +kernel) ((((((((q2116.trans q2117).trans q2118).trans q2119).trans q2120).trans q2121).trans q2122).trans q2123).trans q2124) (fun l2125 => ?_)
          refine x_icmp (k := 3) (tg := 41) (np := 11) (by decide +kernel) (by decide) l2102 l2 (fun q2126 => ?_) (fun q2127 => ?_)
          · have q2126 : (h 75 6) ≤ (h2089 75 7) := q2126
            refine x_const (np := 42) (x := 9223372039002259456) (a := 2147483648) (by decide +kernel) (by decide) (by decide) ?_
            refine x_retI (np := 43) (x := 0) (by decide +kernel) (by decide) (Or.inr ⟨by decide +kernel, by omega, by omega⟩) ⟨_, rfl, (by decide), ?_⟩
            refine x_ifz (k := 1) (tg := 117) (np := 115) (by decide +kernel) (by decide) (by decide) (fun q2128 => ?_) (fun q2129 => ?_)
            · have q2128 : 2147483648 ≠ 2147483648 := q2128
              exfalso; omega
            have q2129 : ¬ (2147483648 ≠ 2147483648) := q2129
            refine x_const (np := 116) (x := 9223372034707292159) (a := 2147483647) (by decide +kernel) (by decide) (by decide) ?_
            have q2130 : h2089 75 6 = h2037 75 6 := jK 0 f2091 rg_75_6_0_1 (by omega) (by omega) (by decide)
            have q2131 : h2037 75 6 = h1994 75 6 := jK 0 f2039 rg_75_6_0_1 (by omega) (by omega) (by decide)
            have q2132 : h1994 75 6 = h1974 75 6 := jK 0 f1996 rg_75_6_0_1 (by omega) (by omega) (by decide)
            have q2133 : h1974 75 6 = h26 75 6 := jK 0 f1975 rg_75_6_0_1 (by omega) (by omega) (by decide)
            have q2134 : h26 75 6 = h15 75 6 := jK 0 f28 rg_75_6_0_1 (by omega) (by omega) (by decide)
            have q2135 : h15 75 6 = h11 75 6 := by rw [← e17]; exact x_up_i (by omega)
            have q2136 : h11 75 6 = h7 75 6 := by rw [← e13]; exact x_up_i (by omega)
            have q2137 : h7 75 6 = 2147483648 := by rw [← e9]; exact x_up_at
            have b2138 := jB (e := 0) 0 hJ rg_78_0_0_1 (by omega) (by omega)
            have q2139 : h2089 78 0 = h2037 78 0 := jK 0 f2091 rg_78_0_0_1 (by omega) (by omega) (by decide)
            have q2140 : h2089 78 1 = h2037 78 1 := jK 0 f2091 rg_78_1_0_1 (by omega) (by omega) (by decide)
            have b2141 := jB (e := 2) 0 hJ rg_78_2_0_1 (by omega) (by omega)
            have q2142 : h2089 78 2 = h2037 78 2 := jK 0 f2091 rg_78_2_0_1 (by omega) (by omega) (by decide)
            have b2143 := jB (e := 2) 0 j2038 rg_78_2_0_1 (by omega) (by omega)
            have b2144 := jB (e := 3) 0 hJ rg_78_3_0_1 (by omega) (by omega)
            have q2145 : h2089 78 3 = h2037 78 3 := jK 0 f2091 rg_78_3_0_1 (by omega) (by omega) (by decide)
            have b2146 := jB (e := 3) 0 j2038 rg_78_3_0_1 (by omega) (by omega)
            have b2147 := jB (e := 4) 0 hJ rg_78_4_0_1 (by omega) (by omega)
            have q2148 : h2089 78 4 = h2037 78 4 := jK 0 f2091 rg_78_4_0_1 (by omega) (by omega) (by decide)
            have b2149 := jB (e := 4) 0 j2038 rg_78_4_0_1 (by omega) (by omega)
            have b2150 := jB (e := 5) 0 hJ rg_78_5_0_1 (by omega) (by omega)
            have q2151 : h2089 78 5 = h2037 78 5 := jK 0 f2091 rg_78_5_0_1 (by omega) (by omega) (by decide)
            have b2152 := jB (e := 5) 0 j2038 rg_78_5_0_1 (by omega) (by omega)
            have q2154 : h1994 76 0 = h1974 76 0 := jK 0 f1996 rg_76_0_0_1 (by omega) (by omega) (by decide)
            have q2155 : h1974 76 0 = h26 76 0 := jK 0 f1975 rg_76_0_0_1 (by omega) (by omega) (by decide)
            have q2156 : h26 76 0 = h15 76 0 := jK 0 f28 rg_76_0_0_1 (by omega) (by omega) (by decide)
            have q2157 : h15 76 0 = h11 76 0 := by rw [← e17]; exact x_up_k (by decide)
            have q2158 : h11 76 0 = h7 76 0 := by rw [← e13]; exact x_up_k (by decide)
            have q2159 : h7 76 0 = h3 76 0 := by rw [← e9]; exact x_up_k (by decide)
            have q2160 : h3 76 0 = h 76 0 := by rw [← e5]; exact x_up_k (by decide)
            have b2161 := jB (e := 0) 0 hJ rg_76_0_0_1 (by omega) (by omega)
            have q2162 : h1994 78 2 = h1974 78 2 := jK 0 f1996 rg_78_2_0_1 (by omega) (by omega) (by decide)
            have q2163 : h1994 78 3 = h1974 78 3 := jK 0 f1996 rg_78_3_0_1 (by omega) (by omega) (by decide)
            have q2164 : h1994 78 4 = h1974 78 4 := jK 0 f1996 rg_78_4_0_1 (by omega) (by omega) (by decide)
            have q2165 : h1994 78 5 = h1974 78 5 := jK 0 f1996 rg_78_5_0_1 (by omega) (by omega) (by decide)
            have k2153 := l9_pe (pe' := h 76 0) (l1 := h1974 78 2) (t1 := h1974 78 3) (d1 := h1974 78 4) (s1 := h1974 78 5) c2044 (by omega) (by omega) (by omega) (by omega) (by omega)
            have q2166 : h2089 75 8 = h2037 75 8 := jK 0 f2091 rg_75_8_0_1 (by omega) (by omega) (by decide)
            have q2167 : h2037 75 8 = h1994 75 8 := jK 0 f2039 rg_75_8_0_1 (by omega) (by omega) (by decide)
            have q2168 : h1994 75 8 = h1974 75 8 := jK 0 f1996 rg_75_8_0_1 (by omega) (by omega) (by decide)
            have q2169 : h1974 75 8 = h26 75 8 := jK 0 f1975 rg_75_8_0_1 (by omega) (by omega) (by decide)
            have q2170 : h26 75 8 = h15 75 8 := jK 0 f28 rg_75_8_0_1 (by omega) (by omega) (by decide)
            have q2171 : h15 75 8 = h11 75 8 := by rw [← e17]; exact x_up_i (by omega)
            have q2172 : h11 75 8 = h7 75 8 := by rw [← e13]; exact x_up_i (by omega)
            have q2173 : h7 75 8 = h3 75 8 := by rw [← e9]; exact x_up_i (by omega)
            have q2174 : h3 75 8 = (h 75 6) := by rw [← e5]; exact x_up_at
            have m2176 := Tq.fr m2088 f2091 (by decide) (by decide)
            have z2175 := m2176.1
            have z2177 := (Eq.trans c2096 (congrArg (sk tB tN) (show h2037 75 7 = h2037 75 7 by omega)))
            refine x_retI (np := 117) (x := 0) (by decide +kernel) (by decide) (Or.inl (by decide +kernel)) ⟨_, rfl, (by decide), ?_⟩
            exact ⟨j2090, f2097, (by omega), (by omega), (fun z => by omega), (fun z => by omega), (fun z => absurd z (by omega)), (Tt.r0 (by omega) (Tl.bad m1980 (by omega) k2153 c2001 (by omega) (by omega) (p2 := h2089 75 7) (fun z => by have z1 := z.1; have z2 := z.2; omega) (Eq.trans c2096 (congrArg (sk tB tN) (show h2037 75 7 = h2037 75 7 by omega)))))⟩
          have q2127 : ¬ ((h 75 6) ≤ (h2089 75 7)) := q2127
          refine x_aload (np := 12) (x := 0) (by decide +kernel) rfl (x_nc_le (by decide)) ?_
          have q2178 : h2089 75 5 = 79 := by have z := jB (e := 5) 0 j2090 rg_75_5_0_1 (by decide) (by decide); omega
          refine x_getR (np := 15) (x := 709) (f := 5) (q := 79) (by decide +kernel) (by decide) (by decide +kernel) q2178 ?_
          refine x_aload (np := 16) (x := 0) (by decide +kernel) rfl (x_nc_le (by decide)) ?_
          refine x_getC (np := 19) (x := 711) (f := 7) (q := (h2089 75 7)) (by decide +kernel) (by decide) (by decide +kernel) rfl (fun l2179 => ?_)
          obtain ⟨u2180, q2181⟩ : ∃ z, (h2089 75 7) = 2147483648 + z := ⟨(h2089 75 7) - 2147483648, by omega⟩
          have q2182 : h2089 79 u2180 = h2037 79 u2180 := jK u2180 f2091 rg_79_0_1_400 (by omega) (by omega) (by decide)
          have q2183 : h2037 79 u2180 = h1994 79 u2180 := jK u2180 f2039 rg_79_0_1_400 (by omega) (by omega) (by decide)
          have q2184 : h1994 79 u2180 = h1974 79 u2180 := jK u2180 f1996 rg_79_0_1_400 (by omega) (by omega) (by decide)
          have q2185 : h1974 79 u2180 = h26 79 u2180 := jK u2180 f1975 rg_79_0_1_400 (by omega) (by omega) (by decide)
          have q2186 : h26 79 u2180 = h15 79 u2180 := jK u2180 f28 rg_79_0_1_400 (by omega) (by omega) (by decide)
          have q2187 : h15 79 u2180 = h11 79 u2180 := by rw [← e17]; exact x_up_k (by decide)
          have q2188 : h11 79 u2180 = h7 79 u2180 := by rw [← e13]; exact x_up_k (by decide)
          have q2189 : h7 79 u2180 = h3 79 u2180 := by rw [← e9]; exact x_up_k (by decide)
          have q2190 : h3 79 u2180 = h 79 u2180 := by rw [← e5]; exact x_up_k (by decide)
          have b2191 := jB (e := u2180) u2180 hJ rg_79_0_1_400 (by omega) (by omega)
          refine x_baldC (np := 20) (x := 0) (n := 400) (i := u2180) (q := (h 79 u2180)) (by decide +kernel) (by decide +kernel) (by omega) (by omega) (by decide) ((((((((q2182.trans q2183).trans q2184).trans q2185).trans q2186).trans q2187).trans q2188).trans q2189).trans q2190) (fun l2192 => ?_)
          refine x_iload (np := 21) (x := 1) (by decide +kernel) rfl (by decide) ?_
          refine x_icmp (k := 2) (tg := 41) (np := 24) (by decide +kernel) (by decide) l2192 (by decide) (fun q2193 => ?_) (fun q2194 => ?_)
          · have q2193 : (h 79 u2180) < 2147483707 := q2193
            refine x_const (np := 42) (x := 9223372039002259456) (a := 2147483648) (by decide +kernel) (by decide) (by decide) ?_
            refine x_retI (np := 43) (x := 0) (by decide +kernel) (by decide) (Or.inr ⟨by decide +kernel, by omega, by omega⟩) ⟨_, rfl, (by decide), ?_⟩
            refine x_ifz (k := 1) (tg := 117) (np := 115) (by decide +kernel) (by decide) (by decide) (fun q2195 => ?_) (fun q2196 => ?_)
            · have q2195 : 2147483648 ≠ 2147483648 := q2195
              exfalso; omega
            have q2196 : ¬ (2147483648 ≠ 2147483648) := q2196
            refine x_const (np := 116) (x := 9223372034707292159) (a := 2147483647) (by decide +kernel) (by decide) (by decide) ?_
            have q2197 : h2089 75 6 = h2037 75 6 := jK 0 f2091 rg_75_6_0_1 (by omega) (by omega) (by decide)
            have q2198 : h2037 75 6 = h1994 75 6 := jK 0 f2039 rg_75_6_0_1 (by omega) (by omega) (by decide)
            have q2199 : h1994 75 6 = h1974 75 6 := jK 0 f1996 rg_75_6_0_1 (by omega) (by omega) (by decide)
            have q2200 : h1974 75 6 = h26 75 6 := jK 0 f1975 rg_75_6_0_1 (by omega) (by omega) (by decide)
            have q2201 : h26 75 6 = h15 75 6 := jK 0 f28 rg_75_6_0_1 (by omega) (by omega) (by decide)
            have q2202 : h15 75 6 = h11 75 6 := by rw [← e17]; exact x_up_i (by omega)
            have q2203 : h11 75 6 = h7 75 6 := by rw [← e13]; exact x_up_i (by omega)
            have q2204 : h7 75 6 = 2147483648 := by rw [← e9]; exact x_up_at
            have b2205 := jB (e := 0) 0 hJ rg_78_0_0_1 (by omega) (by omega)
            have q2206 : h2089 78 0 = h2037 78 0 := jK 0 f2091 rg_78_0_0_1 (by omega) (by omega) (by decide)
            have q2207 : h2089 78 1 = h2037 78 1 := jK 0 f2091 rg_78_1_0_1 (by omega) (by omega) (by decide)
            have b2208 := jB (e := 2) 0 hJ rg_78_2_0_1 (by omega) (by omega)
            have q2209 : h2089 78 2 = h2037 78 2 := jK 0 f2091 rg_78_2_0_1 (by omega) (by omega) (by decide)
            have b2210 := jB (e := 2) 0 j2038 rg_78_2_0_1 (by omega) (by omega)
            have b2211 := jB (e := 3) 0 hJ rg_78_3_0_1 (by omega) (by omega)
            have q2212 : h2089 78 3 = h2037 78 3 := jK 0 f2091 rg_78_3_0_1 (by omega) (by omega) (by decide)
            have b2213 := jB (e := 3) 0 j2038 rg_78_3_0_1 (by omega) (by omega)
            have b2214 := jB (e := 4) 0 hJ rg_78_4_0_1 (by omega) (by omega)
            have q2215 : h2089 78 4 = h2037 78 4 := jK 0 f2091 rg_78_4_0_1 (by omega) (by omega) (by decide)
            have b2216 := jB (e := 4) 0 j2038 rg_78_4_0_1 (by omega) (by omega)
            have b2217 := jB (e := 5) 0 hJ rg_78_5_0_1 (by omega) (by omega)
            have q2218 : h2089 78 5 = h2037 78 5 := jK 0 f2091 rg_78_5_0_1 (by omega) (by omega) (by decide)
            have b2219 := jB (e := 5) 0 j2038 rg_78_5_0_1 (by omega) (by omega)
            have q2221 : h1994 76 0 = h1974 76 0 := jK 0 f1996 rg_76_0_0_1 (by omega) (by omega) (by decide)
            have q2222 : h1974 76 0 = h26 76 0 := jK 0 f1975 rg_76_0_0_1 (by omega) (by omega) (by decide)
            have q2223 : h26 76 0 = h15 76 0 := jK 0 f28 rg_76_0_0_1 (by omega) (by omega) (by decide)
            have q2224 : h15 76 0 = h11 76 0 := by rw [← e17]; exact x_up_k (by decide)
            have q2225 : h11 76 0 = h7 76 0 := by rw [← e13]; exact x_up_k (by decide)
            have q2226 : h7 76 0 = h3 76 0 := by rw [← e9]; exact x_up_k (by decide)
            have q2227 : h3 76 0 = h 76 0 := by rw [← e5]; exact x_up_k (by decide)
            have b2228 := jB (e := 0) 0 hJ rg_76_0_0_1 (by omega) (by omega)
            have q2229 : h1994 78 2 = h1974 78 2 := jK 0 f1996 rg_78_2_0_1 (by omega) (by omega) (by decide)
            have q2230 : h1994 78 3 = h1974 78 3 := jK 0 f1996 rg_78_3_0_1 (by omega) (by omega) (by decide)
            have q2231 : h1994 78 4 = h1974 78 4 := jK 0 f1996 rg_78_4_0_1 (by omega) (by omega) (by decide)
            have q2232 : h1994 78 5 = h1974 78 5 := jK 0 f1996 rg_78_5_0_1 (by omega) (by omega) (by decide)
            have k2220 := l9_pe (pe' := h 76 0) (l1 := h1974 78 2) (t1 := h1974 78 3) (d1 := h1974 78 4) (s1 := h1974 78 5) c2044 (by omega) (by omega) (by omega) (by omega) (by omega)
            have q2233 : h2089 75 8 = h2037 75 8 := jK 0 f2091 rg_75_8_0_1 (by omega) (by omega) (by decide)
            have q2234 : h2037 75 8 = h1994 75 8 := jK 0 f2039 rg_75_8_0_1 (by omega) (by omega) (by decide)
            have q2235 : h1994 75 8 = h1974 75 8 := jK 0 f1996 rg_75_8_0_1 (by omega) (by omega) (by decide)
            have q2236 : h1974 75 8 = h26 75 8 := jK 0 f1975 rg_75_8_0_1 (by omega) (by omega) (by decide)
            have q2237 : h26 75 8 = h15 75 8 := jK 0 f28 rg_75_8_0_1 (by omega) (by omega) (by decide)
            have q2238 : h15 75 8 = h11 75 8 := by rw [← e17]; exact x_up_i (by omega)
            have q2239 : h11 75 8 = h7 75 8 := by rw [← e13]; exact x_up_i (by omega)
            have q2240 : h7 75 8 = h3 75 8 := by rw [← e9]; exact x_up_i (by omega)
            have q2241 : h3 75 8 = (h 75 6) := by rw [← e5]; exact x_up_at
            have m2243 := Tq.fr m2088 f2091 (by decide) (by decide)
            have z2242 := m2243.1
            have z2244 := (Eq.trans c2096 (congrArg (sk tB tN) (show h2037 75 7 = h2037 75 7 by omega)))
            have q2245 : h2089 79 u2180 = h2037 79 u2180 := jK u2180 f2091 rg_79_0_1_400 (by omega) (by omega) (by decide)
            have q2246 : h2037 79 u2180 = h1994 79 u2180 := jK u2180 f2039 rg_79_0_1_400 (by omega) (by omega) (by decide)
            have q2247 : h1994 79 u2180 = h1974 79 u2180 := jK u2180 f1996 rg_79_0_1_400 (by omega) (by omega) (by decide)
            have q2248 : h1974 79 u2180 = h26 79 u2180 := jK u2180 f1975 rg_79_0_1_400 (by omega) (by omega) (by decide)
            have q2249 : h26 79 u2180 = h15 79 u2180 := jK u2180 f28 rg_79_0_1_400 (by omega) (by omega) (by decide)
            have q2250 : h15 79 u2180 = h11 79 u2180 := by rw [← e17]; exact x_up_k (by decide)
            have q2251 : h11 79 u2180 = h7 79 u2180 := by rw [← e13]; exact x_up_k (by decide)
            have q2252 : h7 79 u2180 = h3 79 u2180 := by rw [← e9]; exact x_up_k (by decide)
            have q2253 : h3 79 u2180 = h 79 u2180 := by rw [← e5]; exact x_up_k (by decide)
            have z2254 := Tq.at (p := (h2089 75 7)) (u := u2180) m2243 (by omega) (by omega)
            refine x_retI (np := 117) (x := 0) (by decide +kernel) (by decide) (Or.inl (by decide +kernel)) ⟨_, rfl, (by decide), ?_⟩
            exact ⟨j2090, f2097, (by omega), (by omega), (fun z => by omega), (fun z => by omega), (fun z => absurd z (by omega)), (Tt.r0 (by omega) (Tl.bad m1980 (by omega) k2220 c2001 (by omega) (by omega) (p2 := h2089 75 7) (fun z => by have z1 := z.1; have z2 := z.2; omega) (Eq.trans c2096 (congrArg (sk tB tN) (show h2037 75 7 = h2037 75 7 by omega)))))⟩
          have q2194 : ¬ ((h 79 u2180) < 2147483707) := q2194
          refine x_aload (np := 25) (x := 0) (by decide +kernel) rfl (x_nc_le (by decide)) ?_
          have q2255 : h2089 75 5 = 79 := by have z := jB (e := 5) 0 j2090 rg_75_5_0_1 (by decide) (by decide); omega
          refine x_getR (np := 28) (x := 709) (f := 5) (q := 79) (by decide +kernel) (by decide) (by decide +kernel) q2255 ?_
          refine x_aload (np := 29) (x := 0) (by decide +kernel) rfl (x_nc_le (by decide)) ?_
          refine x_getC (np := 32) (x := 711) (f := 7) (q := (h2089 75 7)) (by decide +kernel) (by decide) (by decide +kernel) rfl (fun l2256 => ?_)
          have q2257 : h2089 79 u2180 = h2037 79 u2180 := jK u2180 f2091 rg_79_0_1_400 (by omega) (by omega) (by decide)
          have q2258 : h2037 79 u2180 = h1994 79 u2180 := jK u2180 f2039 rg_79_0_1_400 (by omega) (by omega) (by decide)
          have q2259 : h1994 79 u2180 = h1974 79 u2180 := jK u2180 f1996 rg_79_0_1_400 (by omega) (by omega) (by decide)
          have q2260 : h1974 79 u2180 = h26 79 u2180 := jK u2180 f1975 rg_79_0_1_400 (by omega) (by omega) (by decide)
          have q2261 : h26 79 u2180 = h15 79 u2180 := jK u2180 f28 rg_79_0_1_400 (by omega) (by omega) (by decide)
          have q2262 : h15 79 u2180 = h11 79 u2180 := by rw [← e17]; exact x_up_k (by decide)
          have q2263 : h11 79 u2180 = h7 79 u2180 := by rw [← e13]; exact x_up_k (by decide)
          have q2264 : h7 79 u2180 = h3 79 u2180 := by rw [← e9]; exact x_up_k (by decide)
          have q2265 : h3 79 u2180 = h 79 u2180 := by rw [← e5]; exact x_up_k (by decide)
          refine x_baldC (np := 33) (x := 0) (n := 400) (i := u2180) (q := (h 79 u2180)) (by decide +kernel) (by decide +kernel) (by omega) (by omega) (by decide) ((((((((q2257.trans q2258).trans q2259).trans q2260).trans q2261).trans q2262).trans q2263).trans q2264).trans q2265) (fun l2266 => ?_)
          refine x_iload (np := 34) (x := 2) (by decide +kernel) rfl (by decide) ?_
          refine x_icmp (k := 4) (tg := 41) (np := 37) (by decide +kernel) (by decide) l2192 (by decide) (fun q2267 => ?_) (fun q2268 => ?_)
          · have q2267 : 2147483707 < (h 79 u2180) := q2267
            refine x_const (np := 42) (x := 9223372039002259456) (a := 2147483648) (by decide +kernel) (by decide) (by decide) ?_
            refine x_retI (np := 43) (x := 0) (by decide +kernel) (by decide) (Or.inr ⟨by decide +kernel, by omega, by omega⟩) ⟨_, rfl, (by decide), ?_⟩
            refine x_ifz (k := 1) (tg := 117) (np := 115) (by decide +kernel) (by decide) (by decide) (fun q2269 => ?_) (fun q2270 => ?_)
            · have q2269 : 2147483648 ≠ 2147483648 := q2269
              exfalso; omega
            have q2270 : ¬ (2147483648 ≠ 2147483648) := q2270
            refine x_const (np := 116) (x := 9223372034707292159) (a := 2147483647) (by decide +kernel) (by decide) (by decide) ?_
            have q2271 : h2089 75 6 = h2037 75 6 := jK 0 f2091 rg_75_6_0_1 (by omega) (by omega) (by decide)
            have q2272 : h2037 75 6 = h1994 75 6 := jK 0 f2039 rg_75_6_0_1 (by omega) (by omega) (by decide)
            have q2273 : h1994 75 6 = h1974 75 6 := jK 0 f1996 rg_75_6_0_1 (by omega) (by omega) (by decide)
            have q2274 : h1974 75 6 = h26 75 6 := jK 0 f1975 rg_75_6_0_1 (by omega) (by omega) (by decide)
            have q2275 : h26 75 6 = h15 75 6 := jK 0 f28 rg_75_6_0_1 (by omega) (by omega) (by decide)
            have q2276 : h15 75 6 = h11 75 6 := by rw [← e17]; exact x_up_i (by omega)
            have q2277 : h11 75 6 = h7 75 6 := by rw [← e13]; exact x_up_i (by omega)
            have q2278 : h7 75 6 = 2147483648 := by rw [← e9]; exact x_up_at
            have b2279 := jB (e := 0) 0 hJ rg_78_0_0_1 (by omega) (by omega)
            have q2280 : h2089 78 0 = h2037 78 0 := jK 0 f2091 rg_78_0_0_1 (by omega) (by omega) (by decide)
            have q2281 : h2089 78 1 = h2037 78 1 := jK 0 f2091 rg_78_1_0_1 (by omega) (by omega) (by decide)
            have b2282 := jB (e := 2) 0 hJ rg_78_2_0_1 (by omega) (by omega)
            have q2283 : h2089 78 2 = h2037 78 2 := jK 0 f2091 rg_78_2_0_1 (by omega) (by omega) (by decide)
            have b2284 := jB (e := 2) 0 j2038 rg_78_2_0_1 (by omega) (by omega)
            have b2285 := jB (e := 3) 0 hJ rg_78_3_0_1 (by omega) (by omega)
            have q2286 : h2089 78 3 = h2037 78 3 := jK 0 f2091 rg_78_3_0_1 (by omega) (by omega) (by decide)
            have b2287 := jB (e := 3) 0 j2038 rg_78_3_0_1 (by omega) (by omega)
            have b2288 := jB (e := 4) 0 hJ rg_78_4_0_1 (by omega) (by omega)
            have q2289 : h2089 78 4 = h2037 78 4 := jK 0 f2091 rg_78_4_0_1 (by omega) (by omega) (by decide)
            have b2290 := jB (e := 4) 0 j2038 rg_78_4_0_1 (by omega) (by omega)
            have b2291 := jB (e := 5) 0 hJ rg_78_5_0_1 (by omega) (by omega)
            have q2292 : h2089 78 5 = h2037 78 5 := jK 0 f2091 rg_78_5_0_1 (by omega) (by omega) (by decide)
            have b2293 := jB (e := 5) 0 j2038 rg_78_5_0_1 (by omega) (by omega)
            have q2295 : h1994 76 0 = h1974 76 0 := jK 0 f1996 rg_76_0_0_1 (by omega) (by omega) (by decide)
            have q2296 : h1974 76 0 = h26 76 0 := jK 0 f1975 rg_76_0_0_1 (by omega) (by omega) (by decide)
            have q2297 : h26 76 0 = h15 76 0 := jK 0 f28 rg_76_0_0_1 (by omega) (by omega) (by decide)
            have q2298 : h15 76 0 = h11 76 0 := by rw [← e17]; exact x_up_k (by decide)
            have q2299 : h11 76 0 = h7 76 0 := by rw [← e13]; exact x_up_k (by decide)
            have q2300 : h7 76 0 = h3 76 0 := by rw [← e9]; exact x_up_k (by decide)
            have q2301 : h3 76 0 = h 76 0 := by rw [← e5]; exact x_up_k (by decide)
            have b2302 := jB (e := 0) 0 hJ rg_76_0_0_1 (by omega) (by omega)
            have q2303 : h1994 78 2 = h1974 78 2 := jK 0 f1996 rg_78_2_0_1 (by omega) (by omega) (by decide)
            have q2304 : h1994 78 3 = h1974 78 3 := jK 0 f1996 rg_78_3_0_1 (by omega) (by omega) (by decide)
            have q2305 : h1994 78 4 = h1974 78 4 := jK 0 f1996 rg_78_4_0_1 (by omega) (by omega) (by decide)
            have q2306 : h1994 78 5 = h1974 78 5 := jK 0 f1996 rg_78_5_0_1 (by omega) (by omega) (by decide)
            have k2294 := l9_pe (pe' := h 76 0) (l1 := h1974 78 2) (t1 := h1974 78 3) (d1 := h1974 78 4) (s1 := h1974 78 5) c2044 (by omega) (by omega) (by omega) (by omega) (by omega)
            have q2307 : h2089 75 8 = h2037 75 8 := jK 0 f2091 rg_75_8_0_1 (by omega) (by omega) (by decide)
            have q2308 : h2037 75 8 = h1994 75 8 := jK 0 f2039 rg_75_8_0_1 (by omega) (by omega) (by decide)
            have q2309 : h1994 75 8 = h1974 75 8 := jK 0 f1996 rg_75_8_0_1 (by omega) (by omega) (by decide)
            have q2310 : h1974 75 8 = h26 75 8 := jK 0 f1975 rg_75_8_0_1 (by omega) (by omega) (by decide)
            have q2311 : h26 75 8 = h15 75 8 := jK 0 f28 rg_75_8_0_1 (by omega) (by omega) (by decide)
            have q2312 : h15 75 8 = h11 75 8 := by rw [← e17]; exact x_up_i (by omega)
            have q2313 : h11 75 8 = h7 75 8 := by rw [← e13]; exact x_up_i (by omega)
            have q2314 : h7 75 8 = h3 75 8 := by rw [← e9]; exact x_up_i (by omega)
            have q2315 : h3 75 8 = (h 75 6) := by rw [← e5]; exact x_up_at
            have m2317 := Tq.fr m2088 f2091 (by decide) (by decide)
            have z2316 := m2317.1
            have z2318 := (Eq.trans c2096 (congrArg (sk tB tN) (show h2037 75 7 = h2037 75 7 by omega)))
            have q2319 : h2089 79 u2180 = h2037 79 u2180 := jK u2180 f2091 rg_79_0_1_400 (by omega) (by omega) (by decide)
            have q2320 : h2037 79 u2180 = h1994 79 u2180 := jK u2180 f2039 rg_79_0_1_400 (by omega) (by omega) (by decide)
            have q2321 : h1994 79 u2180 = h1974 79 u2180 := jK u2180 f1996 rg_79_0_1_400 (by omega) (by omega) (by decide)
            have q2322 : h1974 79 u2180 = h26 79 u2180 := jK u2180 f1975 rg_79_0_1_400 (by omega) (by omega) (by decide)
            have q2323 : h26 79 u2180 = h15 79 u2180 := jK u2180 f28 rg_79_0_1_400 (by omega) (by omega) (by decide)
            have q2324 : h15 79 u2180 = h11 79 u2180 := by rw [← e17]; exact x_up_k (by decide)
            have q2325 : h11 79 u2180 = h7 79 u2180 := by rw [← e13]; exact x_up_k (by decide)
            have q2326 : h7 79 u2180 = h3 79 u2180 := by rw [← e9]; exact x_up_k (by decide)
            have q2327 : h3 79 u2180 = h 79 u2180 := by rw [← e5]; exact x_up_k (by decide)
            have z2328 := Tq.at (p := (h2089 75 7)) (u := u2180) m2317 (by omega) (by omega)
            refine x_retI (np := 117) (x := 0) (by decide +kernel) (by decide) (Or.inl (by decide +kernel)) ⟨_, rfl, (by decide), ?_⟩
            exact ⟨j2090, f2097, (by omega), (by omega), (fun z => by omega), (fun z => by omega), (fun z => absurd z (by omega)), (Tt.r0 (by omega) (Tl.bad m1980 (by omega) k2294 c2001 (by omega) (by omega) (p2 := h2089 75 7) (fun z => by have z1 := z.1; have z2 := z.2; omega) (Eq.trans c2096 (congrArg (sk tB tN) (show h2037 75 7 = h2037 75 7 by omega)))))⟩
          have q2268 : ¬ (2147483707 < (h 79 u2180)) := q2268
          refine x_const (np := 38) (x := 9223372043297226753) (a := 2147483649) (by decide +kernel) (by decide) (by decide) ?_
          refine x_goto (np := 41) (x := 42) (by decide +kernel) ?_
          refine x_retI (np := 43) (x := 0) (by decide +kernel) (by decide) (Or.inr ⟨by decide +kernel, by omega, by omega⟩) ⟨_, rfl, (by decide), ?_⟩
          refine x_ifz (k := 1) (tg := 117) (np := 115) (by decide +kernel) (by decide) (by decide) (fun q2329 => ?_) (fun q2330 => ?_)
          · have q2329 : 2147483649 ≠ 2147483648 := q2329
            refine x_aload (np := 118) (x := 0) (by decide +kernel) rfl (x_nc_le (by decide)) ?_
            refine x_dup (np := 119) (x := 0) (by decide +kernel) (by have z := x_nc_le (k := 75) (by decide); unfold x_r; omega) ?_
            refine x_getC (np := 122) (x := 711) (f := 7) (q := (h2089 75 7)) (by decide +kernel) (by decide) (by decide +kernel) rfl (fun l2331 => ?_)
            refine x_const (np := 123) (x := 9223372043297226753) (a := 2147483649) (by decide +kernel) (by decide) (by decide) ?_
            refine x_iadd (np := 124) (x := 0) (v := (1 + (h2089 75 7))) (by decide +kernel) l2102 (by decide) (by omega) (by omega) ?_
            refine x_putI (np := 127) (x := 711) (f := 7) (by decide +kernel) (by decide +kernel) (by omega) (Or.inl (by decide)) ?_
            have j2333 := jU (e := 7) (v := (1 + (h2089 75 7))) 0 j2090 rg_75_7_0_1 (by omega) (by omega) (by omega)
            have f2335 := jF (e := 7) (v := (1 + (h2089 75 7))) 0 f2097 rg_75_7_0_1 (by omega) (by omega) (by decide)
            have f2336 := jF (e := 7) (v := (1 + (h2089 75 7))) 0 f2098 rg_75_7_0_1 (by omega) (by omega) (by decide)
            generalize e2334 : x_up h2089 75 7 (1 + (h2089 75 7)) = h2332 at j2333 f2335 f2336 ⊢
            refine x_iinc (np := 130) (i := 2) (j := 2147483649) (v := (1 + v1972)) (lo' := [x_r 75, iv_c 2147483649, iv_c (1 + v1972)]) (by decide +kernel) (by decide) (by decide) rfl (by omega) (by omega) (by omega) rfl ?_
            refine x_goto (np := 133) (x := 42) (by decide +kernel) ?_
            have b2337 := jB (e := 0) 0 hJ rg_78_0_0_1 (by omega) (by omega)
            have q2338 : h2332 78 0 = h2089 78 0 := by rw [← e2334]; exact x_up_k (by decide)
            have q2339 : h2089 78 0 = h2037 78 0 := jK 0 f2091 rg_78_0_0_1 (by omega) (by omega) (by decide)
            have q2340 : h2332 78 1 = h2089 78 1 := by rw [← e2334]; exact x_up_k (by decide)
            have q2341 : h2089 78 1 = h2037 78 1 := jK 0 f2091 rg_78_1_0_1 (by omega) (by omega) (by decide)
            have m2343 := Cl.fr m2084 f2091 (by decide)
            have m2342 : Cl h2332 := by rw [← e2334]; exact Cl.oth m2343 (by decide)
            have q2344 : h2332 75 7 = (1 + (h2089 75 7)) := by rw [← e2334]; exact x_up_at
            have q2345 : h2089 75 8 = h2037 75 8 := jK 0 f2091 rg_75_8_0_1 (by omega) (by omega) (by decide)
            have q2346 : h2037 75 8 = h1994 75 8 := jK 0 f2039 rg_75_8_0_1 (by omega) (by omega) (by decide)
            have q2347 : h1994 75 8 = h1974 75 8 := jK 0 f1996 rg_75_8_0_1 (by omega) (by omega) (by decide)
            have q2348 : h1974 75 8 = h26 75 8 := jK 0 f1975 rg_75_8_0_1 (by omega) (by omega) (by decide)
            have q2349 : h26 75 8 = h15 75 8 := jK 0 f28 rg_75_8_0_1 (by omega) (by omega) (by decide)
            have q2350 : h15 75 8 = h11 75 8 := by rw [← e17]; exact x_up_i (by omega)
            have q2351 : h11 75 8 = h7 75 8 := by rw [← e13]; exact x_up_i (by omega)
            have q2352 : h7 75 8 = h3 75 8 := by rw [← e9]; exact x_up_i (by omega)
            have q2353 : h3 75 8 = (h 75 6) := by rw [← e5]; exact x_up_at
            have m2355 := Tq.fr m2088 f2091 (by decide) (by decide)
            have z2354 := m2355.1
            have q2356 : h2089 79 u2180 = h2037 79 u2180 := jK u2180 f2091 rg_79_0_1_400 (by omega) (by omega) (by decide)
            have q2357 : h2037 79 u2180 = h1994 79 u2180 := jK u2180 f2039 rg_79_0_1_400 (by omega) (by omega) (by decide)
            have q2358 : h1994 79 u2180 = h1974 79 u2180 := jK u2180 f1996 rg_79_0_1_400 (by omega) (by omega) (by decide)
            have q2359 : h1974 79 u2180 = h26 79 u2180 := jK u2180 f1975 rg_79_0_1_400 (by omega) (by omega) (by decide)
            have q2360 : h26 79 u2180 = h15 79 u2180 := jK u2180 f28 rg_79_0_1_400 (by omega) (by omega) (by decide)
            have q2361 : h15 79 u2180 = h11 79 u2180 := by rw [← e17]; exact x_up_k (by decide)
            have q2362 : h11 79 u2180 = h7 79 u2180 := by rw [← e13]; exact x_up_k (by decide)
            have q2363 : h7 79 u2180 = h3 79 u2180 := by rw [← e9]; exact x_up_k (by decide)
            have q2364 : h3 79 u2180 = h 79 u2180 := by rw [← e5]; exact x_up_k (by decide)
            have z2365 := Tq.at (p := (h2089 75 7)) (u := u2180) m2355 (by omega) (by omega)
            have q2368 : h1994 76 0 = h1974 76 0 := jK 0 f1996 rg_76_0_0_1 (by omega) (by omega) (by decide)
            have q2369 : h1974 76 0 = h26 76 0 := jK 0 f1975 rg_76_0_0_1 (by omega) (by omega) (by decide)
            have q2370 : h26 76 0 = h15 76 0 := jK 0 f28 rg_76_0_0_1 (by omega) (by omega) (by decide)
            have q2371 : h15 76 0 = h11 76 0 := by rw [← e17]; exact x_up_k (by decide)
            have q2372 : h11 76 0 = h7 76 0 := by rw [← e13]; exact x_up_k (by decide)
            have q2373 : h7 76 0 = h3 76 0 := by rw [← e9]; exact x_up_k (by decide)
            have q2374 : h3 76 0 = h 76 0 := by rw [← e5]; exact x_up_k (by decide)
            have b2375 := jB (e := 0) 0 hJ rg_76_0_0_1 (by omega) (by omega)
            have q2376 : h1994 78 2 = h1974 78 2 := jK 0 f1996 rg_78_2_0_1 (by omega) (by omega) (by decide)
            have q2377 : h1994 78 3 = h1974 78 3 := jK 0 f1996 rg_78_3_0_1 (by omega) (by omega) (by decide)
            have q2378 : h1994 78 4 = h1974 78 4 := jK 0 f1996 rg_78_4_0_1 (by omega) (by omega) (by decide)
            have q2379 : h1994 78 5 = h1974 78 5 := jK 0 f1996 rg_78_5_0_1 (by omega) (by omega) (by decide)
            have k2367 := l9_pe (pe' := h 76 0) (l1 := h1974 78 2) (t1 := h1974 78 3) (d1 := h1974 78 4) (s1 := h1974 78 5) c2044 (by omega) (by omega) (by omega) (by omega) (by omega)
            have q2380 : h2332 78 2 = h2089 78 2 := by rw [← e2334]; exact x_up_k (by decide)
            have q2381 : h2089 78 2 = h2037 78 2 := jK 0 f2091 rg_78_2_0_1 (by omega) (by omega) (by decide)
            have b2382 := jB (e := 2) 0 j2038 rg_78_2_0_1 (by omega) (by omega)
            have q2383 : h2332 78 3 = h2089 78 3 := by rw [← e2334]; exact x_up_k (by decide)
            have q2384 : h2089 78 3 = h2037 78 3 := jK 0 f2091 rg_78_3_0_1 (by omega) (by omega) (by decide)
            have b2385 := jB (e := 3) 0 j2038 rg_78_3_0_1 (by omega) (by omega)
            have q2386 : h2332 78 4 = h2089 78 4 := by rw [← e2334]; exact x_up_k (by decide)
            have q2387 : h2089 78 4 = h2037 78 4 := jK 0 f2091 rg_78_4_0_1 (by omega) (by omega) (by decide)
            have b2388 := jB (e := 4) 0 j2038 rg_78_4_0_1 (by omega) (by omega)
            have q2389 : h2332 78 5 = h2089 78 5 := by rw [← e2334]; exact x_up_k (by decide)
            have q2390 : h2089 78 5 = h2037 78 5 := jK 0 f2091 rg_78_5_0_1 (by omega) (by omega) (by decide)
            have b2391 := jB (e := 5) 0 j2038 rg_78_5_0_1 (by omega) (by omega)
            have m2366 : Tl tB tN (h 76 0) (h 78 2) (h 78 3) (h 78 4) (h 78 5) (2147483662 - (1 + v1972)) (h2332 78 2) (h2332 78 3) (h2332 78 4) (h2332 78 5) (sk tB tN (h2332 75 7)) := by
              rw [show h2332 78 2 = h2037 78 2 by omega, show h2332 78 3 = h2037 78 3 by omega, show h2332 78 4 = h2037 78 4 by omega, show h2332 78 5 = h2037 78 5 by omega]
              exact Tl.go (m' := 2147483662 - (1 + v1972)) m1980 (by omega) k2367 c2001 (by omega) (p2 := h2089 75 7) ⟨by omega, by omega⟩ (Eq.trans c2096 (congrArg (sk tB tN) (show h2037 75 7 = h2037 75 7 by omega))) (q1 := sk tB tN (h2089 75 7 + 1)) rfl (congrArg (sk tB tN) (show h2089 75 7 + 1 = h2332 75 7 by omega))
            exact i1983 (1 + v1972) h2332 (by omega) (by omega) (by omega) (by omega) j2333 f2336 m2342 m2366
          have q2330 : ¬ (2147483649 ≠ 2147483648) := q2330
          exfalso; omega
        have q2114 : ¬ ((h2089 75 7) ≠ (h 75 6)) := q2114
        refine x_iload (np := 101) (x := 2) (by decide +kernel) rfl (by omega) ?_
        refine x_const (np := 102) (x := 9223372043297226753) (a := 2147483649) (by decide +kernel) (by decide) (by decide) ?_
        refine x_iadd (np := 103) (x := 0) (v := (1 + v1972)) (by decide +kernel) (by omega) (by decide) (by omega) (by omega) ?_
        have q2392 : h2089 75 6 = h2037 75 6 := jK 0 f2091 rg_75_6_0_1 (by omega) (by omega) (by decide)
        have q2393 : h2037 75 6 = h1994 75 6 := jK 0 f2039 rg_75_6_0_1 (by omega) (by omega) (by decide)
        have q2394 : h1994 75 6 = h1974 75 6 := jK 0 f1996 rg_75_6_0_1 (by omega) (by omega) (by decide)
        have q2395 : h1974 75 6 = h26 75 6 := jK 0 f1975 rg_75_6_0_1 (by omega) (by omega) (by decide)
        have q2396 : h26 75 6 = h15 75 6 := jK 0 f28 rg_75_6_0_1 (by omega) (by omega) (by decide)
        have q2397 : h15 75 6 = h11 75 6 := by rw [← e17]; exact x_up_i (by omega)
        have q2398 : h11 75 6 = h7 75 6 := by rw [← e13]; exact x_up_i (by omega)
        have q2399 : h7 75 6 = 2147483648 := by rw [← e9]; exact x_up_at
        have b2400 := jB (e := 0) 0 hJ rg_78_0_0_1 (by omega) (by omega)
        have q2401 : h2089 78 0 = h2037 78 0 := jK 0 f2091 rg_78_0_0_1 (by omega) (by omega) (by decide)
        have q2402 : h2089 78 1 = h2037 78 1 := jK 0 f2091 rg_78_1_0_1 (by omega) (by omega) (by decide)
        have m2403 := Cl.fr m2084 f2091 (by decide)
        have b2404 := jB (e := 2) 0 hJ rg_78_2_0_1 (by omega) (by omega)
        have q2405 : h2089 78 2 = h2037 78 2 := jK 0 f2091 rg_78_2_0_1 (by omega) (by omega) (by decide)
        have b2406 := jB (e := 2) 0 j2038 rg_78_2_0_1 (by omega) (by omega)
        have b2407 := jB (e := 3) 0 hJ rg_78_3_0_1 (by omega) (by omega)
        have q2408 : h2089 78 3 = h2037 78 3 := jK 0 f2091 rg_78_3_0_1 (by omega) (by omega) (by decide)
        have b2409 := jB (e := 3) 0 j2038 rg_78_3_0_1 (by omega) (by omega)
        have b2410 := jB (e := 4) 0 hJ rg_78_4_0_1 (by omega) (by omega)
        have q2411 : h2089 78 4 = h2037 78 4 := jK 0 f2091 rg_78_4_0_1 (by omega) (by omega) (by decide)
        have b2412 := jB (e := 4) 0 j2038 rg_78_4_0_1 (by omega) (by omega)
        have b2413 := jB (e := 5) 0 hJ rg_78_5_0_1 (by omega) (by omega)
        have q2414 : h2089 78 5 = h2037 78 5 := jK 0 f2091 rg_78_5_0_1 (by omega) (by omega) (by decide)
        have b2415 := jB (e := 5) 0 j2038 rg_78_5_0_1 (by omega) (by omega)
        have q2417 : h1994 76 0 = h1974 76 0 := jK 0 f1996 rg_76_0_0_1 (by omega) (by omega) (by decide)
        have q2418 : h1974 76 0 = h26 76 0 := jK 0 f1975 rg_76_0_0_1 (by omega) (by omega) (by decide)
        have q2419 : h26 76 0 = h15 76 0 := jK 0 f28 rg_76_0_0_1 (by omega) (by omega) (by decide)
        have q2420 : h15 76 0 = h11 76 0 := by rw [← e17]; exact x_up_k (by decide)
        have q2421 : h11 76 0 = h7 76 0 := by rw [← e13]; exact x_up_k (by decide)
        have q2422 : h7 76 0 = h3 76 0 := by rw [← e9]; exact x_up_k (by decide)
        have q2423 : h3 76 0 = h 76 0 := by rw [← e5]; exact x_up_k (by decide)
        have b2424 := jB (e := 0) 0 hJ rg_76_0_0_1 (by omega) (by omega)
        have q2425 : h1994 78 2 = h1974 78 2 := jK 0 f1996 rg_78_2_0_1 (by omega) (by omega) (by decide)
        have q2426 : h1994 78 3 = h1974 78 3 := jK 0 f1996 rg_78_3_0_1 (by omega) (by omega) (by decide)
        have q2427 : h1994 78 4 = h1974 78 4 := jK 0 f1996 rg_78_4_0_1 (by omega) (by omega) (by decide)
        have q2428 : h1994 78 5 = h1974 78 5 := jK 0 f1996 rg_78_5_0_1 (by omega) (by omega) (by decide)
        have k2416 := l9_pe (pe' := h 76 0) (l1 := h1974 78 2) (t1 := h1974 78 3) (d1 := h1974 78 4) (s1 := h1974 78 5) c2044 (by omega) (by omega) (by omega) (by omega) (by omega)
        have q2429 : h2089 75 8 = h2037 75 8 := jK 0 f2091 rg_75_8_0_1 (by omega) (by omega) (by decide)
        have q2430 : h2037 75 8 = h1994 75 8 := jK 0 f2039 rg_75_8_0_1 (by omega) (by omega) (by decide)
        have q2431 : h1994 75 8 = h1974 75 8 := jK 0 f1996 rg_75_8_0_1 (by omega) (by omega) (by decide)
        have q2432 : h1974 75 8 = h26 75 8 := jK 0 f1975 rg_75_8_0_1 (by omega) (by omega) (by decide)
        have q2433 : h26 75 8 = h15 75 8 := jK 0 f28 rg_75_8_0_1 (by omega) (by omega) (by decide)
        have q2434 : h15 75 8 = h11 75 8 := by rw [← e17]; exact x_up_i (by omega)
        have q2435 : h11 75 8 = h7 75 8 := by rw [← e13]; exact x_up_i (by omega)
        have q2436 : h7 75 8 = h3 75 8 := by rw [← e9]; exact x_up_i (by omega)
        have q2437 : h3 75 8 = (h 75 6) := by rw [← e5]; exact x_up_at
        have m2439 := Tq.fr m2088 f2091 (by decide) (by decide)
        have z2438 := m2439.1
        have z2440 := (Eq.trans c2096 (congrArg (sk tB tN) (show h2037 75 7 = h2037 75 7 by omega)))
        refine x_retI (np := 104) (x := 0) (by decide +kernel) (by omega) (Or.inl (by decide +kernel)) ⟨_, rfl, (by omega), ?_⟩
        exact ⟨j2090, f2097, (by omega), (by omega), (fun z => by omega), (fun z => by omega), (fun _ => m2403), (Tt.r1 (by omega) (Tl.fin m1980 (by omega) k2416 c2001 (by omega) (by omega)) (by omega) (by omega) (by omega) (by omega))⟩
    have b2441 := jB (e := 0) 0 hJ rg_78_0_0_1 (by omega) (by omega)
    have q2442 : h26 78 0 = h15 78 0 := jK 0 f28 rg_78_0_0_1 (by omega) (by omega) (by decide)
    have q2443 : h15 78 0 = h11 78 0 := by rw [← e17]; exact x_up_k (by decide)
    have q2444 : h11 78 0 = h7 78 0 := by rw [← e13]; exact x_up_k (by decide)
    have q2445 : h7 78 0 = h3 78 0 := by rw [← e9]; exact x_up_k (by decide)
    have q2446 : h3 78 0 = h 78 0 := by rw [← e5]; exact x_up_k (by decide)
    have q2447 : h26 78 1 = h15 78 1 := jK 0 f28 rg_78_1_0_1 (by omega) (by omega) (by decide)
    have q2448 : h15 78 1 = h11 78 1 := by rw [← e17]; exact x_up_k (by decide)
    have q2449 : h11 78 1 = h7 78 1 := by rw [← e13]; exact x_up_k (by decide)
    have q2450 : h7 78 1 = h3 78 1 := by rw [← e9]; exact x_up_k (by decide)
    have q2451 : h3 78 1 = h 78 1 := by rw [← e5]; exact x_up_k (by decide)
    have m2456 : Cl h3 := by rw [← e5]; exact Cl.oth hC (by decide)
    have m2455 : Cl h7 := by rw [← e9]; exact Cl.oth m2456 (by decide)
    have m2454 : Cl h11 := by rw [← e13]; exact Cl.oth m2455 (by decide)
    have m2453 : Cl h15 := by rw [← e17]; exact Cl.oth m2454 (by decide)
    have m2452 := Cl.fr m2453 f28 (by decide)
    have q2457 : h15 75 7 = h11 75 7 := by rw [← e17]; exact x_up_i (by omega)
    have q2458 : h11 75 7 = 2147483648 := by rw [← e13]; exact x_up_at
    have q2459 : h26 75 8 = h15 75 8 := jK 0 f28 rg_75_8_0_1 (by omega) (by omega) (by decide)
    have q2460 : h15 75 8 = h11 75 8 := by rw [← e17]; exact x_up_i (by omega)
    have q2461 : h11 75 8 = h7 75 8 := by rw [← e13]; exact x_up_i (by omega)
    have q2462 : h7 75 8 = h3 75 8 := by rw [← e9]; exact x_up_i (by omega)
    have q2463 : h3 75 8 = (h 75 6) := by rw [← e5]; exact x_up_at
    have m2465 := Tq.fr m22 f28 (by decide) (by decide)
    have z2464 := m2465.1
    have b2467 := jB (e := 2) 0 hJ rg_78_2_0_1 (by omega) (by omega)
    have q2468 : h26 78 2 = h15 78 2 := jK 0 f28 rg_78_2_0_1 (by omega) (by omega) (by decide)
    have q2469 : h15 78 2 = h11 78 2 := by rw [← e17]; exact x_up_k (by decide)
    have q2470 : h11 78 2 = h7 78 2 := by rw [← e13]; exact x_up_k (by decide)
    have q2471 : h7 78 2 = h3 78 2 := by rw [← e9]; exact x_up_k (by decide)
    have q2472 : h3 78 2 = h 78 2 := by rw [← e5]; exact x_up_k (by decide)
    have b2473 := jB (e := 3) 0 hJ rg_78_3_0_1 (by omega) (by omega)
    have q2474 : h26 78 3 = h15 78 3 := jK 0 f28 rg_78_3_0_1 (by omega) (by omega) (by decide)
    have q2475 : h15 78 3 = h11 78 3 := by rw [← e17]; exact x_up_k (by decide)
    have q2476 : h11 78 3 = h7 78 3 := by rw [← e13]; exact x_up_k (by decide)
    have q2477 : h7 78 3 = h3 78 3 := by rw [← e9]; exact x_up_k (by decide)
    have q2478 : h3 78 3 = h 78 3 := by rw [← e5]; exact x_up_k (by decide)
    have b2479 := jB (e := 4) 0 hJ rg_78_4_0_1 (by omega) (by omega)
    have q2480 : h26 78 4 = h15 78 4 := jK 0 f28 rg_78_4_0_1 (by omega) (by omega) (by decide)
    have q2481 : h15 78 4 = h11 78 4 := by rw [← e17]; exact x_up_k (by decide)
    have q2482 : h11 78 4 = h7 78 4 := by rw [← e13]; exact x_up_k (by decide)
    have q2483 : h7 78 4 = h3 78 4 := by rw [← e9]; exact x_up_k (by decide)
    have q2484 : h3 78 4 = h 78 4 := by rw [← e5]; exact x_up_k (by decide)
    have b2485 := jB (e := 5) 0 hJ rg_78_5_0_1 (by omega) (by omega)
    have q2486 : h26 78 5 = h15 78 5 := jK 0 f28 rg_78_5_0_1 (by omega) (by omega) (by decide)
    have q2487 : h15 78 5 = h11 78 5 := by rw [← e17]; exact x_up_k (by decide)
    have q2488 : h11 78 5 = h7 78 5 := by rw [← e13]; exact x_up_k (by decide)
    have q2489 : h7 78 5 = h3 78 5 := by rw [← e9]; exact x_up_k (by decide)
    have q2490 : h3 78 5 = h 78 5 := by rw [← e5]; exact x_up_k (by decide)
    have m2466 : Tl tB tN (h 76 0) (h 78 2) (h 78 3) (h 78 4) (h 78 5) (2147483662 - 2147483648) (h26 78 2) (h26 78 3) (h26 78 4) (h26 78 5) (sk tB tN (h26 75 7)) := by
      rw [show h26 78 2 = h 78 2 by omega, show h26 78 3 = h 78 3 by omega, show h26 78 4 = h 78 4 by omega, show h26 78 5 = h 78 5 by omega]
      exact Tl.zeroR ((show h26 75 7 = h26 75 7 by omega).trans (Eq.trans c33 (congrArg (sk tB tN) (show h15 75 7 = 2147483648 by omega)))) (by omega) (by omega) rfl
    exact p1977 _ 2147483648 h26 (Nat.lt_succ_self _) (by omega) (by omega) (by omega) j27 (Fr.refl _ _) m2452 m2466
  have q47 : ¬ ((h26 75 7) ≠ (h 75 6)) := q47
  refine x_const (np := 39) (x := 9223372039002259456) (a := 2147483648) (by decide +kernel) (by decide) (by decide) ?_
  have q2491 : h26 75 6 = h15 75 6 := jK 0 f28 rg_75_6_0_1 (by omega) (by omega) (by decide)
  have q2492 : h15 75 6 = h11 75 6 := by rw [← e17]; exact x_up_i (by omega)
  have q2493 : h11 75 6 = h7 75 6 := by rw [← e13]; exact x_up_i (by omega)
  have q2494 : h7 75 6 = 2147483648 := by rw [← e9]; exact x_up_at
  have b2495 := jB (e := 0) 0 hJ rg_78_0_0_1 (by omega) (by omega)
  have q2496 : h26 78 0 = h15 78 0 := jK 0 f28 rg_78_0_0_1 (by omega) (by omega) (by decide)
  have q2497 : h15 78 0 = h11 78 0 := by rw [← e17]; exact x_up_k (by decide)
  have q2498 : h11 78 0 = h7 78 0 := by rw [← e13]; exact x_up_k (by decide)
  have q2499 : h7 78 0 = h3 78 0 := by rw [← e9]; exact x_up_k (by decide)
  have q2500 : h3 78 0 = h 78 0 := by rw [← e5]; exact x_up_k (by decide)
  have q2501 : h26 78 1 = h15 78 1 := jK 0 f28 rg_78_1_0_1 (by omega) (by omega) (by decide)
  have q2502 : h15 78 1 = h11 78 1 := by rw [← e17]; exact x_up_k (by decide)
  have q2503 : h11 78 1 = h7 78 1 := by rw [← e13]; exact x_up_k (by decide)
  have q2504 : h7 78 1 = h3 78 1 := by rw [← e9]; exact x_up_k (by decide)
  have q2505 : h3 78 1 = h 78 1 := by rw [← e5]; exact x_up_k (by decide)
  have m2510 : Cl h3 := by rw [← e5]; exact Cl.oth hC (by decide)
  have m2509 : Cl h7 := by rw [← e9]; exact Cl.oth m2510 (by decide)
  have m2508 : Cl h11 := by rw [← e13]; exact Cl.oth m2509 (by decide)
  have m2507 : Cl h15 := by rw [← e17]; exact Cl.oth m2508 (by decide)
  have m2506 := Cl.fr m2507 f28 (by decide)
  have b2511 := jB (e := 2) 0 hJ rg_78_2_0_1 (by omega) (by omega)
  have q2512 : h26 78 2 = h15 78 2 := jK 0 f28 rg_78_2_0_1 (by omega) (by omega) (by decide)
  have q2513 : h15 78 2 = h11 78 2 := by rw [← e17]; exact x_up_k (by decide)
  have q2514 : h11 78 2 = h7 78 2 := by rw [← e13]; exact x_up_k (by decide)
  have q2515 : h7 78 2 = h3 78 2 := by rw [← e9]; exact x_up_k (by decide)
  have q2516 : h3 78 2 = h 78 2 := by rw [← e5]; exact x_up_k (by decide)
  have b2517 := jB (e := 3) 0 hJ rg_78_3_0_1 (by omega) (by omega)
  have q2518 : h26 78 3 = h15 78 3 := jK 0 f28 rg_78_3_0_1 (by omega) (by omega) (by decide)
  have q2519 : h15 78 3 = h11 78 3 := by rw [← e17]; exact x_up_k (by decide)
  have q2520 : h11 78 3 = h7 78 3 := by rw [← e13]; exact x_up_k (by decide)
  have q2521 : h7 78 3 = h3 78 3 := by rw [← e9]; exact x_up_k (by decide)
  have q2522 : h3 78 3 = h 78 3 := by rw [← e5]; exact x_up_k (by decide)
  have b2523 := jB (e := 4) 0 hJ rg_78_4_0_1 (by omega) (by omega)
  have q2524 : h26 78 4 = h15 78 4 := jK 0 f28 rg_78_4_0_1 (by omega) (by omega) (by decide)
  have q2525 : h15 78 4 = h11 78 4 := by rw [← e17]; exact x_up_k (by decide)
  have q2526 : h11 78 4 = h7 78 4 := by rw [← e13]; exact x_up_k (by decide)
  have q2527 : h7 78 4 = h3 78 4 := by rw [← e9]; exact x_up_k (by decide)
  have q2528 : h3 78 4 = h 78 4 := by rw [← e5]; exact x_up_k (by decide)
  have b2529 := jB (e := 5) 0 hJ rg_78_5_0_1 (by omega) (by omega)
  have q2530 : h26 78 5 = h15 78 5 := jK 0 f28 rg_78_5_0_1 (by omega) (by omega) (by decide)
  have q2531 : h15 78 5 = h11 78 5 := by rw [← e17]; exact x_up_k (by decide)
  have q2532 : h11 78 5 = h7 78 5 := by rw [← e13]; exact x_up_k (by decide)
  have q2533 : h7 78 5 = h3 78 5 := by rw [← e9]; exact x_up_k (by decide)
  have q2534 : h3 78 5 = h 78 5 := by rw [← e5]; exact x_up_k (by decide)
  have q2535 : h15 75 7 = h11 75 7 := by rw [← e17]; exact x_up_i (by omega)
  have q2536 : h11 75 7 = 2147483648 := by rw [← e13]; exact x_up_at
  have q2537 : h26 75 8 = h15 75 8 := jK 0 f28 rg_75_8_0_1 (by omega) (by omega) (by decide)
  have q2538 : h15 75 8 = h11 75 8 := by rw [← e17]; exact x_up_i (by omega)
  have q2539 : h11 75 8 = h7 75 8 := by rw [← e13]; exact x_up_i (by omega)
  have q2540 : h7 75 8 = h3 75 8 := by rw [← e9]; exact x_up_i (by omega)
  have q2541 : h3 75 8 = (h 75 6) := by rw [← e5]; exact x_up_at
  have m2543 := Tq.fr m22 f28 (by decide) (by decide)
  have z2542 := m2543.1
  refine x_retI (np := 40) (x := 0) (by decide +kernel) (by decide) (Or.inl (by decide +kernel)) ⟨_, rfl, (by decide), ?_⟩
  exact ⟨j27, f34, (by omega), (by omega), (fun z => by omega), (fun z => by omega), (fun _ => m2506), (Tt.r1 (by omega) (Tt.nil (Eq.trans c33 (congrArg (sk tB tN) (show h15 75 7 = 2147483648 by omega))) (by omega) rfl) (by omega) (by omega) (by omega) (by omega))⟩
set_option maxHeartbeats 0 in
/-- LentNamesModel.tell()I -/
theorem c195_75 {sc : Nat × Nat} {d  : Nat} {h : xh} {tB : Nat → Nat} {tN : Nat} (hJ : J h) (hr0 : (h 76 1) ≤ 2147483658) (hW : WT 76 h) (hT : Tr tB tN h) : X sc 195 (d + 9) (xI fun r h' => J h' ∧ Fr 2814750093869057 h h' ∧ (1 ≤ r ∧ r ≤ 2147483658) ∧ (h' 75 6 = 2147483648) ∧ WT 76 h' ∧ Tf tB tN h h' r) 0 0 0 [x_r 75, 147573952589676412928, 147573952589676412928] [] h := by
  have hF := Fr.refl 2814750093869057 h
  refine x_aload (np := 1) (x := 0) (by decide +kernel) rfl (x_nc_le (by decide)) ?_
  refine x_const (np := 2) (x := 9223372039002259456) (a := 2147483648) (by decide +kernel) (by decide) (by decide) ?_
  refine x_putI (np := 5) (x := 704) (f := 0) (by decide +kernel) (by decide +kernel) (by decide) (Or.inl (by decide)) ?_
  have j2 := jU (e := 0) (v := 2147483648) 0 hJ rg_75_0_0_1 (by omega) (by omega) (by omega)
  have f4 := jF (e := 0) (v := 2147483648) 0 hF rg_75_0_0_1 (by omega) (by omega) (by decide)
  generalize e3 : x_up h 75 0 2147483648 = h1 at j2 f4 ⊢
  refine x_const (np := 6) (x := 9223372039002259456) (a := 2147483648) (by decide +kernel) (by decide) (by decide) ?_
  refine x_istore (np := 7) (x := 1) (lo' := [x_r 75, iv_c 2147483648, 147573952589676412928]) (by decide +kernel) (by decide) (Nat.le_of_ble_eq_true rfl) rfl ?_
  have p366 : ∀ (n : Nat) (v361 : Nat) (h363 : xh), 4294967296 - v361 < n → (2147483648 ≤ v361 ∧ v361 ≤ 2147483938) → J h363 → Fr 268435456 h1 h363 → Clp (v361 - 2147483648) h363 → Cpa 78 76 h1 h363 (v361 - 2147483648) → X sc 195 (d + 9) (xI fun r h' => J h' ∧ Fr 2814750093869057 h h' ∧ (1 ≤ r ∧ r ≤ 2147483658) ∧ (h' 75 6 = 2147483648) ∧ WT 76 h' ∧ Tf tB tN h h' r) 0 0 7 [x_r 75, iv_c v361, 147573952589676412928] [] h363 := by
    intro n
    induction n with
    | zero => intro v361 h363 q369; exact absurd q369 (Nat.not_lt_zero _)
    | succ n i370 =>
      intro v361 h363 q369 b362 j365 f364 m368 m367
      have f371 := Fr.trans f4 f364 (by decide)
      refine x_iload (np := 8) (x := 1) (by decide +kernel) rfl (by omega) ?_
      refine x_const (np := 11) (x := 9223373284542775586) (a := 2147483938) (by decide +kernel) (by decide) (by decide) ?_
      refine x_icmp (k := 3) (tg := 32) (np := 14) (by decide +kernel) (by decide) (by omega) (by decide) (fun q372 => ?_) (fun q373 => ?_)
      · have q372 : 2147483938 ≤ v361 := q372
        refine x_aload (np := 33) (x := 0) (by decide +kernel) rfl (x_nc_le (by decide)) ?_
        refine x_const (np := 34) (x := 9223372043297226753) (a := 2147483649) (by decide +kernel) (by decide) (by decide) ?_
        have m377 : Cl h363 := Clp.cl m368 (by omega)
        have m379 : Tr tB tN h1 := by rw [← e3]; exact Tr.oth hT (by decide) (by decide)
        have m378 := Tr.fr m379 f364 (by decide) (by decide)
        refine x_cI (t := 6) (mj := 194) (n := 2) (rc := 12) (ml := 3) (nr := 0) (np := 37) (as := [x_r 75, iv_c 2147483649]) (rest := []) (lo1 := [x_r 75, iv_c 2147483649, 147573952589676412928]) (by decide +kernel) (by decide) (by decide +kernel) (x_rb_of (by decide +kernel)) rfl rfl (x_wr (by decide) (x_wi (by decide) x_wn)) x_wn (by decide) rfl (c194_75_c1 j365   m377 m378) (fun v374 h380 l375 q376 => ?_)
        obtain ⟨j381, f382, b383, c384, c385, c386, c387, c388⟩ := q376
        have f389 := Fr.trans f371 f382 (by decide)
        have b390 := jB (e := 6) 0 j381 rg_75_6_0_1 (by omega) (by omega)
        have b391 := jB (e := 0) 0 j365 rg_78_0_0_1 (by omega) (by omega)
        have b392 := jB (e := 0) 0 j381 rg_78_0_0_1 (by omega) (by omega)
        refine x_istore (np := 38) (x := 1) (lo' := [x_r 75, iv_c v374, 147573952589676412928]) (by decide +kernel) l375 (Nat.le_of_ble_eq_true rfl) rfl ?_
        refine x_aload (np := 39) (x := 0) (by decide +kernel) rfl (x_nc_le (by decide)) ?_
        refine x_iload (np := 40) (x := 1) (by decide +kernel) rfl l375 ?_
        refine x_ifz (k := 3) (tg := 50) (np := 43) (by decide +kernel) (by decide) l375 (fun q393 => ?_) (fun q394 => ?_)
        · have q393 : 2147483648 ≤ v374 := q393
          have b395 := c385 (by omega)
          have b396 := c386 (by omega)
          have m397 := c387 (by omega)
          refine x_const (np := 51) (x := 9223372034707292159) (a := 2147483647) (by decide +kernel) (by decide) (by decide) ?_
          refine x_putI (np := 54) (x := 715) (f := 11) (by decide +kernel) (by decide +kernel) (by decide) (Or.inl (by decide)) ?_
          have j399 := jU (e := 11) (v := 2147483647) 0 j381 rg_75_11_0_1 (by omega) (by omega) (by omega)
          have f401 := jF (e := 11) (v := 2147483647) 0 f389 rg_75_11_0_1 (by omega) (by omega) (by decide)
          generalize e400 : x_up h380 75 11 2147483647 = h398 at j399 f401 ⊢
          refine x_aload (np := 55) (x := 0) (by decide +kernel) rfl (x_nc_le (by decide)) ?_
          refine x_iload (np := 56) (x := 1) (by decide +kernel) rfl l375 ?_
          refine x_ifz (k := 3) (tg := 63) (np := 59) (by decide +kernel) (by decide) l375 (fun q402 => ?_) (fun q403 => ?_)
          · have q402 : 2147483648 ≤ v374 := q402
            refine x_const (np := 64) (x := 9223372039002259456) (a := 2147483648) (by decide +kernel) (by decide) (by decide) ?_
            refine x_const (np := 65) (x := 9223372043297226753) (a := 2147483649) (by decide +kernel) (by decide) (by decide) ?_
            refine x_nI (t := 6) (mj := 152) (n := 3) (rc := 12) (ml := 3) (nr := 0) (np := 68) (as := [x_r 75, iv_c 2147483648, iv_c 2147483649]) (rest := []) (lo1 := [x_r 75, iv_c 2147483648, iv_c 2147483649]) (by decide +kernel) (by decide) (by decide +kernel) (x_rb_of (by decide +kernel)) rfl rfl (x_wr (by decide) (x_wi (by decide) (x_wi (by decide) x_wn))) x_wn (by decide) rfl ?_
            refine x_iload (np := 1) (x := 1) (by decide +kernel) rfl (by decide) ?_
            refine x_ifz (k := 0) (tg := 9) (np := 4) (by decide +kernel) (by decide) (by decide) (fun q404 => ?_) (fun q405 => ?_)
            · have q404 : 2147483648 = 2147483648 := q404
              refine x_iload (np := 10) (x := 1) (by decide +kernel) rfl (by decide) ?_
              refine x_retI (np := 11) (x := 0) (by decide +kernel) (by decide) (Or.inr ⟨by decide +kernel, by omega, by omega⟩) ⟨_, rfl, (by decide), ?_⟩
              refine x_ifz (k := 1) (tg := 95) (np := 71) (by decide +kernel) (by decide) (by decide) (fun q406 => ?_) (fun q407 => ?_)
              · have q406 : 2147483648 ≠ 2147483648 := q406
                exfalso; omega
              have q407 : ¬ (2147483648 ≠ 2147483648) := q407
              refine x_aload (np := 72) (x := 0) (by decide +kernel) rfl (x_nc_le (by decide)) ?_
              refine x_aload (np := 73) (x := 0) (by decide +kernel) rfl (x_nc_le (by decide)) ?_
              have q408 : h398 75 1 = 76 := by have z := jB (e := 1) 0 j399 rg_75_1_0_1 (by decide) (by decide); omega
              refine x_getR (np := 76) (x := 705) (f := 1) (q := 76) (by decide +kernel) (by decide) (by decide +kernel) q408 ?_
              refine x_const (np := 77) (x := 9223372043297226753) (a := 2147483649) (by decide +kernel) (by decide) (by decide) ?_
              have q409 : h398 76 1 = h380 76 1 := by rw [← e400]; exact x_up_k (by decide)
              have q410 : h380 76 1 = h363 76 1 := jK 0 f382 rg_76_1_0_1 (by omega) (by omega) (by decide)
              have q411 : h363 76 1 = h1 76 1 := jK 0 f364 rg_76_1_0_1 (by omega) (by omega) (by decide)
              have q412 : h1 76 1 = h 76 1 := by rw [← e3]; exact x_up_k (by decide)
              refine x_aldC (np := 78) (x := 0) (n := 1952) (i := 1) (q := (h 76 1)) (by decide +kernel) (by decide +kernel) (by omega) (by omega) (by decide) (((q409.trans q410).trans q411).trans q412) (fun l413 => ?_)
              refine x_const (np := 80) (x := 9223372081951932426) (a := 2147483658) (by decide +kernel) (by decide) (by decide) ?_
              refine x_icmp (k := 1) (tg := 87) (np := 83) (by decide +kernel) (by decide) l413 (by decide) (fun q414 => ?_) (fun q415 => ?_)
              · have q414 : (h 76 1) ≠ 2147483658 := q414
                refine x_const (np := 88) (x := 9223372039002259456) (a := 2147483648) (by decide +kernel) (by decide) (by decide) ?_
                refine x_const (np := 89) (x := 9223372047592194050) (a := 2147483650) (by decide +kernel) (by decide) (by decide) ?_
                refine x_nI (t := 6) (mj := 152) (n := 3) (rc := 12) (ml := 3) (nr := 0) (np := 92) (as := [x_r 75, iv_c 2147483648, iv_c 2147483650]) (rest := []) (lo1 := [x_r 75, iv_c 2147483648, iv_c 2147483650]) (by decide +kernel) (by decide) (by decide +kernel) (x_rb_of (by decide +kernel)) rfl rfl (x_wr (by decide) (x_wi (by decide) (x_wi (by decide) x_wn))) x_wn (by decide) rfl ?_
                refine x_iload (np := 1) (x := 1) (by decide +kernel) rfl (by decide) ?_
                refine x_ifz (k := 0) (tg := 9) (np := 4) (by decide +kernel) (by decide) (by decide) (fun q416 => ?_) (fun q417 => ?_)
                · have q416 : 2147483648 = 2147483648 := q416
                  refine x_iload (np := 10) (x := 1) (by decide +kernel) rfl (by decide) ?_
                  refine x_retI (np := 11) (x := 0) (by decide +kernel) (by decide) (Or.inr ⟨by decide +kernel, by omega, by omega⟩) ⟨_, rfl, (by decide), ?_⟩
                  refine x_ifz (k := 0) (tg := 97) (np := 95) (by decide +kernel) (by decide) (by decide) (fun q418 => ?_) (fun q419 => ?_)
                  · have q418 : 2147483648 = 2147483648 := q418
                    refine x_const (np := 98) (x := 9223372039002259456) (a := 2147483648) (by decide +kernel) (by decide) (by decide) ?_
                    refine x_istore (np := 99) (x := 2) (lo' := [x_r 75, iv_c v374, iv_c 2147483648]) (by decide +kernel) (by decide) (Nat.le_of_ble_eq_true rfl) rfl ?_
                    have p821 : ∀ (n : Nat) (v816 : Nat) (h818 : xh), 4294967296 - v816 < n → (2147483648 ≤ v816 ∧ v816 ≤ 2147483938) → J h818 → Fr 2814749800660992 h398 h818 → WT 76 h818 → Cpa 76 78 h398 h818 (v816 - 2147483648) → X sc 195 (d + 9) (xI fun r h' => J h' ∧ Fr 2814750093869057 h h' ∧ (1 ≤ r ∧ r ≤ 2147483658) ∧ (h' 75 6 = 2147483648) ∧ WT 76 h' ∧ Tf tB tN h h' r) 0 0 99 [x_r 75, iv_c v374, iv_c v816] [] h818 := by
                      intro n
                      induction n with
                      | zero => intro v816 h818 q824; exact absurd q824 (Nat.not_lt_zero _)
                      | succ n i825 =>
                        intro v816 h818 q824 b817 j820 f819 m822 m823
                        have f826 := Fr.trans f401 f819 (by decide)
                        refine x_iload (np := 100) (x := 2) (by decide +kernel) rfl (by omega) ?_
                        refine x_const (np := 103) (x := 9223373284542775586) (a := 2147483938) (by decide +kernel) (by decide) (by decide) ?_
                        refine x_icmp (k := 3) (tg := 124) (np := 106) (by decide +kernel) (by decide) (by omega) (by decide) (fun q827 => ?_) (fun q828 => ?_)
                        · have q827 : 2147483938 ≤ v816 := q827
                          have q830 : h1 76 1 = h 76 1 := by rw [← e3]; exact x_up_k (by decide)
                          have z829 := m367 1 (by omega)
                          have q832 : h398 78 1 = h380 78 1 := by rw [← e400]; exact x_up_k (by decide)
                          have z831 := m823 1 (by omega)
                          refine x_aload (np := 125) (x := 0) (by decide +kernel) rfl (x_nc_le (by decide)) ?_
                          have q833 : h818 75 1 = 76 := by have z := jB (e := 1) 0 j820 rg_75_1_0_1 (by decide) (by decide); omega
                          refine x_getR (np := 128) (x := 705) (f := 1) (q := 76) (by decide +kernel) (by decide) (by decide +kernel) q833 ?_
                          refine x_const (np := 129) (x := 9223372043297226753) (a := 2147483649) (by decide +kernel) (by decide) (by decide) ?_
                          refine x_dup2 (np := 130) (x := 0) (by decide +kernel) (by have z := (iw_c_lt (a := 2147483649) (by decide)).1; omega) (by have z := x_nc_le (k := 76) (by decide); unfold x_r; omega) ?_
                          refine x_aldC (np := 131) (x := 0) (n := 1952) (i := 1) (q := (h818 76 1)) (by decide +kernel) (by decide +kernel) (by omega) (by omega) (by decide) rfl (fun l834 => ?_)
                          refine x_const (np := 132) (x := 9223372043297226753) (a := 2147483649) (by decide +kernel) (by decide) (by decide) ?_
                          refine x_iadd (np := 133) (x := 0) (v := (1 + (h818 76 1))) (by decide +kernel) l834 (by decide) (by omega) (by omega) ?_
                          refine x_ast (np := 134) (x := 0) (kd := 1) (n := 1952) (i := 1) (by decide +kernel) (Or.inl rfl) (by decide +kernel) (by omega) (by omega) (by decide) (by omega) (fun z => absurd z (by decide)) ?_
                          have j836 := jU (e := 1) (v := (1 + (h818 76 1))) 0 j820 rg_76_1_0_1 (by omega) (by omega) (by omega)
                          have f838 := jF (e := 1) (v := (1 + (h818 76 1))) 0 f826 rg_76_1_0_1 (by omega) (by omega) (by decide)
                          generalize e837 : x_up h818 76 1 (1 + (h818 76 1)) = h835 at j836 f838 ⊢
                          refine x_aload (np := 135) (x := 0) (by decide +kernel) rfl (x_nc_le (by decide)) ?_
                          have q839 : h835 75 1 = 76 := by have z := jB (e := 1) 0 j836 rg_75_1_0_1 (by decide) (by decide); omega
                          refine x_getR (np := 138) (x := 705) (f := 1) (q := 76) (by decide +kernel) (by decide) (by decide +kernel) q839 ?_
                          refine x_const (np := 139) (x := 9223372043297226753) (a := 2147483649) (by decide +kernel) (by decide) (by decide) ?_
                          have q840 : h835 76 1 = (1 + (h818 76 1)) := by rw [← e837]; exact x_up_at
                          refine x_aldC (np := 140) (x := 0) (n := 1952) (i := 1) (q := (1 + (h818 76 1))) (by decide +kernel) (by decide +kernel) (by omega) (by omega) (by decide) q840 (fun l841 => ?_)
                          have q842 : h835 75 6 = h818 75 6 := by rw [← e837]; exact x_up_k (by decide)
                          have q843 : h818 75 6 = h398 75 6 := jK 0 f819 rg_75_6_0_1 (by omega) (by omega) (by decide)
                          have q844 : h398 75 6 = h380 75 6 := by rw [← e400]; exact x_up_i (by omega)
                          have m845 : WT 76 h835 := by rw [← e837]; exact WT.up m822 j820 (by omega)
                          have q846 : h1 76 0 = h 76 0 := by rw [← e3]; exact x_up_k (by decide)
                          have b847 := jB (e := 0) 0 hJ rg_76_0_0_1 (by omega) (by omega)
                          have q848 : h363 76 0 = h1 76 0 := jK 0 f364 rg_76_0_0_1 (by omega) (by omega) (by decide)
                          have q849 : h1 76 0 = h 76 0 := by rw [← e3]; exact x_up_k (by decide)
                          have z850 := m367 0 (by omega)
                          have q851 : h835 76 0 = h818 76 0 := by rw [← e837]; exact x_up_i (by omega)
                          have b852 := jB (e := 0) 0 j820 rg_76_0_0_1 (by omega) (by omega)
                          have q853 : h1 76 1 = h 76 1 := by rw [← e3]; exact x_up_k (by decide)
                          have q854 : h363 76 1 = h1 76 1 := jK 0 f364 rg_76_1_0_1 (by omega) (by omega) (by decide)
                          have q855 : h1 76 1 = h 76 1 := by rw [← e3]; exact x_up_k (by decide)
                          have z856 := m367 1 (by omega)
                          have q857 : h835 76 1 = (1 + (h818 76 1)) := by rw [← e837]; exact x_up_at
                          have b858 := jB (e := 2) 0 j365 rg_78_2_0_1 (by omega) (by omega)
                          have q859 : h1 76 2 = h 76 2 := by rw [← e3]; exact x_up_k (by decide)
                          have b860 := jB (e := 2) 0 hJ rg_76_2_0_1 (by omega) (by omega)
                          have q861 : h363 76 2 = h1 76 2 := jK 0 f364 rg_76_2_0_1 (by omega) (by omega) (by decide)
                          have q862 : h1 76 2 = h 76 2 := by rw [← e3]; exact x_up_k (by decide)
                          have z863 := m367 2 (by omega)
                          have q864 : h835 76 2 = h818 76 2 := by rw [← e837]; exact x_up_i (by omega)
                          have b865 := jB (e := 2) 0 j820 rg_76_2_0_1 (by omega) (by omega)
                          have b866 := jB (e := 2) 0 j381 rg_78_2_0_1 (by omega) (by omega)
                          have b867 := jB (e := 3) 0 j365 rg_78_3_0_1 (by omega) (by omega)
                          have q868 : h1 76 3 = h 76 3 := by rw [← e3]; exact x_up_k (by decide)
                          have b869 := jB (e := 3) 0 hJ rg_76_3_0_1 (by omega) (by omega)
                          have q870 : h363 76 3 = h1 76 3 := jK 0 f364 rg_76_3_0_1 (by omega) (by omega) (by decide)
                          have q871 : h1 76 3 = h 76 3 := by rw [← e3]; exact x_up_k (by decide)
                          have z872 := m367 3 (by omega)
                          have q873 : h835 76 3 = h818 76 3 := by rw [← e837]; exact x_up_i (by omega)
                          have b874 := jB (e := 3) 0 j820 rg_76_3_0_1 (by omega) (by omega)
                          have b875 := jB (e := 3) 0 j381 rg_78_3_0_1 (by omega) (by omega)
                          have b876 := jB (e := 4) 0 j365 rg_78_4_0_1 (by omega) (by omega)
                          have q877 : h1 76 4 = h 76 4 := by rw [← e3]; exact x_up_k (by decide)
                          have b878 := jB (e := 4) 0 hJ rg_76_4_0_1 (by omega) (by omega)
                          have q879 : h363 76 4 = h1 76 4 := jK 0 f364 rg_76_4_0_1 (by omega) (by omega) (by decide)
                          have q880 : h1 76 4 = h 76 4 := by rw [← e3]; exact x_up_k (by decide)
                          have z881 := m367 4 (by omega)
                          have q882 : h835 76 4 = h818 76 4 := by rw [← e837]; exact x_up_i (by omega)
                          have b883 := jB (e := 4) 0 j820 rg_76_4_0_1 (by omega) (by omega)
                          have b884 := jB (e := 4) 0 j381 rg_78_4_0_1 (by omega) (by omega)
                          have b885 := jB (e := 5) 0 j365 rg_78_5_0_1 (by omega) (by omega)
                          have q886 : h1 76 5 = h 76 5 := by rw [← e3]; exact x_up_k (by decide)
                          have b887 := jB (e := 5) 0 hJ rg_76_5_0_1 (by omega) (by omega)
                          have q888 : h363 76 5 = h1 76 5 := jK 0 f364 rg_76_5_0_1 (by omega) (by omega) (by decide)
                          have q889 : h1 76 5 = h 76 5 := by rw [← e3]; exact x_up_k (by decide)
                          have z890 := m367 5 (by omega)
                          have q891 : h835 76 5 = h818 76 5 := by rw [← e837]; exact x_up_i (by omega)
                          have b892 := jB (e := 5) 0 j820 rg_76_5_0_1 (by omega) (by omega)
                          have b893 := jB (e := 5) 0 j381 rg_78_5_0_1 (by omega) (by omega)
                          have q894 : h835 75 0 = h818 75 0 := by rw [← e837]; exact x_up_k (by decide)
                          have q895 : h818 75 0 = h398 75 0 := jK 0 f819 rg_75_0_0_1 (by omega) (by omega) (by decide)
                          have q896 : h398 75 0 = h380 75 0 := by rw [← e400]; exact x_up_i (by omega)
                          have q897 : h380 75 0 = h363 75 0 := jK 0 f382 rg_75_0_0_1 (by omega) (by omega) (by decide)
                          have q898 : h363 75 0 = h1 75 0 := jK 0 f364 rg_75_0_0_1 (by omega) (by omega) (by decide)
                          have q899 : h1 75 0 = 2147483648 := by rw [← e3]; exact x_up_at
                          have c900 := Tt.cast (pe' := h 76 0) (l1 := h 76 2) (t1 := h 76 3) (d1 := h 76 4) (s1 := h 76 5) c388 (by omega) (by omega) (by omega) (by omega) (by omega)
                          have q901 : h398 78 0 = h380 78 0 := by rw [← e400]; exact x_up_k (by decide)
                          have z902 := m823 0 (by omega)
                          have q903 : h398 78 1 = h380 78 1 := by rw [← e400]; exact x_up_k (by decide)
                          have z904 := m823 1 (by omega)
                          have q905 : h398 78 2 = h380 78 2 := by rw [← e400]; exact x_up_k (by decide)
                          have z906 := m823 2 (by omega)
                          have q907 : h398 78 3 = h380 78 3 := by rw [← e400]; exact x_up_k (by decide)
                          have z908 := m823 3 (by omega)
                          have q909 : h398 78 4 = h380 78 4 := by rw [← e400]; exact x_up_k (by decide)
                          have z910 := m823 4 (by omega)
                          have q911 : h398 78 5 = h380 78 5 := by rw [← e400]; exact x_up_k (by decide)
                          have z912 := m823 5 (by omega)
                          refine x_retI (np := 141) (x := 0) (by decide +kernel) (by omega) (Or.inl (by decide +kernel)) ⟨_, rfl, (by omega), ?_⟩
                          exact ⟨j836, f838, (by omega), (by omega), m845, (Or.inl ⟨by omega, Tt.somer c900 (by omega) (by omega) (by omega) (by omega) (by omega), by omega, by omega, by omega, by omega⟩)⟩
                        have q828 : ¬ (2147483938 ≤ v816) := q828
                        refine x_aload (np := 107) (x := 0) (by decide +kernel) rfl (x_nc_le (by decide)) ?_
                        have q913 : h818 75 1 = 76 := by have z := jB (e := 1) 0 j820 rg_75_1_0_1 (by decide) (by decide); omega
                        refine x_getR (np := 110) (x := 705) (f := 1) (q := 76) (by decide +kernel) (by decide) (by decide +kernel) q913 ?_
                        refine x_iload (np := 111) (x := 2) (by decide +kernel) rfl (by omega) ?_
                        refine x_aload (np := 112) (x := 0) (by decide +kernel) rfl (x_nc_le (by decide)) ?_
                        have q914 : h818 75 3 = 78 := by have z := jB (e := 3) 0 j820 rg_75_3_0_1 (by decide) (by decide); omega
                        refine x_getR (np := 115) (x := 707) (f := 3) (q := 78) (by decide +kernel) (by decide) (by decide +kernel) q914 ?_
                        refine x_iload (np := 116) (x := 2) (by decide +kernel) rfl (by omega) ?_
                        obtain ⟨u915, q916⟩ : ∃ z, v816 = 2147483648 + z := ⟨v816 - 2147483648, by omega⟩
                        refine x_aldC (np := 117) (x := 0) (n := 290) (i := u915) (q := (h818 78 u915)) (by decide +kernel) (by decide +kernel) (by omega) (by omega) (by decide) rfl (fun l917 => ?_)
                        refine x_ast (np := 118) (x := 0) (kd := 1) (n := 1952) (i := u915) (by decide +kernel) (Or.inl rfl) (by decide +kernel) (by omega) (by omega) (by decide) l917 (fun z => absurd z (by decide)) ?_
                        have m922 : Cl h398 := by rw [← e400]; exact Cl.oth m397 (by decide)
                        have m921 := Cl.fr m922 f819 (by decide)
                        have j919 := clJ (e := u915) (v := (h818 78 u915)) j820 m921 (by omega) rfl
                        have f923 := clF (e := u915) (v := (h818 78 u915)) f826 (by omega) (by decide) (by decide) (by decide)
                        have f924 := clF (e := u915) (v := (h818 78 u915)) f819 (by omega) (by decide) (by decide) (by decide)
                        generalize e920 : x_up h818 76 u915 (h818 78 u915) = h918 at j919 f923 f924 ⊢
                        refine x_iinc (np := 121) (i := 2) (j := 2147483649) (v := (1 + v816)) (lo' := [x_r 75, iv_c v374, iv_c (1 + v816)]) (by decide +kernel) (by decide) (by decide) rfl (by omega) (by omega) (by omega) rfl ?_
                        refine x_goto (np := 124) (x := 99) (by decide +kernel) ?_
                        have m925 : WT 76 h918 := by rw [← e920]; exact WT.up m822 j820 (by omega)
                        have m926 : Cpa 76 78 h398 h918 ((1 + v816) - 2147483648) := by
                          have e0 : v816 - 2147483648 = u915 := by omega
                          have e9 : (1 + v816) = 2147483648 + (u915 + 1) := by omega
                          have e1 : (1 + v816) - 2147483648 = u915 + 1 := by rw [e9]; exact Nat.add_sub_cancel_left _ _
                          have p9 := m823
                          rw [e0] at p9
                          rw [e1, ← e920]
                          exact Cpa.step p9 (f819 78 u915 (by rw [cl_gr]; decide))
                        exact i825 (1 + v816) h918 (by omega) (by omega) j919 f924 m925 m926
                    have m930 : WT 76 h1 := by rw [← e3]; exact WT.oth hW hJ (by decide)
                    have m929 := WT.fr m930 j2 f364 (by decide)
                    have m928 := WT.fr m929 j365 f382 (by decide)
                    have m927 : WT 76 h398 := by rw [← e400]; exact WT.oth m928 j381 (by decide)
                    exact p821 _ 2147483648 h398 (Nat.lt_succ_self _) (by omega) j399 (Fr.refl _ _) m927 Cpa.zero
                  have q419 : ¬ (2147483648 = 2147483648) := q419
                  exfalso; omega
                have q417 : ¬ (2147483648 = 2147483648) := q417
                exfalso; omega
              have q415 : ¬ ((h 76 1) ≠ 2147483658) := q415
              refine x_const (np := 84) (x := 9223372043297226753) (a := 2147483649) (by decide +kernel) (by decide) (by decide) ?_
              refine x_goto (np := 87) (x := 88) (by decide +kernel) ?_
              refine x_const (np := 89) (x := 9223372047592194050) (a := 2147483650) (by decide +kernel) (by decide) (by decide) ?_
              refine x_nI (t := 6) (mj := 152) (n := 3) (rc := 12) (ml := 3) (nr := 0) (np := 92) (as := [x_r 75, iv_c 2147483649, iv_c 2147483650]) (rest := []) (lo1 := [x_r 75, iv_c 2147483649, iv_c 2147483650]) (by decide +kernel) (by decide) (by decide +kernel) (x_rb_of (by decide +kernel)) rfl rfl (x_wr (by decide) (x_wi (by decide) (x_wi (by decide) x_wn))) x_wn (by decide) rfl ?_
              refine x_iload (np := 1) (x := 1) (by decide +kernel) rfl (by decide) ?_
              refine x_ifz (k := 0) (tg := 9) (np := 4) (by decide +kernel) (by decide) (by decide) (fun q931 => ?_) (fun q932 => ?_)
              · have q931 : 2147483649 = 2147483648 := q931
                exfalso; omega
              have q932 : ¬ (2147483649 = 2147483648) := q932
              refine x_aload (np := 5) (x := 0) (by decide +kernel) rfl (x_nc_le (by decide)) ?_
              refine x_iload (np := 6) (x := 2) (by decide +kernel) rfl (by decide) ?_
              refine x_putI (np := 9) (x := 704) (f := 0) (by decide +kernel) (by decide +kernel) (by decide) (Or.inl (by decide)) ?_
              have j934 := jU (e := 0) (v := 2147483650) 0 j399 rg_75_0_0_1 (by omega) (by omega) (by omega)
              have f936 := jF (e := 0) (v := 2147483650) 0 f401 rg_75_0_0_1 (by omega) (by omega) (by decide)
              generalize e935 : x_up h398 75 0 2147483650 = h933 at j934 f936 ⊢
              refine x_iload (np := 10) (x := 1) (by decide +kernel) rfl (by decide) ?_
              refine x_retI (np := 11) (x := 0) (by decide +kernel) (by decide) (Or.inr ⟨by decide +kernel, by omega, by omega⟩) ⟨_, rfl, (by decide), ?_⟩
              refine x_ifz (k := 0) (tg := 97) (np := 95) (by decide +kernel) (by decide) (by decide) (fun q937 => ?_) (fun q938 => ?_)
              · have q937 : 2147483649 = 2147483648 := q937
                exfalso; omega
              have q938 : ¬ (2147483649 = 2147483648) := q938
              refine x_const (np := 96) (x := 9223372039002259456) (a := 2147483648) (by decide +kernel) (by decide) (by decide) ?_
              have q939 : h933 75 6 = h398 75 6 := by rw [← e935]; exact x_up_i (by omega)
              have q940 : h398 75 6 = h380 75 6 := by rw [← e400]; exact x_up_i (by omega)
              have m945 : WT 76 h1 := by rw [← e3]; exact WT.oth hW hJ (by decide)
              have m944 := WT.fr m945 j2 f364 (by decide)
              have m943 := WT.fr m944 j365 f382 (by decide)
              have m942 : WT 76 h398 := by rw [← e400]; exact WT.oth m943 j381 (by decide)
              have m941 : WT 76 h933 := by rw [← e935]; exact WT.oth m942 j399 (by decide)
              have q946 : h1 76 0 = h 76 0 := by rw [← e3]; exact x_up_k (by decide)
              have b947 := jB (e := 0) 0 hJ rg_76_0_0_1 (by omega) (by omega)
              have q948 : h363 76 0 = h1 76 0 := jK 0 f364 rg_76_0_0_1 (by omega) (by omega) (by decide)
              have q949 : h1 76 0 = h 76 0 := by rw [← e3]; exact x_up_k (by decide)
              have z950 := m367 0 (by omega)
              have q951 : h933 76 0 = h398 76 0 := by rw [← e935]; exact x_up_k (by decide)
              have q952 : h398 76 0 = h380 76 0 := by rw [← e400]; exact x_up_k (by decide)
              have q953 : h380 76 0 = h363 76 0 := jK 0 f382 rg_76_0_0_1 (by omega) (by omega) (by decide)
              have q954 : h363 76 0 = h1 76 0 := jK 0 f364 rg_76_0_0_1 (by omega) (by omega) (by decide)
              have q955 : h1 76 0 = h 76 0 := by rw [← e3]; exact x_up_k (by decide)
              have q956 : h1 76 1 = h 76 1 := by rw [← e3]; exact x_up_k (by decide)
              have q957 : h363 76 1 = h1 76 1 := jK 0 f364 rg_76_1_0_1 (by omega) (by omega) (by decide)
              have q958 : h1 76 1 = h 76 1 := by rw [← e3]; exact x_up_k (by decide)
              have z959 := m367 1 (by omega)
              have q960 : h933 76 1 = h398 76 1 := by rw [← e935]; exact x_up_k (by decide)
              have q961 : h398 76 1 = h380 76 1 := by rw [← e400]; exact x_up_k (by decide)
              have q962 : h380 76 1 = h363 76 1 := jK 0 f382 rg_76_1_0_1 (by omega) (by omega) (by decide)
              have q963 : h363 76 1 = h1 76 1 := jK 0 f364 rg_76_1_0_1 (by omega) (by omega) (by decide)
              have q964 : h1 76 1 = h 76 1 := by rw [← e3]; exact x_up_k (by decide)
              have b965 := jB (e := 2) 0 j365 rg_78_2_0_1 (by omega) (by omega)
              have q966 : h1 76 2 = h 76 2 := by rw [← e3]; exact x_up_k (by decide)
              have b967 := jB (e := 2) 0 hJ rg_76_2_0_1 (by omega) (by omega)
              have q968 : h363 76 2 = h1 76 2 := jK 0 f364 rg_76_2_0_1 (by omega) (by omega) (by decide)
              have q969 : h1 76 2 = h 76 2 := by rw [← e3]; exact x_up_k (by decide)
              have z970 := m367 2 (by omega)
              have q971 : h933 76 2 = h398 76 2 := by rw [← e935]; exact x_up_k (by decide)
              have q972 : h398 76 2 = h380 76 2 := by rw [← e400]; exact x_up_k (by decide)
              have q973 : h380 76 2 = h363 76 2 := jK 0 f382 rg_76_2_0_1 (by omega) (by omega) (by decide)
              have q974 : h363 76 2 = h1 76 2 := jK 0 f364 rg_76_2_0_1 (by omega) (by omega) (by decide)
              have q975 : h1 76 2 = h 76 2 := by rw [← e3]; exact x_up_k (by decide)
              have b976 := jB (e := 2) 0 j381 rg_78_2_0_1 (by omega) (by omega)
              have b977 := jB (e := 3) 0 j365 rg_78_3_0_1 (by omega) (by omega)
              have q978 : h1 76 3 = h 76 3 := by rw [← e3]; exact x_up_k (by decide)
              have b979 := jB (e := 3) 0 hJ rg_76_3_0_1 (by omega) (by omega)
              have q980 : h363 76 3 = h1 76 3 := jK 0 f364 rg_76_3_0_1 (by omega) (by omega) (by decide)
              have q981 : h1 76 3 = h 76 3 := by rw [← e3]; exact x_up_k (by decide)
              have z982 := m367 3 (by omega)
              have q983 : h933 76 3 = h398 76 3 := by rw [← e935]; exact x_up_k (by decide)
              have q984 : h398 76 3 = h380 76 3 := by rw [← e400]; exact x_up_k (by decide)
              have q985 : h380 76 3 = h363 76 3 := jK 0 f382 rg_76_3_0_1 (by omega) (by omega) (by decide)
              have q986 : h363 76 3 = h1 76 3 := jK 0 f364 rg_76_3_0_1 (by omega) (by omega) (by decide)
              have q987 : h1 76 3 = h 76 3 := by rw [← e3]; exact x_up_k (by decide)
              have b988 := jB (e := 3) 0 j381 rg_78_3_0_1 (by omega) (by omega)
              have b989 := jB (e := 4) 0 j365 rg_78_4_0_1 (by omega) (by omega)
              have q990 : h1 76 4 = h 76 4 := by rw [← e3]; exact x_up_k (by decide)
              have b991 := jB (e := 4) 0 hJ rg_76_4_0_1 (by omega) (by omega)
              have q992 : h363 76 4 = h1 76 4 := jK 0 f364 rg_76_4_0_1 (by omega) (by omega) (by decide)
              have q993 : h1 76 4 = h 76 4 := by rw [← e3]; exact x_up_k (by decide)
              have z994 := m367 4 (by omega)
              have q995 : h933 76 4 = h398 76 4 := by rw [← e935]; exact x_up_k (by decide)
              have q996 : h398 76 4 = h380 76 4 := by rw [← e400]; exact x_up_k (by decide)
              have q997 : h380 76 4 = h363 76 4 := jK 0 f382 rg_76_4_0_1 (by omega) (by omega) (by decide)
              have q998 : h363 76 4 = h1 76 4 := jK 0 f364 rg_76_4_0_1 (by omega) (by omega) (by decide)
              have q999 : h1 76 4 = h 76 4 := by rw [← e3]; exact x_up_k (by decide)
              have b1000 := jB (e := 4) 0 j381 rg_78_4_0_1 (by omega) (by omega)
              have b1001 := jB (e := 5) 0 j365 rg_78_5_0_1 (by omega) (by omega)
              have q1002 : h1 76 5 = h 76 5 := by rw [← e3]; exact x_up_k (by decide)
              have b1003 := jB (e := 5) 0 hJ rg_76_5_0_1 (by omega) (by omega)
              have q1004 : h363 76 5 = h1 76 5 := jK 0 f364 rg_76_5_0_1 (by omega) (by omega) (by decide)
              have q1005 : h1 76 5 = h 76 5 := by rw [← e3]; exact x_up_k (by decide)
              have z1006 := m367 5 (by omega)
              have q1007 : h933 76 5 = h398 76 5 := by rw [← e935]; exact x_up_k (by decide)
              have q1008 : h398 76 5 = h380 76 5 := by rw [← e400]; exact x_up_k (by decide)
              have q1009 : h380 76 5 = h363 76 5 := jK 0 f382 rg_76_5_0_1 (by omega) (by omega) (by decide)
              have q1010 : h363 76 5 = h1 76 5 := jK 0 f364 rg_76_5_0_1 (by omega) (by omega) (by decide)
              have q1011 : h1 76 5 = h 76 5 := by rw [← e3]; exact x_up_k (by decide)
              have b1012 := jB (e := 5) 0 j381 rg_78_5_0_1 (by omega) (by omega)
              have q1013 : h933 75 0 = 2147483650 := by rw [← e935]; exact x_up_at
              have c1014 := Tt.cast (pe' := h 76 0) (l1 := h 76 2) (t1 := h 76 3) (d1 := h 76 4) (s1 := h 76 5) c388 (by omega) (by omega) (by omega) (by omega) (by omega)
              refine x_retI (np := 97) (x := 0) (by decide +kernel) (by decide) (Or.inl (by decide +kernel)) ⟨_, rfl, (by decide), ?_⟩
              exact ⟨j934, f936, (by omega), (by omega), m941, (Or.inr (Or.inr ⟨by omega, ⟨_, Tt.somer c1014 (by omega) rfl rfl rfl rfl⟩, by omega, (six6 (by omega) (by omega) (by omega) (by omega) (by omega) (by omega))⟩))⟩
            have q405 : ¬ (2147483648 = 2147483648) := q405
            exfalso; omega
          have q403 : ¬ (2147483648 ≤ v374) := q403
          exfalso; omega
        have q394 : ¬ (2147483648 ≤ v374) := q394
        refine x_aload (np := 44) (x := 0) (by decide +kernel) rfl (x_nc_le (by decide)) ?_
        have b1015 := jB (e := 9) 0 j381 rg_75_9_0_1 (by omega) (by omega)
        refine x_getC (np := 47) (x := 713) (f := 9) (q := (h380 75 9)) (by decide +kernel) (by decide) (by decide +kernel) rfl (fun l1016 => ?_)
        refine x_goto (np := 50) (x := 51) (by decide +kernel) ?_
        refine x_putI (np := 54) (x := 715) (f := 11) (by decide +kernel) (by decide +kernel) l1016 (Or.inl (by decide)) ?_
        have j1018 := jU (e := 11) (v := (h380 75 9)) 0 j381 rg_75_11_0_1 (by omega) (by omega) (by omega)
        have f1020 := jF (e := 11) (v := (h380 75 9)) 0 f389 rg_75_11_0_1 (by omega) (by omega) (by decide)
        generalize e1019 : x_up h380 75 11 (h380 75 9) = h1017 at j1018 f1020 ⊢
        refine x_aload (np := 55) (x := 0) (by decide +kernel) rfl (x_nc_le (by decide)) ?_
        refine x_iload (np := 56) (x := 1) (by decide +kernel) rfl l375 ?_
        refine x_ifz (k := 3) (tg := 63) (np := 59) (by decide +kernel) (by decide) l375 (fun q1021 => ?_) (fun q1022 => ?_)
        · have q1021 : 2147483648 ≤ v374 := q1021
          exfalso; omega
        have q1022 : ¬ (2147483648 ≤ v374) := q1022
        refine x_const (np := 60) (x := 9223372043297226753) (a := 2147483649) (by decide +kernel) (by decide) (by decide) ?_
        refine x_goto (np := 63) (x := 64) (by decide +kernel) ?_
        refine x_const (np := 65) (x := 9223372043297226753) (a := 2147483649) (by decide +kernel) (by decide) (by decide) ?_
        refine x_nI (t := 6) (mj := 152) (n := 3) (rc := 12) (ml := 3) (nr := 0) (np := 68) (as := [x_r 75, iv_c 2147483649, iv_c 2147483649]) (rest := []) (lo1 := [x_r 75, iv_c 2147483649, iv_c 2147483649]) (by decide +kernel) (by decide) (by decide +kernel) (x_rb_of (by decide +kernel)) rfl rfl (x_wr (by decide) (x_wi (by decide) (x_wi (by decide) x_wn))) x_wn (by decide) rfl ?_
        refine x_iload (np := 1) (x := 1) (by decide +kernel) rfl (by decide) ?_
        refine x_ifz (k := 0) (tg := 9) (np := 4) (by decide +kernel) (by decide) (by decide) (fun q1023 => ?_) (fun q1024 => ?_)
        · have q1023 : 2147483649 = 2147483648 := q1023
          exfalso; omega
        have q1024 : ¬ (2147483649 = 2147483648) := q1024
        refine x_aload (np := 5) (x := 0) (by decide +kernel) rfl (x_nc_le (by decide)) ?_
        refine x_iload (np := 6) (x := 2) (by decide +kernel) rfl (by decide) ?_
        refine x_putI (np := 9) (x := 704) (f := 0) (by decide +kernel) (by decide +kernel) (by decide) (Or.inl (by decide)) ?_
        have j1026 := jU (e := 0) (v := 2147483649) 0 j1018 rg_75_0_0_1 (by omega) (by omega) (by omega)
        have f1028 := jF (e := 0) (v := 2147483649) 0 f1020 rg_75_0_0_1 (by omega) (by omega) (by decide)
        generalize e1027 : x_up h1017 75 0 2147483649 = h1025 at j1026 f1028 ⊢
        refine x_iload (np := 10) (x := 1) (by decide +kernel) rfl (by decide) ?_
        refine x_retI (np := 11) (x := 0) (by decide +kernel) (by decide) (Or.inr ⟨by decide +kernel, by omega, by omega⟩) ⟨_, rfl, (by decide), ?_⟩
        refine x_ifz (k := 1) (tg := 95) (np := 71) (by decide +kernel) (by decide) (by decide) (fun q1029 => ?_) (fun q1030 => ?_)
        · have q1029 : 2147483649 ≠ 2147483648 := q1029
          refine x_const (np := 96) (x := 9223372039002259456) (a := 2147483648) (by decide +kernel) (by decide) (by decide) ?_
          have q1031 : h1025 75 6 = h1017 75 6 := by rw [← e1027]; exact x_up_i (by omega)
          have q1032 : h1017 75 6 = h380 75 6 := by rw [← e1019]; exact x_up_i (by omega)
          have m1037 : WT 76 h1 := by rw [← e3]; exact WT.oth hW hJ (by decide)
          have m1036 := WT.fr m1037 j2 f364 (by decide)
          have m1035 := WT.fr m1036 j365 f382 (by decide)
          have m1034 : WT 76 h1017 := by rw [← e1019]; exact WT.oth m1035 j381 (by decide)
          have m1033 : WT 76 h1025 := by rw [← e1027]; exact WT.oth m1034 j1018 (by decide)
          have q1038 : h1 76 0 = h 76 0 := by rw [← e3]; exact x_up_k (by decide)
          have b1039 := jB (e := 0) 0 hJ rg_76_0_0_1 (by omega) (by omega)
          have q1040 : h363 76 0 = h1 76 0 := jK 0 f364 rg_76_0_0_1 (by omega) (by omega) (by decide)
          have q1041 : h1 76 0 = h 76 0 := by rw [← e3]; exact x_up_k (by decide)
          have z1042 := m367 0 (by omega)
          have q1043 : h1025 76 0 = h1017 76 0 := by rw [← e1027]; exact x_up_k (by decide)
          have q1044 : h1017 76 0 = h380 76 0 := by rw [← e1019]; exact x_up_k (by decide)
          have q1045 : h380 76 0 = h363 76 0 := jK 0 f382 rg_76_0_0_1 (by omega) (by omega) (by decide)
          have q1046 : h363 76 0 = h1 76 0 := jK 0 f364 rg_76_0_0_1 (by omega) (by omega) (by decide)
          have q1047 : h1 76 0 = h 76 0 := by rw [← e3]; exact x_up_k (by decide)
          have q1048 : h1 76 1 = h 76 1 := by rw [← e3]; exact x_up_k (by decide)
          have q1049 : h363 76 1 = h1 76 1 := jK 0 f364 rg_76_1_0_1 (by omega) (by omega) (by decide)
          have q1050 : h1 76 1 = h 76 1 := by rw [← e3]; exact x_up_k (by decide)
          have z1051 := m367 1 (by omega)
          have q1052 : h1025 76 1 = h1017 76 1 := by rw [← e1027]; exact x_up_k (by decide)
          have q1053 : h1017 76 1 = h380 76 1 := by rw [← e1019]; exact x_up_k (by decide)
          have q1054 : h380 76 1 = h363 76 1 := jK 0 f382 rg_76_1_0_1 (by omega) (by omega) (by decide)
          have q1055 : h363 76 1 = h1 76 1 := jK 0 f364 rg_76_1_0_1 (by omega) (by omega) (by decide)
          have q1056 : h1 76 1 = h 76 1 := by rw [← e3]; exact x_up_k (by decide)
          have b1057 := jB (e := 2) 0 j365 rg_78_2_0_1 (by omega) (by omega)
          have q1058 : h1 76 2 = h 76 2 := by rw [← e3]; exact x_up_k (by decide)
          have b1059 := jB (e := 2) 0 hJ rg_76_2_0_1 (by omega) (by omega)
          have q1060 : h363 76 2 = h1 76 2 := jK 0 f364 rg_76_2_0_1 (by omega) (by omega) (by decide)
          have q1061 : h1 76 2 = h 76 2 := by rw [← e3]; exact x_up_k (by decide)
          have z1062 := m367 2 (by omega)
          have q1063 : h1025 76 2 = h1017 76 2 := by rw [← e1027]; exact x_up_k (by decide)
          have q1064 : h1017 76 2 = h380 76 2 := by rw [← e1019]; exact x_up_k (by decide)
          have q1065 : h380 76 2 = h363 76 2 := jK 0 f382 rg_76_2_0_1 (by omega) (by omega) (by decide)
          have q1066 : h363 76 2 = h1 76 2 := jK 0 f364 rg_76_2_0_1 (by omega) (by omega) (by decide)
          have q1067 : h1 76 2 = h 76 2 := by rw [← e3]; exact x_up_k (by decide)
          have b1068 := jB (e := 2) 0 j381 rg_78_2_0_1 (by omega) (by omega)
          have b1069 := jB (e := 3) 0 j365 rg_78_3_0_1 (by omega) (by omega)
          have q1070 : h1 76 3 = h 76 3 := by rw [← e3]; exact x_up_k (by decide)
          have b1071 := jB (e := 3) 0 hJ rg_76_3_0_1 (by omega) (by omega)
          have q1072 : h363 76 3 = h1 76 3 := jK 0 f364 rg_76_3_0_1 (by omega) (by omega) (by decide)
          have q1073 : h1 76 3 = h 76 3 := by rw [← e3]; exact x_up_k (by decide)
          have z1074 := m367 3 (by omega)
          have q1075 : h1025 76 3 = h1017 76 3 := by rw [← e1027]; exact x_up_k (by decide)
          have q1076 : h1017 76 3 = h380 76 3 := by rw [← e1019]; exact x_up_k (by decide)
          have q1077 : h380 76 3 = h363 76 3 := jK 0 f382 rg_76_3_0_1 (by omega) (by omega) (by decide)
          have q1078 : h363 76 3 = h1 76 3 := jK 0 f364 rg_76_3_0_1 (by omega) (by omega) (by decide)
          have q1079 : h1 76 3 = h 76 3 := by rw [← e3]; exact x_up_k (by decide)
          have b1080 := jB (e := 3) 0 j381 rg_78_3_0_1 (by omega) (by omega)
          have b1081 := jB (e := 4) 0 j365 rg_78_4_0_1 (by omega) (by omega)
          have q1082 : h1 76 4 = h 76 4 := by rw [← e3]; exact x_up_k (by decide)
          have b1083 := jB (e := 4) 0 hJ rg_76_4_0_1 (by omega) (by omega)
          have q1084 : h363 76 4 = h1 76 4 := jK 0 f364 rg_76_4_0_1 (by omega) (by omega) (by decide)
          have q1085 : h1 76 4 = h 76 4 := by rw [← e3]; exact x_up_k (by decide)
          have z1086 := m367 4 (by omega)
          have q1087 : h1025 76 4 = h1017 76 4 := by rw [← e1027]; exact x_up_k (by decide)
          have q1088 : h1017 76 4 = h380 76 4 := by rw [← e1019]; exact x_up_k (by decide)
          have q1089 : h380 76 4 = h363 76 4 := jK 0 f382 rg_76_4_0_1 (by omega) (by omega) (by decide)
          have q1090 : h363 76 4 = h1 76 4 := jK 0 f364 rg_76_4_0_1 (by omega) (by omega) (by decide)
          have q1091 : h1 76 4 = h 76 4 := by rw [← e3]; exact x_up_k (by decide)
          have b1092 := jB (e := 4) 0 j381 rg_78_4_0_1 (by omega) (by omega)
          have b1093 := jB (e := 5) 0 j365 rg_78_5_0_1 (by omega) (by omega)
          have q1094 : h1 76 5 = h 76 5 := by rw [← e3]; exact x_up_k (by decide)
          have b1095 := jB (e := 5) 0 hJ rg_76_5_0_1 (by omega) (by omega)
          have q1096 : h363 76 5 = h1 76 5 := jK 0 f364 rg_76_5_0_1 (by omega) (by omega) (by decide)
          have q1097 : h1 76 5 = h 76 5 := by rw [← e3]; exact x_up_k (by decide)
          have z1098 := m367 5 (by omega)
          have q1099 : h1025 76 5 = h1017 76 5 := by rw [← e1027]; exact x_up_k (by decide)
          have q1100 : h1017 76 5 = h380 76 5 := by rw [← e1019]; exact x_up_k (by decide)
          have q1101 : h380 76 5 = h363 76 5 := jK 0 f382 rg_76_5_0_1 (by omega) (by omega) (by decide)
          have q1102 : h363 76 5 = h1 76 5 := jK 0 f364 rg_76_5_0_1 (by omega) (by omega) (by decide)
          have q1103 : h1 76 5 = h 76 5 := by rw [← e3]; exact x_up_k (by decide)
          have b1104 := jB (e := 5) 0 j381 rg_78_5_0_1 (by omega) (by omega)
          have q1105 : h1025 75 0 = 2147483649 := by rw [← e1027]; exact x_up_at
          have c1106 := Tt.cast (pe' := h 76 0) (l1 := h 76 2) (t1 := h 76 3) (d1 := h 76 4) (s1 := h 76 5) c388 (by omega) (by omega) (by omega) (by omega) (by omega)
          refine x_retI (np := 97) (x := 0) (by decide +kernel) (by decide) (Or.inl (by decide +kernel)) ⟨_, rfl, (by decide), ?_⟩
          exact ⟨j1026, f1028, (by omega), (by omega), m1033, (Or.inr (Or.inl ⟨by omega, Tt.noner c1106 (by omega), (six6 (by omega) (by omega) (by omega) (by omega) (by omega) (by omega))⟩))⟩
        have q1030 : ¬ (2147483649 ≠ 2147483648) := q1030
        exfalso; omega
      have q373 : ¬ (2147483938 ≤ v361) := q373
      refine x_aload (np := 15) (x := 0) (by decide +kernel) rfl (x_nc_le (by decide)) ?_
      have q1107 : h363 75 3 = 78 := by have z := jB (e := 3) 0 j365 rg_75_3_0_1 (by decide) (by decide); omega
      refine x_getR (np := 18) (x := 707) (f := 3) (q := 78) (by decide +kernel) (by decide) (by decide +kernel) q1107 ?_
      refine x_iload (np := 19) (x := 1) (by decide +kernel) rfl (by omega) ?_
      refine x_aload (np := 20) (x := 0) (by decide +kernel) rfl (x_nc_le (by decide)) ?_
      have q1108 : h363 75 1 = 76 := by have z := jB (e := 1) 0 j365 rg_75_1_0_1 (by decide) (by decide); omega
      refine x_getR (np := 23) (x := 705) (f := 1) (q := 76) (by decide +kernel) (by decide) (by decide +kernel) q1108 ?_
      refine x_iload (np := 24) (x := 1) (by decide +kernel) rfl (by omega) ?_
      obtain ⟨u1109, q1110⟩ : ∃ z, v361 = 2147483648 + z := ⟨v361 - 2147483648, by omega⟩
      refine x_aldC (np := 25) (x := 0) (n := 1952) (i := u1109) (q := (h363 76 u1109)) (by decide +kernel) (by decide +kernel) (by omega) (by omega) (by decide) rfl (fun l1111 => ?_)
      refine x_ast (np := 26) (x := 0) (kd := 1) (n := 290) (i := u1109) (by decide +kernel) (Or.inl rfl) (by decide +kernel) (by omega) (by omega) (by decide) l1111 (fun z => absurd z (by decide)) ?_
      have j1113 := cwJ (e := u1109) (v := (h363 76 u1109)) u1109 j365 j365 cw_78_0_76_0_290 (by omega) (by omega) (by first | rfl | (congr 1; omega))
      have f1115 := cwF (e := u1109) (v := (h363 76 u1109)) u1109 f371 cw_78_0_76_0_290 (by omega) (by omega) (by decide)
      have f1116 := cwF (e := u1109) (v := (h363 76 u1109)) u1109 f364 cw_78_0_76_0_290 (by omega) (by omega) (by decide)
      generalize e1114 : x_up h363 78 u1109 (h363 76 u1109) = h1112 at j1113 f1115 f1116 ⊢
      refine x_iinc (np := 29) (i := 1) (j := 2147483649) (v := (1 + v361)) (lo' := [x_r 75, iv_c (1 + v361), 147573952589676412928]) (by decide +kernel) (by decide) (by decide) rfl (by omega) (by omega) (by omega) rfl ?_
      refine x_goto (np := 32) (x := 7) (by decide +kernel) ?_
      have m1117 : Clp ((1 + v361) - 2147483648) h1112 := by
        have e0 : v361 - 2147483648 = u1109 := by omega
        have e9 : (1 + v361) = 2147483648 + (u1109 + 1) := by omega
        have e1 : (1 + v361) - 2147483648 = u1109 + 1 := by rw [e9]; exact Nat.add_sub_cancel_left _ _
        have p9 := m368
        rw [e0] at p9
        rw [e1, ← e1114]
        exact Clp.step p9 j365 (by omega)
      have m1118 : Cpa 78 76 h1 h1112 ((1 + v361) - 2147483648) := by
        have e0 : v361 - 2147483648 = u1109 := by omega
        have e9 : (1 + v361) = 2147483648 + (u1109 + 1) := by omega
        have e1 : (1 + v361) - 2147483648 = u1109 + 1 := by rw [e9]; exact Nat.add_sub_cancel_left _ _
        have p9 := m367
        rw [e0] at p9
        rw [e1, ← e1114]
        exact Cpa.step p9 (f364 76 u1109 (gr_76b (by omega) (by decide) (by decide) (by decide)))
      exact i370 (1 + v361) h1112 (by omega) (by omega) j1113 f1116 m1117 m1118
  exact p366 _ 2147483648 h1 (Nat.lt_succ_self _) (by omega) j2 (Fr.refl _ _) Clp.zero Cpa.zero
set_option maxHeartbeats 0 in
/-- LentNamesModel.sign(I)Z -/
theorem c173_75 {sc : Nat × Nat} {d a1 : Nat} {h : xh} {tB : Nat → Nat} {tN : Nat} (hJ : J h) (ba1 : 2147483648 ≤ a1 ∧ a1 ≤ 2147483775) (hT : Tq tB tN h) : X sc 173 (d + 2) (xI fun r h' => J h' ∧ Fr 5242881 h h' ∧ (2147483648 ≤ r ∧ r ≤ 2147483649) ∧ (h 75 7 + 0 ≤ h' 75 7) ∧ (r = 2147483649 → h 75 7 + 1 ≤ h' 75 7) ∧ Tk (Sg tB tN a1 (sk tB tN (h 75 7))) tB tN (sk tB tN (h 75 7)) 1 r (sk tB tN (h' 75 7))) 0 0 0 [x_r 75, iv_c a1] [] h := by
  have la1 : a1 < 4294967296 := by omega
  have hF := Fr.refl 5242881 h
  refine x_aload (np := 1) (x := 0) (by decide +kernel) rfl (x_nc_le (by decide)) ?_
  refine x_cV (t := 6) (mj := 168) (n := 1) (rc := 12) (ml := 1) (nr := 0) (np := 4) (as := [x_r 75]) (rest := []) (lo1 := [x_r 75]) (by decide +kernel) (by decide) (by decide +kernel) (x_rb_of (by decide +kernel)) rfl rfl (x_wr (by decide) x_wn) x_wn (by decide) rfl (c168_75 hJ  hT) (fun h4 q3 => ?_)
  obtain ⟨j5, f6, c9, c10, c11⟩ := q3
  have f12 := Fr.trans hF f6 (by decide)
  have b13 := jB (e := 7) 0 hJ rg_75_7_0_1 (by omega) (by omega)
  have b14 := jB (e := 7) 0 j5 rg_75_7_0_1 (by omega) (by omega)
  have b15 := jB (e := 9) 0 j5 rg_75_9_0_1 (by omega) (by omega)
  refine x_aload (np := 5) (x := 0) (by decide +kernel) rfl (x_nc_le (by decide)) ?_
  refine x_iload (np := 6) (x := 1) (by decide +kernel) rfl la1 ?_
  refine x_iload (np := 7) (x := 1) (by decide +kernel) rfl la1 ?_
  refine x_nI (t := 6) (mj := 167) (n := 3) (rc := 12) (ml := 3) (nr := 0) (np := 10) (as := [x_r 75, iv_c a1, iv_c a1]) (rest := []) (lo1 := [x_r 75, iv_c a1, iv_c a1]) (by decide +kernel) (by decide) (by decide +kernel) (x_rb_of (by decide +kernel)) rfl rfl (x_wr (by decide) (x_wi la1 (x_wi la1 x_wn))) x_wn (by decide) rfl ?_
  refine x_aload (np := 1) (x := 0) (by decide +kernel) rfl (x_nc_le (by decide)) ?_
  refine x_getC (np := 4) (x := 711) (f := 7) (q := (h4 75 7)) (by decide +kernel) (by decide) (by decide +kernel) rfl (fun l16 => ?_)
  refine x_aload (np := 5) (x := 0) (by decide +kernel) rfl (x_nc_le (by decide)) ?_
  have q17 : h4 75 8 = h 75 8 := jK 0 f6 rg_75_8_0_1 (by omega) (by omega) (by decide)
  have b18 := jB (e := 8) 0 hJ rg_75_8_0_1 (by omega) (by omega)
  refine x_getC (np := 8) (x := 712) (f := 8) (q := (h 75 8)) (by decide +kernel) (by decide) (by decide +kernel) q17 (fun l19 => ?_)
  refine x_icmp (k := 3) (tg := 41) (np := 11) (by decide +kernel) (by decide) l16 l19 (fun q20 => ?_) (fun q21 => ?_)
  · have q20 : (h 75 8) ≤ (h4 75 7) := q20
    refine x_const (np := 42) (x := 9223372039002259456) (a := 2147483648) (by decide +kernel) (by decide) (by decide) ?_
    refine x_retI (np := 43) (x := 0) (by decide +kernel) (by decide) (Or.inr ⟨by decide +kernel, by omega, by omega⟩) ⟨_, rfl, (by decide), ?_⟩
    refine x_ifz (k := 1) (tg := 15) (np := 13) (by decide +kernel) (by decide) (by decide) (fun q22 => ?_) (fun q23 => ?_)
    · have q22 : 2147483648 ≠ 2147483648 := q22
      exfalso; omega
    have q23 : ¬ (2147483648 ≠ 2147483648) := q23
    refine x_const (np := 14) (x := 9223372039002259456) (a := 2147483648) (by decide +kernel) (by decide) (by decide) ?_
    have q24 : h4 75 8 = h 75 8 := jK 0 f6 rg_75_8_0_1 (by omega) (by omega) (by decide)
    have m26 := Tq.fr hT f6 (by decide) (by decide)
    have z25 := m26.1
    refine x_retI (np := 15) (x := 0) (by decide +kernel) (by decide) (Or.inr ⟨by decide +kernel, by omega, by omega⟩) ⟨_, rfl, (by decide), ?_⟩
    exact ⟨j5, f12, (by omega), (by omega), (fun z => by omega), (sg0 c11 (fun z => by have z1 := z.1; have z2 := z.2; omega) (by omega) (by omega))⟩
  have q21 : ¬ ((h 75 8) ≤ (h4 75 7)) := q21
  refine x_aload (np := 12) (x := 0) (by decide +kernel) rfl (x_nc_le (by decide)) ?_
  have q27 : h4 75 5 = 79 := by have z := jB (e := 5) 0 j5 rg_75_5_0_1 (by decide) (by decide); omega
  refine x_getR (np := 15) (x := 709) (f := 5) (q := 79) (by decide +kernel) (by decide) (by decide +kernel) q27 ?_
  refine x_aload (np := 16) (x := 0) (by decide +kernel) rfl (x_nc_le (by decide)) ?_
  refine x_getC (np := 19) (x := 711) (f := 7) (q := (h4 75 7)) (by decide +kernel) (by decide) (by decide +kernel) rfl (fun l28 => ?_)
  obtain ⟨u29, q30⟩ : ∃ z, (h4 75 7) = 2147483648 + z := ⟨(h4 75 7) - 2147483648, by omega⟩
  have q31 : h4 79 u29 = h 79 u29 := jK u29 f6 rg_79_0_1_400 (by omega) (by omega) (by decide)
  have b32 := jB (e := u29) u29 hJ rg_79_0_1_400 (by omega) (by omega)
  refine x_baldC (np := 20) (x := 0) (n := 400) (i := u29) (q := (h 79 u29)) (by decide +kernel) (by decide +kernel) (by omega) (by omega) (by decide) q31 (fun l33 => ?_)
  refine x_iload (np := 21) (x := 1) (by decide +kernel) rfl la1 ?_
  refine x_icmp (k := 2) (tg := 41) (np := 24) (by decide +kernel) (by decide) l33 la1 (fun q34 => ?_) (fun q35 => ?_)
  · have q34 : (h 79 u29) < a1 := q34
    refine x_const (np := 42) (x := 9223372039002259456) (a := 2147483648) (by decide +kernel) (by decide) (by decide) ?_
    refine x_retI (np := 43) (x := 0) (by decide +kernel) (by decide) (Or.inr ⟨by decide +kernel, by omega, by omega⟩) ⟨_, rfl, (by decide), ?_⟩
    refine x_ifz (k := 1) (tg := 15) (np := 13) (by decide +kernel) (by decide) (by decide) (fun q36 => ?_) (fun q37 => ?_)
    · have q36 : 2147483648 ≠ 2147483648 := q36
      exfalso; omega
    have q37 : ¬ (2147483648 ≠ 2147483648) := q37
    refine x_const (np := 14) (x := 9223372039002259456) (a := 2147483648) (by decide +kernel) (by decide) (by decide) ?_
    have q38 : h4 75 8 = h 75 8 := jK 0 f6 rg_75_8_0_1 (by omega) (by omega) (by decide)
    have m40 := Tq.fr hT f6 (by decide) (by decide)
    have z39 := m40.1
    have q41 : h4 79 u29 = h 79 u29 := jK u29 f6 rg_79_0_1_400 (by omega) (by omega) (by decide)
    have z42 := Tq.at (p := (h4 75 7)) (u := u29) m40 (by omega) (by omega)
    refine x_retI (np := 15) (x := 0) (by decide +kernel) (by decide) (Or.inr ⟨by decide +kernel, by omega, by omega⟩) ⟨_, rfl, (by decide), ?_⟩
    exact ⟨j5, f12, (by omega), (by omega), (fun z => by omega), (sg0 c11 (fun z => by have z1 := z.1; have z2 := z.2; omega) (by omega) (by omega))⟩
  have q35 : ¬ ((h 79 u29) < a1) := q35
  refine x_aload (np := 25) (x := 0) (by decide +kernel) rfl (x_nc_le (by decide)) ?_
  have q43 : h4 75 5 = 79 := by have z := jB (e := 5) 0 j5 rg_75_5_0_1 (by decide) (by decide); omega
  refine x_getR (np := 28) (x := 709) (f := 5) (q := 79) (by decide +kernel) (by decide) (by decide +kernel) q43 ?_
  refine x_aload (np := 29) (x := 0) (by decide +kernel) rfl (x_nc_le (by decide)) ?_
  refine x_getC (np := 32) (x := 711) (f := 7) (q := (h4 75 7)) (by decide +kernel) (by decide) (by decide +kernel) rfl (fun l44 => ?_)
  have q45 : h4 79 u29 = h 79 u29 := jK u29 f6 rg_79_0_1_400 (by omega) (by omega) (by decide)
  refine x_baldC (np := 33) (x := 0) (n := 400) (i := u29) (q := (h 79 u29)) (by decide +kernel) (by decide +kernel) (by omega) (by omega) (by decide) q45 (fun l46 => ?_)
  refine x_iload (np := 34) (x := 2) (by decide +kernel) rfl la1 ?_
  refine x_icmp (k := 4) (tg := 41) (np := 37) (by decide +kernel) (by decide) l33 la1 (fun q47 => ?_) (fun q48 => ?_)
  · have q47 : a1 < (h 79 u29) := q47
    refine x_const (np := 42) (x := 9223372039002259456) (a := 2147483648) (by decide +kernel) (by decide) (by decide) ?_
    refine x_retI (np := 43) (x := 0) (by decide +kernel) (by decide) (Or.inr ⟨by decide +kernel, by omega, by omega⟩) ⟨_, rfl, (by decide), ?_⟩
    refine x_ifz (k := 1) (tg := 15) (np := 13) (by decide +kernel) (by decide) (by decide) (fun q49 => ?_) (fun q50 => ?_)
    · have q49 : 2147483648 ≠ 2147483648 := q49
      exfalso; omega
    have q50 : ¬ (2147483648 ≠ 2147483648) := q50
    refine x_const (np := 14) (x := 9223372039002259456) (a := 2147483648) (by decide +kernel) (by decide) (by decide) ?_
    have q51 : h4 75 8 = h 75 8 := jK 0 f6 rg_75_8_0_1 (by omega) (by omega) (by decide)
    have m53 := Tq.fr hT f6 (by decide) (by decide)
    have z52 := m53.1
    have q54 : h4 79 u29 = h 79 u29 := jK u29 f6 rg_79_0_1_400 (by omega) (by omega) (by decide)
    have z55 := Tq.at (p := (h4 75 7)) (u := u29) m53 (by omega) (by omega)
    refine x_retI (np := 15) (x := 0) (by decide +kernel) (by decide) (Or.inr ⟨by decide +kernel, by omega, by omega⟩) ⟨_, rfl, (by decide), ?_⟩
    exact ⟨j5, f12, (by omega), (by omega), (fun z => by omega), (sg0 c11 (fun z => by have z1 := z.1; have z2 := z.2; omega) (by omega) (by omega))⟩
  have q48 : ¬ (a1 < (h 79 u29)) := q48
  refine x_const (np := 38) (x := 9223372043297226753) (a := 2147483649) (by decide +kernel) (by decide) (by decide) ?_
  refine x_goto (np := 41) (x := 42) (by decide +kernel) ?_
  refine x_retI (np := 43) (x := 0) (by decide +kernel) (by decide) (Or.inr ⟨by decide +kernel, by omega, by omega⟩) ⟨_, rfl, (by decide), ?_⟩
  refine x_ifz (k := 1) (tg := 15) (np := 13) (by decide +kernel) (by decide) (by decide) (fun q56 => ?_) (fun q57 => ?_)
  · have q56 : 2147483649 ≠ 2147483648 := q56
    refine x_aload (np := 16) (x := 0) (by decide +kernel) rfl (x_nc_le (by decide)) ?_
    refine x_dup (np := 17) (x := 0) (by decide +kernel) (by have z := x_nc_le (k := 75) (by decide); unfold x_r; omega) ?_
    refine x_getC (np := 20) (x := 711) (f := 7) (q := (h4 75 7)) (by decide +kernel) (by decide) (by decide +kernel) rfl (fun l58 => ?_)
    refine x_const (np := 21) (x := 9223372043297226753) (a := 2147483649) (by decide +kernel) (by decide) (by decide) ?_
    refine x_iadd (np := 22) (x := 0) (v := (1 + (h4 75 7))) (by decide +kernel) l16 (by decide) (by omega) (by omega) ?_
    refine x_putI (np := 25) (x := 711) (f := 7) (by decide +kernel) (by decide +kernel) (by omega) (Or.inl (by decide)) ?_
    have j60 := jU (e := 7) (v := (1 + (h4 75 7))) 0 j5 rg_75_7_0_1 (by omega) (by omega) (by omega)
    have f62 := jF (e := 7) (v := (1 + (h4 75 7))) 0 f12 rg_75_7_0_1 (by omega) (by omega) (by decide)
    generalize e61 : x_up h4 75 7 (1 + (h4 75 7)) = h59 at j60 f62 ⊢
    refine x_const (np := 26) (x := 9223372043297226753) (a := 2147483649) (by decide +kernel) (by decide) (by decide) ?_
    have q63 : h59 75 7 = (1 + (h4 75 7)) := by rw [← e61]; exact x_up_at
    have q64 : h59 75 7 = (1 + (h4 75 7)) := by rw [← e61]; exact x_up_at
    have q65 : h59 75 7 = (1 + (h4 75 7)) := by rw [← e61]; exact x_up_at
    have q66 : h4 75 8 = h 75 8 := jK 0 f6 rg_75_8_0_1 (by omega) (by omega) (by decide)
    have m68 := Tq.fr hT f6 (by decide) (by decide)
    have z67 := m68.1
    have q69 : h4 79 u29 = h 79 u29 := jK u29 f6 rg_79_0_1_400 (by omega) (by omega) (by decide)
    have z70 := Tq.at (p := (h4 75 7)) (u := u29) m68 (by omega) (by omega)
    refine x_retI (np := 27) (x := 0) (by decide +kernel) (by decide) (Or.inr ⟨by decide +kernel, by omega, by omega⟩) ⟨_, rfl, (by decide), ?_⟩
    exact ⟨j60, f62, (by omega), (by omega), (fun z => by omega), (sg1 c11 ⟨by omega, by omega⟩ (by omega) (by omega))⟩
  have q57 : ¬ (2147483649 ≠ 2147483648) := q57
  exfalso; omega
set_option maxHeartbeats 0 in
/-- LentNamesModel.readPart()Z -/
theorem c188_75 {sc : Nat × Nat} {d  : Nat} {h : xh} {tB : Nat → Nat} {tN : Nat} (hJ : J h) (hr0 : (h 75 13) + 5 ≤ (h 75 7)) (hT : Tq tB tN h) : X sc 188 (d + 5) (xI fun r h' => J h' ∧ Fr 89128961 h h' ∧ (2147483648 ≤ r ∧ r ≤ 2147483649) ∧ (r = 2147483649 → h' 75 13 + h 75 7 ≤ h' 75 7 + h 75 13) ∧ (r = 2147483649 → h 75 7 + 0 ≤ h' 75 7) ∧ (r = 2147483649 → h 75 13 ≤ h' 75 13) ∧ Kp h h' (h 75 13 - 2147483648) ∧ (r = 2147483649 → Seg (sg h') (h 75 13 - 2147483648) (h' 75 13 - 2147483648)) ∧ (∀ l, G tB tN Kd.part l (sk tB tN (h 75 7)) (rs r (sk tB tN (h' 75 7))))) 0 0 0 [x_r 75, 147573952589676412928] [] h := by
  have hF := Fr.refl 89128961 h
  have b1 := jB (e := 13) 0 hJ rg_75_13_0_1 (by omega) (by omega)
  have b2 := jB (e := 7) 0 hJ rg_75_7_0_1 (by omega) (by omega)
  refine x_aload (np := 1) (x := 0) (by decide +kernel) rfl (x_nc_le (by decide)) ?_
  refine x_cV (t := 6) (mj := 169) (n := 1) (rc := 12) (ml := 1) (nr := 0) (np := 4) (as := [x_r 75]) (rest := []) (lo1 := [x_r 75]) (by decide +kernel) (by decide) (by decide +kernel) (x_rb_of (by decide +kernel)) rfl rfl (x_wr (by decide) x_wn) x_wn (by decide) rfl (c169_75 hJ  hT) (fun h6 q5 => ?_)
  obtain ⟨j7, f8, c11, c12, c13, c14⟩ := q5
  have f15 := Fr.trans hF f8 (by decide)
  have b16 := jB (e := 9) 0 j7 rg_75_9_0_1 (by omega) (by omega)
  have b17 := jB (e := 7) 0 j7 rg_75_7_0_1 (by omega) (by omega)
  refine x_aload (np := 5) (x := 0) (by decide +kernel) rfl (x_nc_le (by decide)) ?_
  refine x_getC (np := 8) (x := 711) (f := 7) (q := (h6 75 7)) (by decide +kernel) (by decide) (by decide +kernel) rfl (fun l18 => ?_)
  refine x_aload (np := 9) (x := 0) (by decide +kernel) rfl (x_nc_le (by decide)) ?_
  refine x_getC (np := 12) (x := 713) (f := 9) (q := (h6 75 9)) (by decide +kernel) (by decide) (by decide +kernel) rfl (fun l19 => ?_)
  refine x_icmp (k := 1) (tg := 34) (np := 15) (by decide +kernel) (by decide) l18 l19 (fun q20 => ?_) (fun q21 => ?_)
  · have q20 : (h6 75 7) ≠ (h6 75 9) := q20
    refine x_aload (np := 35) (x := 0) (by decide +kernel) rfl (x_nc_le (by decide)) ?_
    refine x_ldcB (i := 2) (idx := 147) (tx := "day") (by rw [tb_y188]; exact List.mem_of_getElem? (i := 37) rfl) (by decide) (by rw [tb_b188]; decide +kernel) ?_
    have m25 := Tq.fr hT f8 (by decide) (by decide)
    refine x_cP (t := 6) (mj := 170) (n := 2) (rc := 12) (ml := 4) (nr := 0) (np := 40) (as := [x_r 75, x_b (2 + 1)]) (rest := []) (lo1 := [x_r 75, x_b (2 + 1), 147573952589676412928, 147573952589676412928]) (by decide +kernel) (by decide) (by decide +kernel) (x_rb_of (by decide +kernel)) rfl rfl (x_wr (by decide) (x_wB (by decide) x_wn)) x_wn (by decide) rfl (c170_75_S0 j7  (by decide) m25) (fun v22 l23 q24 => ?_)
    obtain ⟨b28, c26, c27⟩ := q24
    have b29 : iv_tl 2 = 3 := by decide
    refine x_ifz (k := 0) (tg := 47) (np := 43) (by decide +kernel) (by decide) l23 (fun q30 => ?_) (fun q31 => ?_)
    · have q30 : v22 = 2147483648 := q30
      refine x_aload (np := 48) (x := 0) (by decide +kernel) rfl (x_nc_le (by decide)) ?_
      refine x_ldcB (i := 27) (idx := 226) (tx := "days") (by rw [tb_y188]; exact List.mem_of_getElem? (i := 62) rfl) (by decide) (by rw [tb_b188]; decide +kernel) ?_
      refine x_cP (t := 6) (mj := 170) (n := 2) (rc := 12) (ml := 4) (nr := 0) (np := 53) (as := [x_r 75, x_b (27 + 1)]) (rest := []) (lo1 := [x_r 75, x_b (27 + 1), 147573952589676412928, 147573952589676412928]) (by decide +kernel) (by decide) (by decide +kernel) (x_rb_of (by decide +kernel)) rfl rfl (x_wr (by decide) (x_wB (by decide) x_wn)) x_wn (by decide) rfl (c170_75_S0 j7  (by decide) m25) (fun v32 l33 q34 => ?_)
      obtain ⟨b37, c35, c36⟩ := q34
      have b38 : iv_tl 27 = 4 := by decide
      refine x_ifz (k := 0) (tg := 60) (np := 56) (by decide +kernel) (by decide) l33 (fun q39 => ?_) (fun q40 => ?_)
      · have q39 : v32 = 2147483648 := q39
        refine x_aload (np := 61) (x := 0) (by decide +kernel) rfl (x_nc_le (by decide)) ?_
        refine x_ldcB (i := 5) (idx := 158) (tx := "pledge") (by rw [tb_y188]; exact List.mem_of_getElem? (i := 40) rfl) (by decide) (by rw [tb_b188]; decide +kernel) ?_
        refine x_cP (t := 6) (mj := 170) (n := 2) (rc := 12) (ml := 4) (nr := 0) (np := 66) (as := [x_r 75, x_b (5 + 1)]) (rest := []) (lo1 := [x_r 75, x_b (5 + 1), 147573952589676412928, 147573952589676412928]) (by decide +kernel) (by decide) (by decide +kernel) (x_rb_of (by decide +kernel)) rfl rfl (x_wr (by decide) (x_wB (by decide) x_wn)) x_wn (by decide) rfl (c170_75_S0 j7  (by decide) m25) (fun v41 l42 q43 => ?_)
        obtain ⟨b46, c44, c45⟩ := q43
        have b47 : iv_tl 5 = 6 := by decide
        refine x_ifz (k := 0) (tg := 73) (np := 69) (by decide +kernel) (by decide) l42 (fun q48 => ?_) (fun q49 => ?_)
        · have q48 : v41 = 2147483648 := q48
          refine x_aload (np := 74) (x := 0) (by decide +kernel) rfl (x_nc_le (by decide)) ?_
          refine x_ldcB (i := 28) (idx := 228) (tx := "deep") (by rw [tb_y188]; exact List.mem_of_getElem? (i := 63) rfl) (by decide) (by rw [tb_b188]; decide +kernel) ?_
          refine x_cP (t := 6) (mj := 170) (n := 2) (rc := 12) (ml := 4) (nr := 0) (np := 79) (as := [x_r 75, x_b (28 + 1)]) (rest := []) (lo1 := [x_r 75, x_b (28 + 1), 147573952589676412928, 147573952589676412928]) (by decide +kernel) (by decide) (by decide +kernel) (x_rb_of (by decide +kernel)) rfl rfl (x_wr (by decide) (x_wB (by decide) x_wn)) x_wn (by decide) rfl (c170_75_S0 j7  (by decide) m25) (fun v50 l51 q52 => ?_)
          obtain ⟨b55, c53, c54⟩ := q52
          have b56 : iv_tl 28 = 4 := by decide
          refine x_ifz (k := 0) (tg := 86) (np := 82) (by decide +kernel) (by decide) l51 (fun q57 => ?_) (fun q58 => ?_)
          · have q57 : v50 = 2147483648 := q57
            refine x_aload (np := 87) (x := 0) (by decide +kernel) rfl (x_nc_le (by decide)) ?_
            refine x_ldcB (i := 29) (idx := 230) (tx := "gives") (by rw [tb_y188]; exact List.mem_of_getElem? (i := 64) rfl) (by decide) (by rw [tb_b188]; decide +kernel) ?_
            refine x_cP (t := 6) (mj := 170) (n := 2) (rc := 12) (ml := 4) (nr := 0) (np := 92) (as := [x_r 75, x_b (29 + 1)]) (rest := []) (lo1 := [x_r 75, x_b (29 + 1), 147573952589676412928, 147573952589676412928]) (by decide +kernel) (by decide) (by decide +kernel) (x_rb_of (by decide +kernel)) rfl rfl (x_wr (by decide) (x_wB (by decide) x_wn)) x_wn (by decide) rfl (c170_75_S0 j7  (by decide) m25) (fun v59 l60 q61 => ?_)
            obtain ⟨b64, c62, c63⟩ := q61
            have b65 : iv_tl 29 = 5 := by decide
            refine x_ifz (k := 0) (tg := 99) (np := 95) (by decide +kernel) (by decide) l60 (fun q66 => ?_) (fun q67 => ?_)
            · have q66 : v59 = 2147483648 := q66
              refine x_aload (np := 100) (x := 0) (by decide +kernel) rfl (x_nc_le (by decide)) ?_
              refine x_ldcB (i := 30) (idx := 232) (tx := "takes") (by rw [tb_y188]; exact List.mem_of_getElem? (i := 65) rfl) (by decide) (by rw [tb_b188]; decide +kernel) ?_
              refine x_cP (t := 6) (mj := 170) (n := 2) (rc := 12) (ml := 4) (nr := 0) (np := 105) (as := [x_r 75, x_b (30 + 1)]) (rest := []) (lo1 := [x_r 75, x_b (30 + 1), 147573952589676412928, 147573952589676412928]) (by decide +kernel) (by decide) (by decide +kernel) (x_rb_of (by decide +kernel)) rfl rfl (x_wr (by decide) (x_wB (by decide) x_wn)) x_wn (by decide) rfl (c170_75_S0 j7  (by decide) m25) (fun v68 l69 q70 => ?_)
              obtain ⟨b73, c71, c72⟩ := q70
              have b74 : iv_tl 30 = 5 := by decide
              refine x_ifz (k := 0) (tg := 112) (np := 108) (by decide +kernel) (by decide) l69 (fun q75 => ?_) (fun q76 => ?_)
              · have q75 : v68 = 2147483648 := q75
                refine x_const (np := 113) (x := 9223372034707292159) (a := 2147483647) (by decide +kernel) (by decide) (by decide) ?_
                refine x_istore (np := 114) (x := 1) (lo' := [x_r 75, iv_c 2147483647]) (by decide +kernel) (by decide) (Nat.le_of_ble_eq_true rfl) rfl ?_
                refine x_aload (np := 115) (x := 0) (by decide +kernel) rfl (x_nc_le (by decide)) ?_
                refine x_iload (np := 116) (x := 1) (by decide +kernel) rfl (by decide) ?_
                refine x_const (np := 117) (x := 9223372039002259456) (a := 2147483648) (by decide +kernel) (by decide) (by decide) ?_
                refine x_nV (t := 6) (mj := 187) (n := 3) (rc := 12) (ml := 3) (nr := 0) (np := 120) (as := [x_r 75, iv_c 2147483647, iv_c 2147483648]) (rest := []) (lo1 := [x_r 75, iv_c 2147483647, iv_c 2147483648]) (by decide +kernel) (by decide) (by decide +kernel) (x_rb_of (by decide +kernel)) rfl rfl (x_wr (by decide) (x_wi (by decide) (x_wi (by decide) x_wn))) x_wn (by decide) rfl ?_
                refine x_aload (np := 1) (x := 0) (by decide +kernel) rfl (x_nc_le (by decide)) ?_
                have q77 : h6 75 1 = 76 := by have z := jB (e := 1) 0 j7 rg_75_1_0_1 (by decide) (by decide); omega
                refine x_getR (np := 4) (x := 705) (f := 1) (q := 76) (by decide +kernel) (by decide) (by decide +kernel) q77 ?_
                refine x_const (np := 7) (x := 9223376986804585600) (a := 2147484800) (by decide +kernel) (by decide) (by decide) ?_
                refine x_const (np := 8) (x := 9223372047592194050) (a := 2147483650) (by decide +kernel) (by decide) (by decide) ?_
                refine x_aload (np := 9) (x := 0) (by decide +kernel) rfl (x_nc_le (by decide)) ?_
                have q78 : h6 75 13 = h 75 13 := jK 0 f8 rg_75_13_0_1 (by omega) (by omega) (by decide)
                refine x_getC (np := 12) (x := 717) (f := 13) (q := (h 75 13)) (by decide +kernel) (by decide) (by decide +kernel) q78 (fun l79 => ?_)
                obtain ⟨u80, q81⟩ : ∃ z, (h 75 13) = 2147483648 + z := ⟨(h 75 13) - 2147483648, by omega⟩
                refine x_imul (np := 13) (x := 0) (i := 2) (j := u80) (v := (2147483648 + 2 * u80)) (by decide +kernel) (by omega) (by omega) (by omega) (by omega) (by decide) l79 ?_
                refine x_iadd (np := 14) (x := 0) (v := (2147484800 + 2 * u80)) (by decide +kernel) (by decide) (by omega) (by omega) (by omega) ?_
                refine x_iload (np := 15) (x := 1) (by decide +kernel) rfl (by decide) ?_
                refine x_ast (np := 16) (x := 0) (kd := 1) (n := 1952) (i := (1152 + 2 * u80)) (by decide +kernel) (Or.inl rfl) (by decide +kernel) (by omega) (by omega) (by decide) (by decide) (fun z => absurd z (by decide)) ?_
                have j84 := jU (e := (1152 + 2 * u80)) (v := 2147483647) u80 j7 rg_76_1152_2_395 (by omega) (by omega) (by omega)
                have f86 := jF (e := (1152 + 2 * u80)) (v := 2147483647) u80 f15 rg_76_1152_2_395 (by omega) (by omega) (by decide)
                generalize e85 : x_up h6 76 (1152 + 2 * u80) 2147483647 = h83 at j84 f86 ⊢
                refine x_aload (np := 17) (x := 0) (by decide +kernel) rfl (x_nc_le (by decide)) ?_
                have q87 : h83 75 1 = 76 := by have z := jB (e := 1) 0 j84 rg_75_1_0_1 (by decide) (by decide); omega
                refine x_getR (np := 20) (x := 705) (f := 1) (q := 76) (by decide +kernel) (by decide) (by decide +kernel) q87 ?_
                refine x_const (np := 23) (x := 9223376986804585600) (a := 2147484800) (by decide +kernel) (by decide) (by decide) ?_
                refine x_const (np := 24) (x := 9223372047592194050) (a := 2147483650) (by decide +kernel) (by decide) (by decide) ?_
                refine x_aload (np := 25) (x := 0) (by decide +kernel) rfl (x_nc_le (by decide)) ?_
                have q88 : h83 75 13 = h6 75 13 := by rw [← e85]; exact x_up_k (by decide)
                have q89 : h6 75 13 = h 75 13 := jK 0 f8 rg_75_13_0_1 (by omega) (by omega) (by decide)
                refine x_getC (np := 28) (x := 717) (f := 13) (q := (h 75 13)) (by decide +kernel) (by decide) (by decide +kernel) (q88.trans q89) (fun l90 => ?_)
                refine x_imul (np := 29) (x := 0) (i := 2) (j := u80) (v := (2147483648 + 2 * u80)) (by decide +kernel) (by omega) (by omega) (by omega) (by omega) (by decide) l79 ?_
                refine x_iadd (np := 30) (x := 0) (v := (2147484800 + 2 * u80)) (by decide +kernel) (by decide) (by omega) (by omega) (by omega) ?_
                refine x_const (np := 31) (x := 9223372043297226753) (a := 2147483649) (by decide +kernel) (by decide) (by decide) ?_
                refine x_iadd (np := 32) (x := 0) (v := (2147484801 + 2 * u80)) (by decide +kernel) (by omega) (by decide) (by omega) (by omega) ?_
                refine x_iload (np := 33) (x := 2) (by decide +kernel) rfl (by decide) ?_
                refine x_ast (np := 34) (x := 0) (kd := 1) (n := 1952) (i := (1153 + 2 * u80)) (by decide +kernel) (Or.inl rfl) (by decide +kernel) (by omega) (by omega) (by decide) (by decide) (fun z => absurd z (by decide)) ?_
                have j93 := jU (e := (1153 + 2 * u80)) (v := 2147483648) u80 j84 rg_76_1153_2_395 (by omega) (by omega) (by omega)
                have f95 := jF (e := (1153 + 2 * u80)) (v := 2147483648) u80 f86 rg_76_1153_2_395 (by omega) (by omega) (by decide)
                generalize e94 : x_up h83 76 (1153 + 2 * u80) 2147483648 = h92 at j93 f95 ⊢
                refine x_aload (np := 35) (x := 0) (by decide +kernel) rfl (x_nc_le (by decide)) ?_
                refine x_dup (np := 36) (x := 0) (by decide +kernel) (by have z := x_nc_le (k := 75) (by decide); unfold x_r; omega) ?_
                have q96 : h92 75 13 = h83 75 13 := by rw [← e94]; exact x_up_k (by decide)
                have q97 : h83 75 13 = h6 75 13 := by rw [← e85]; exact x_up_k (by decide)
                have q98 : h6 75 13 = h 75 13 := jK 0 f8 rg_75_13_0_1 (by omega) (by omega) (by decide)
                refine x_getC (np := 39) (x := 717) (f := 13) (q := (h 75 13)) (by decide +kernel) (by decide) (by decide +kernel) ((q96.trans q97).trans q98) (fun l99 => ?_)
                refine x_const (np := 40) (x := 9223372043297226753) (a := 2147483649) (by decide +kernel) (by decide) (by decide) ?_
                refine x_iadd (np := 41) (x := 0) (v := (1 + (h 75 13))) (by decide +kernel) l79 (by decide) (by omega) (by omega) ?_
                refine x_putI (np := 44) (x := 717) (f := 13) (by decide +kernel) (by decide +kernel) (by omega) (Or.inl (by decide)) ?_
                have j101 := jU (e := 13) (v := (1 + (h 75 13))) 0 j93 rg_75_13_0_1 (by omega) (by omega) (by omega)
                have f103 := jF (e := 13) (v := (1 + (h 75 13))) 0 f95 rg_75_13_0_1 (by omega) (by omega) (by decide)
                generalize e102 : x_up h92 75 13 (1 + (h 75 13)) = h100 at j101 f103 ⊢
                refine x_retV (np := 45) (x := 0) (by decide +kernel) (by decide +kernel) ⟨rfl, ?_⟩
                have q104 : h100 75 13 = (1 + (h 75 13)) := by rw [← e102]; exact x_up_at
                refine x_iload (np := 121) (x := 1) (by decide +kernel) rfl (by decide) ?_
                refine x_ifz (k := 2) (tg := 128) (np := 124) (by decide +kernel) (by decide) (by decide) (fun q105 => ?_) (fun q106 => ?_)
                · have q105 : 2147483647 < 2147483648 := q105
                  refine x_const (np := 129) (x := 9223372039002259456) (a := 2147483648) (by decide +kernel) (by decide) (by decide) ?_
                  have q107 : h100 75 13 = (1 + (h 75 13)) := by rw [← e102]; exact x_up_at
                  have q108 : h100 75 7 = h92 75 7 := by rw [← e102]; exact x_up_i (by omega)
                  have q109 : h92 75 7 = h83 75 7 := by rw [← e94]; exact x_up_k (by decide)
                  have q110 : h83 75 7 = h6 75 7 := by rw [← e85]; exact x_up_k (by decide)
                  have q111 : h100 75 7 = h92 75 7 := by rw [← e102]; exact x_up_i (by omega)
                  have q112 : h92 75 7 = h83 75 7 := by rw [← e94]; exact x_up_k (by decide)
                  have q113 : h83 75 7 = h6 75 7 := by rw [← e85]; exact x_up_k (by decide)
                  have q114 : h100 75 13 = (1 + (h 75 13)) := by rw [← e102]; exact x_up_at
                  have k118 : Kp h h6 (h 75 13 - 2147483648) := Kp.fr Kp.refl f8 (by omega) (by decide)
                  have k117 : Kp h h83 (h 75 13 - 2147483648) := by rw [← e85]; exact Kp.up k118 (by omega) (fun i hi => by omega)
                  have k116 : Kp h h92 (h 75 13 - 2147483648) := by rw [← e94]; exact Kp.up k117 (by omega) (fun i hi => by omega)
                  have k115 : Kp h h100 (h 75 13 - 2147483648) := by rw [← e102]; exact Kp.oth k116 (by decide)
                  have w119 : ¬ Wd tB tN 2 (sk tB tN (h 75 7)) := by rw [← c13]; exact Wd.no (by decide) (Is.no c27 (by omega)) c14
                  have w120 : ¬ Wd tB tN 27 (sk tB tN (h 75 7)) := by rw [← c13]; exact Wd.no (by decide) (Is.no c36 (by omega)) c14
                  have w121 : ¬ Wd tB tN 5 (sk tB tN (h 75 7)) := by rw [← c13]; exact Wd.no (by decide) (Is.no c45 (by omega)) c14
                  have w122 : ¬ Wd tB tN 28 (sk tB tN (h 75 7)) := by rw [← c13]; exact Wd.no (by decide) (Is.no c54 (by omega)) c14
                  have w123 : ¬ Wd tB tN 29 (sk tB tN (h 75 7)) := by rw [← c13]; exact Wd.no (by decide) (Is.no c63 (by omega)) c14
                  have w124 : ¬ Wd tB tN 30 (sk tB tN (h 75 7)) := by rw [← c13]; exact Wd.no (by decide) (Is.no c72 (by omega)) c14
                  have n125 : Ltr tB tN (sk tB tN (h 75 7)) := by rw [← c13]; exact ltr_of (by rw [← c14]; omega)
                  refine x_retI (np := 130) (x := 0) (by decide +kernel) (by decide) (Or.inr ⟨by decide +kernel, by omega, by omega⟩) ⟨_, rfl, (by decide), ?_⟩
                  exact ⟨j101, f103, (by omega), (fun z => by omega), (fun z => by omega), (fun z => by omega), k115, (fun z => absurd z (by omega)), (fun l => gP_no (ltr_nb n125) w119 w120 w121 w122 w123 w124 (by omega))⟩
                have q106 : ¬ (2147483647 < 2147483648) := q106
                exfalso; omega
              have q76 : ¬ (v68 = 2147483648) := q76
              have b126 := c71 (by omega)
              refine x_const (np := 109) (x := 9223372060477095941) (a := 2147483653) (by decide +kernel) (by decide) (by decide) ?_
              refine x_goto (np := 112) (x := 113) (by decide +kernel) ?_
              refine x_istore (np := 114) (x := 1) (lo' := [x_r 75, iv_c 2147483653]) (by decide +kernel) (by decide) (Nat.le_of_ble_eq_true rfl) rfl ?_
              refine x_aload (np := 115) (x := 0) (by decide +kernel) rfl (x_nc_le (by decide)) ?_
              refine x_iload (np := 116) (x := 1) (by decide +kernel) rfl (by decide) ?_
              refine x_const (np := 117) (x := 9223372039002259456) (a := 2147483648) (by decide +kernel) (by decide) (by decide) ?_
              refine x_nV (t := 6) (mj := 187) (n := 3) (rc := 12) (ml := 3) (nr := 0) (np := 120) (as := [x_r 75, iv_c 2147483653, iv_c 2147483648]) (rest := []) (lo1 := [x_r 75, iv_c 2147483653, iv_c 2147483648]) (by decide +kernel) (by decide) (by decide +kernel) (x_rb_of (by decide +kernel)) rfl rfl (x_wr (by decide) (x_wi (by decide) (x_wi (by decide) x_wn))) x_wn (by decide) rfl ?_
              refine x_aload (np := 1) (x := 0) (by decide +kernel) rfl (x_nc_le (by decide)) ?_
              have q127 : h6 75 1 = 76 := by have z := jB (e := 1) 0 j7 rg_75_1_0_1 (by decide) (by decide); omega
              refine x_getR (np := 4) (x := 705) (f := 1) (q := 76) (by decide +kernel) (by decide) (by decide +kernel) q127 ?_
              refine x_const (np := 7) (x := 9223376986804585600) (a := 2147484800) (by decide +kernel) (by decide) (by decide) ?_
              refine x_const (np := 8) (x := 9223372047592194050) (a := 2147483650) (by decide +kernel) (by decide) (by decide) ?_
              refine x_aload (np := 9) (x := 0) (by decide +kernel) rfl (x_nc_le (by decide)) ?_
              have q128 : h6 75 13 = h 75 13 := jK 0 f8 rg_75_13_0_1 (by omega) (by omega) (by decide)
              refine x_getC (np := 12) (x := 717) (f := 13) (q := (h 75 13)) (by decide +kernel) (by decide) (by decide +kernel) q128 (fun l129 => ?_)
              obtain ⟨u130, q131⟩ : ∃ z, (h 75 13) = 2147483648 + z := ⟨(h 75 13) - 2147483648, by omega⟩
              refine x_imul (np := 13) (x := 0) (i := 2) (j := u130) (v := (2147483648 + 2 * u130)) (by decide +kernel) (by omega) (by omega) (by omega) (by omega) (by decide) l129 ?_
              refine x_iadd (np := 14) (x := 0) (v := (2147484800 + 2 * u130)) (by decide +kernel) (by decide) (by omega) (by omega) (by omega) ?_
              refine x_iload (np := 15) (x := 1) (by decide +kernel) rfl (by decide) ?_
              refine x_ast (np := 16) (x := 0) (kd := 1) (n := 1952) (i := (1152 + 2 * u130)) (by decide +kernel) (Or.inl rfl) (by decide +kernel) (by omega) (by omega) (by decide) (by decide) (fun z => absurd z (by decide)) ?_
              have j134 := jU (e := (1152 + 2 * u130)) (v := 2147483653) u130 j7 rg_76_1152_2_391 (by omega) (by omega) (by omega)
              have f136 := jF (e := (1152 + 2 * u130)) (v := 2147483653) u130 f15 rg_76_1152_2_391 (by omega) (by omega) (by decide)
              generalize e135 : x_up h6 76 (1152 + 2 * u130) 2147483653 = h133 at j134 f136 ⊢
              refine x_aload (np := 17) (x := 0) (by decide +kernel) rfl (x_nc_le (by decide)) ?_
              have q137 : h133 75 1 = 76 := by have z := jB (e := 1) 0 j134 rg_75_1_0_1 (by decide) (by decide); omega
              refine x_getR (np := 20) (x := 705) (f := 1) (q := 76) (by decide +kernel) (by decide) (by decide +kernel) q137 ?_
              refine x_const (np := 23) (x := 9223376986804585600) (a := 2147484800) (by decide +kernel) (by decide) (by decide) ?_
              refine x_const (np := 24) (x := 9223372047592194050) (a := 2147483650) (by decide +kernel) (by decide) (by decide) ?_
              refine x_aload (np := 25) (x := 0) (by decide +kernel) rfl (x_nc_le (by decide)) ?_
              have q138 : h133 75 13 = h6 75 13 := by rw [← e135]; exact x_up_k (by decide)
              have q139 : h6 75 13 = h 75 13 := jK 0 f8 rg_75_13_0_1 (by omega) (by omega) (by decide)
              refine x_getC (np := 28) (x := 717) (f := 13) (q := (h 75 13)) (by decide +kernel) (by decide) (by decide +kernel) (q138.trans q139) (fun l140 => ?_)
              refine x_imul (np := 29) (x := 0) (i := 2) (j := u130) (v := (2147483648 + 2 * u130)) (by decide +kernel) (by omega) (by omega) (by omega) (by omega) (by decide) l129 ?_
              refine x_iadd (np := 30) (x := 0) (v := (2147484800 + 2 * u130)) (by decide +kernel) (by decide) (by omega) (by omega) (by omega) ?_
              refine x_const (np := 31) (x := 9223372043297226753) (a := 2147483649) (by decide +kernel) (by decide) (by decide) ?_
              refine x_iadd (np := 32) (x := 0) (v := (2147484801 + 2 * u130)) (by decide +kernel) (by omega) (by decide) (by omega) (by omega) ?_
              refine x_iload (np := 33) (x := 2) (by decide +kernel) rfl (by decide) ?_
              refine x_ast (np := 34) (x := 0) (kd := 1) (n := 1952) (i := (1153 + 2 * u130)) (by decide +kernel) (Or.inl rfl) (by decide +kernel) (by omega) (by omega) (by decide) (by decide) (fun z => absurd z (by decide)) ?_
              have j143 := jU (e := (1153 + 2 * u130)) (v := 2147483648) u130 j134 rg_76_1153_2_391 (by omega) (by omega) (by omega)
              have f145 := jF (e := (1153 + 2 * u130)) (v := 2147483648) u130 f136 rg_76_1153_2_391 (by omega) (by omega) (by decide)
              generalize e144 : x_up h133 76 (1153 + 2 * u130) 2147483648 = h142 at j143 f145 ⊢
              refine x_aload (np := 35) (x := 0) (by decide +kernel) rfl (x_nc_le (by decide)) ?_
              refine x_dup (np := 36) (x := 0) (by decide +kernel) (by have z := x_nc_le (k := 75) (by decide); unfold x_r; omega) ?_
              have q146 : h142 75 13 = h133 75 13 := by rw [← e144]; exact x_up_k (by decide)
              have q147 : h133 75 13 = h6 75 13 := by rw [← e135]; exact x_up_k (by decide)
              have q148 : h6 75 13 = h 75 13 := jK 0 f8 rg_75_13_0_1 (by omega) (by omega) (by decide)
              refine x_getC (np := 39) (x := 717) (f := 13) (q := (h 75 13)) (by decide +kernel) (by decide) (by decide +kernel) ((q146.trans q147).trans q148) (fun l149 => ?_)
              refine x_const (np := 40) (x := 9223372043297226753) (a := 2147483649) (by decide +kernel) (by decide) (by decide) ?_
              refine x_iadd (np := 41) (x := 0) (v := (1 + (h 75 13))) (by decide +kernel) l129 (by decide) (by omega) (by omega) ?_
              refine x_putI (np := 44) (x := 717) (f := 13) (by decide +kernel) (by decide +kernel) (by omega) (Or.inl (by decide)) ?_
              have j151 := jU (e := 13) (v := (1 + (h 75 13))) 0 j143 rg_75_13_0_1 (by omega) (by omega) (by omega)
              have f153 := jF (e := 13) (v := (1 + (h 75 13))) 0 f145 rg_75_13_0_1 (by omega) (by omega) (by decide)
              generalize e152 : x_up h142 75 13 (1 + (h 75 13)) = h150 at j151 f153 ⊢
              refine x_retV (np := 45) (x := 0) (by decide +kernel) (by decide +kernel) ⟨rfl, ?_⟩
              have q154 : h150 75 13 = (1 + (h 75 13)) := by rw [← e152]; exact x_up_at
              refine x_iload (np := 121) (x := 1) (by decide +kernel) rfl (by decide) ?_
              refine x_ifz (k := 2) (tg := 128) (np := 124) (by decide +kernel) (by decide) (by decide) (fun q155 => ?_) (fun q156 => ?_)
              · have q155 : 2147483653 < 2147483648 := q155
                exfalso; omega
              have q156 : ¬ (2147483653 < 2147483648) := q156
              refine x_const (np := 125) (x := 9223372043297226753) (a := 2147483649) (by decide +kernel) (by decide) (by decide) ?_
              refine x_goto (np := 128) (x := 129) (by decide +kernel) ?_
              have q157 : h150 75 13 = (1 + (h 75 13)) := by rw [← e152]; exact x_up_at
              have q158 : h150 75 7 = h142 75 7 := by rw [← e152]; exact x_up_i (by omega)
              have q159 : h142 75 7 = h133 75 7 := by rw [← e144]; exact x_up_k (by decide)
              have q160 : h133 75 7 = h6 75 7 := by rw [← e135]; exact x_up_k (by decide)
              have q161 : h150 75 7 = h142 75 7 := by rw [← e152]; exact x_up_i (by omega)
              have q162 : h142 75 7 = h133 75 7 := by rw [← e144]; exact x_up_k (by decide)
              have q163 : h133 75 7 = h6 75 7 := by rw [← e135]; exact x_up_k (by decide)
              have q164 : h150 75 13 = (1 + (h 75 13)) := by rw [← e152]; exact x_up_at
              have k168 : Kp h h6 (h 75 13 - 2147483648) := Kp.fr Kp.refl f8 (by omega) (by decide)
              have k167 : Kp h h133 (h 75 13 - 2147483648) := by rw [← e135]; exact Kp.up k168 (by omega) (fun i hi => by omega)
              have k166 : Kp h h142 (h 75 13 - 2147483648) := by rw [← e144]; exact Kp.up k167 (by omega) (fun i hi => by omega)
              have k165 : Kp h h150 (h 75 13 - 2147483648) := by rw [← e152]; exact Kp.oth k166 (by decide)
              have q169 : h150 75 13 = (1 + (h 75 13)) := by rw [← e152]; exact x_up_at
              have q171 : h150 76 (1152 + 2 * u130) = h142 76 (1152 + 2 * u130) := by rw [← e152]; exact x_up_k (by decide)
              have q172 : h142 76 (1152 + 2 * u130) = h133 76 (1152 + 2 * u130) := by rw [← e144]; exact x_up_i (by omega)
              have q173 : h133 76 (1152 + 2 * u130) = 2147483653 := by rw [← e135]; exact x_up_at
              have s170 : Seg (sg h150) u130 (u130 + 1) := Seg.push (show 2147483648 ≤ h150 76 (1152 + 2 * u130) by omega) (show h150 76 (1152 + 2 * u130) ≤ 2147483656 by omega)
              have s174 : Seg (sg h150) (h 75 13 - 2147483648) (h150 75 13 - 2147483648) := Seg.cast (Seg.kp s170 Kp.refl) (by omega) (by omega)
              have w175 : ¬ Wd tB tN 2 (sk tB tN (h 75 7)) := by rw [← c13]; exact Wd.no (by decide) (Is.no c27 (by omega)) c14
              have w176 : ¬ Wd tB tN 27 (sk tB tN (h 75 7)) := by rw [← c13]; exact Wd.no (by decide) (Is.no c36 (by omega)) c14
              have w177 : ¬ Wd tB tN 5 (sk tB tN (h 75 7)) := by rw [← c13]; exact Wd.no (by decide) (Is.no c45 (by omega)) c14
              have w178 : ¬ Wd tB tN 28 (sk tB tN (h 75 7)) := by rw [← c13]; exact Wd.no (by decide) (Is.no c54 (by omega)) c14
              have w179 : ¬ Wd tB tN 29 (sk tB tN (h 75 7)) := by rw [← c13]; exact Wd.no (by decide) (Is.no c63 (by omega)) c14
              have y180 := Is.yes c72 (by omega)
              have w181 : Wd tB tN 30 (sk tB tN (h 75 7)) := by rw [← c13]; exact Wd.of' (by decide) y180 c14
              have q183 : h150 75 7 = h142 75 7 := by rw [← e152]; exact x_up_i (by omega)
              have q184 : h142 75 7 = h133 75 7 := by rw [← e144]; exact x_up_k (by decide)
              have q185 : h133 75 7 = h6 75 7 := by rw [← e135]; exact x_up_k (by decide)
              have e182 : sk tB tN (h6 75 7) = sk tB tN (sk tB tN (h 75 7) + iv_tl 30) := by rw [← c13, ← y180.1]
              have q186 : h150 75 7 = h142 75 7 := by rw [← e152]; exact x_up_i (by omega)
              have q187 : h142 75 7 = h133 75 7 := by rw [← e144]; exact x_up_k (by decide)
              have q188 : h133 75 7 = h6 75 7 := by rw [← e135]; exact x_up_k (by decide)
              refine x_retI (np := 130) (x := 0) (by decide +kernel) (by decide) (Or.inr ⟨by decide +kernel, by omega, by omega⟩) ⟨_, rfl, (by decide), ?_⟩
              exact ⟨j151, f153, (by omega), (fun z => by omega), (fun z => by omega), (fun z => by omega), k165, (fun _ => s174), (fun l => gP_wd (i := 30) (by unfold six; decide) w181 rfl e182 (by omega) (congrArg (sk tB tN) (show h6 75 7 = h150 75 7 by omega)))⟩
            have q67 : ¬ (v59 = 2147483648) := q67
            have b189 := c62 (by omega)
            refine x_const (np := 96) (x := 9223372056182128644) (a := 2147483652) (by decide +kernel) (by decide) (by decide) ?_
            refine x_goto (np := 99) (x := 113) (by decide +kernel) ?_
            refine x_istore (np := 114) (x := 1) (lo' := [x_r 75, iv_c 2147483652]) (by decide +kernel) (by decide) (Nat.le_of_ble_eq_true rfl) rfl ?_
            refine x_aload (np := 115) (x := 0) (by decide +kernel) rfl (x_nc_le (by decide)) ?_
            refine x_iload (np := 116) (x := 1) (by decide +kernel) rfl (by decide) ?_
            refine x_const (np := 117) (x := 9223372039002259456) (a := 2147483648) (by decide +kernel) (by decide) (by decide) ?_
            refine x_nV (t := 6) (mj := 187) (n := 3) (rc := 12) (ml := 3) (nr := 0) (np := 120) (as := [x_r 75, iv_c 2147483652, iv_c 2147483648]) (rest := []) (lo1 := [x_r 75, iv_c 2147483652, iv_c 2147483648]) (by decide +kernel) (by decide) (by decide +kernel) (x_rb_of (by decide +kernel)) rfl rfl (x_wr (by decide) (x_wi (by decide) (x_wi (by decide) x_wn))) x_wn (by decide) rfl ?_
            refine x_aload (np := 1) (x := 0) (by decide +kernel) rfl (x_nc_le (by decide)) ?_
            have q190 : h6 75 1 = 76 := by have z := jB (e := 1) 0 j7 rg_75_1_0_1 (by decide) (by decide); omega
            refine x_getR (np := 4) (x := 705) (f := 1) (q := 76) (by decide +kernel) (by decide) (by decide +kernel) q190 ?_
            refine x_const (np := 7) (x := 9223376986804585600) (a := 2147484800) (by decide +kernel) (by decide) (by decide) ?_
            refine x_const (np := 8) (x := 9223372047592194050) (a := 2147483650) (by decide +kernel) (by decide) (by decide) ?_
            refine x_aload (np := 9) (x := 0) (by decide +kernel) rfl (x_nc_le (by decide)) ?_
            have q191 : h6 75 13 = h 75 13 := jK 0 f8 rg_75_13_0_1 (by omega) (by omega) (by decide)
            refine x_getC (np := 12) (x := 717) (f := 13) (q := (h 75 13)) (by decide +kernel) (by decide) (by decide +kernel) q191 (fun l192 => ?_)
            obtain ⟨u193, q194⟩ : ∃ z, (h 75 13) = 2147483648 + z := ⟨(h 75 13) - 2147483648, by omega⟩
            refine x_imul (np := 13) (x := 0) (i := 2) (j := u193) (v := (2147483648 + 2 * u193)) (by decide +kernel) (by omega) (by omega) (by omega) (by omega) (by decide) l192 ?_
            refine x_iadd (np := 14) (x := 0) (v := (2147484800 + 2 * u193)) (by decide +kernel) (by decide) (by omega) (by omega) (by omega) ?_
            refine x_iload (np := 15) (x := 1) (by decide +kernel) rfl (by decide) ?_
            refine x_ast (np := 16) (x := 0) (kd := 1) (n := 1952) (i := (1152 + 2 * u193)) (by decide +kernel) (Or.inl rfl) (by decide +kernel) (by omega) (by omega) (by decide) (by decide) (fun z => absurd z (by decide)) ?_
            have j197 := jU (e := (1152 + 2 * u193)) (v := 2147483652) u193 j7 rg_76_1152_2_391 (by omega) (by omega) (by omega)
            have f199 := jF (e := (1152 + 2 * u193)) (v := 2147483652) u193 f15 rg_76_1152_2_391 (by omega) (by omega) (by decide)
            generalize e198 : x_up h6 76 (1152 + 2 * u193) 2147483652 = h196 at j197 f199 ⊢
            refine x_aload (np := 17) (x := 0) (by decide +kernel) rfl (x_nc_le (by decide)) ?_
            have q200 : h196 75 1 = 76 := by have z := jB (e := 1) 0 j197 rg_75_1_0_1 (by decide) (by decide); omega
            refine x_getR (np := 20) (x := 705) (f := 1) (q := 76) (by decide +kernel) (by decide) (by decide +kernel) q200 ?_
            refine x_const (np := 23) (x := 9223376986804585600) (a := 2147484800) (by decide +kernel) (by decide) (by decide) ?_
            refine x_const (np := 24) (x := 9223372047592194050) (a := 2147483650) (by decide +kernel) (by decide) (by decide) ?_
            refine x_aload (np := 25) (x := 0) (by decide +kernel) rfl (x_nc_le (by decide)) ?_
            have q201 : h196 75 13 = h6 75 13 := by rw [← e198]; exact x_up_k (by decide)
            have q202 : h6 75 13 = h 75 13 := jK 0 f8 rg_75_13_0_1 (by omega) (by omega) (by decide)
            refine x_getC (np := 28) (x := 717) (f := 13) (q := (h 75 13)) (by decide +kernel) (by decide) (by decide +kernel) (q201.trans q202) (fun l203 => ?_)
            refine x_imul (np := 29) (x := 0) (i := 2) (j := u193) (v := (2147483648 + 2 * u193)) (by decide +kernel) (by omega) (by omega) (by omega) (by omega) (by decide) l192 ?_
            refine x_iadd (np := 30) (x := 0) (v := (2147484800 + 2 * u193)) (by decide +kernel) (by decide) (by omega) (by omega) (by omega) ?_
            refine x_const (np := 31) (x := 9223372043297226753) (a := 2147483649) (by decide +kernel) (by decide) (by decide) ?_
            refine x_iadd (np := 32) (x := 0) (v := (2147484801 + 2 * u193)) (by decide +kernel) (by omega) (by decide) (by omega) (by omega) ?_
            refine x_iload (np := 33) (x := 2) (by decide +kernel) rfl (by decide) ?_
            refine x_ast (np := 34) (x := 0) (kd := 1) (n := 1952) (i := (1153 + 2 * u193)) (by decide +kernel) (Or.inl rfl) (by decide +kernel) (by omega) (by omega) (by decide) (by decide) (fun z => absurd z (by decide)) ?_
            have j206 := jU (e := (1153 + 2 * u193)) (v := 2147483648) u193 j197 rg_76_1153_2_391 (by omega) (by omega) (by omega)
            have f208 := jF (e := (1153 + 2 * u193)) (v := 2147483648) u193 f199 rg_76_1153_2_391 (by omega) (by omega) (by decide)
            generalize e207 : x_up h196 76 (1153 + 2 * u193) 2147483648 = h205 at j206 f208 ⊢
            refine x_aload (np := 35) (x := 0) (by decide +kernel) rfl (x_nc_le (by decide)) ?_
            refine x_dup (np := 36) (x := 0) (by decide +kernel) (by have z := x_nc_le (k := 75) (by decide); unfold x_r; omega) ?_
            have q209 : h205 75 13 = h196 75 13 := by rw [← e207]; exact x_up_k (by decide)
            have q210 : h196 75 13 = h6 75 13 := by rw [← e198]; exact x_up_k (by decide)
            have q211 : h6 75 13 = h 75 13 := jK 0 f8 rg_75_13_0_1 (by omega) (by omega) (by decide)
            refine x_getC (np := 39) (x := 717) (f := 13) (q := (h 75 13)) (by decide +kernel) (by decide) (by decide +kernel) ((q209.trans q210).trans q211) (fun l212 => ?_)
            refine x_const (np := 40) (x := 9223372043297226753) (a := 2147483649) (by decide +kernel) (by decide) (by decide) ?_
            refine x_iadd (np := 41) (x := 0) (v := (1 + (h 75 13))) (by decide +kernel) l192 (by decide) (by omega) (by omega) ?_
            refine x_putI (np := 44) (x := 717) (f := 13) (by decide +kernel) (by decide +kernel) (by omega) (Or.inl (by decide)) ?_
            have j214 := jU (e := 13) (v := (1 + (h 75 13))) 0 j206 rg_75_13_0_1 (by omega) (by omega) (by omega)
            have f216 := jF (e := 13) (v := (1 + (h 75 13))) 0 f208 rg_75_13_0_1 (by omega) (by omega) (by decide)
            generalize e215 : x_up h205 75 13 (1 + (h 75 13)) = h213 at j214 f216 ⊢
            refine x_retV (np := 45) (x := 0) (by decide +kernel) (by decide +kernel) ⟨rfl, ?_⟩
            have q217 : h213 75 13 = (1 + (h 75 13)) := by rw [← e215]; exact x_up_at
            refine x_iload (np := 121) (x := 1) (by decide +kernel) rfl (by decide) ?_
            refine x_ifz (k := 2) (tg := 128) (np := 124) (by decide +kernel) (by decide) (by decide) (fun q218 => ?_) (fun q219 => ?_)
            · have q218 : 2147483652 < 2147483648 := q218
              exfalso; omega
            have q219 : ¬ (2147483652 < 2147483648) := q219
            refine x_const (np := 125) (x := 9223372043297226753) (a := 2147483649) (by decide +kernel) (by decide) (by decide) ?_
            refine x_goto (np := 128) (x := 129) (by decide +kernel) ?_
            have q220 : h213 75 13 = (1 + (h 75 13)) := by rw [← e215]; exact x_up_at
            have q221 : h213 75 7 = h205 75 7 := by rw [← e215]; exact x_up_i (by omega)
            have q222 : h205 75 7 = h196 75 7 := by rw [← e207]; exact x_up_k (by decide)
            have q223 : h196 75 7 = h6 75 7 := by rw [← e198]; exact x_up_k (by decide)
            have q224 : h213 75 7 = h205 75 7 := by rw [← e215]; exact x_up_i (by omega)
            have q225 : h205 75 7 = h196 75 7 := by rw [← e207]; exact x_up_k (by decide)
            have q226 : h196 75 7 = h6 75 7 := by rw [← e198]; exact x_up_k (by decide)
            have q227 : h213 75 13 = (1 + (h 75 13)) := by rw [← e215]; exact x_up_at
            have k231 : Kp h h6 (h 75 13 - 2147483648) := Kp.fr Kp.refl f8 (by omega) (by decide)
            have k230 : Kp h h196 (h 75 13 - 2147483648) := by rw [← e198]; exact Kp.up k231 (by omega) (fun i hi => by omega)
            have k229 : Kp h h205 (h 75 13 - 2147483648) := by rw [← e207]; exact Kp.up k230 (by omega) (fun i hi => by omega)
            have k228 : Kp h h213 (h 75 13 - 2147483648) := by rw [← e215]; exact Kp.oth k229 (by decide)
            have q232 : h213 75 13 = (1 + (h 75 13)) := by rw [← e215]; exact x_up_at
            have q234 : h213 76 (1152 + 2 * u193) = h205 76 (1152 + 2 * u193) := by rw [← e215]; exact x_up_k (by decide)
            have q235 : h205 76 (1152 + 2 * u193) = h196 76 (1152 + 2 * u193) := by rw [← e207]; exact x_up_i (by omega)
            have q236 : h196 76 (1152 + 2 * u193) = 2147483652 := by rw [← e198]; exact x_up_at
            have s233 : Seg (sg h213) u193 (u193 + 1) := Seg.push (show 2147483648 ≤ h213 76 (1152 + 2 * u193) by omega) (show h213 76 (1152 + 2 * u193) ≤ 2147483656 by omega)
            have s237 : Seg (sg h213) (h 75 13 - 2147483648) (h213 75 13 - 2147483648) := Seg.cast (Seg.kp s233 Kp.refl) (by omega) (by omega)
            have w238 : ¬ Wd tB tN 2 (sk tB tN (h 75 7)) := by rw [← c13]; exact Wd.no (by decide) (Is.no c27 (by omega)) c14
            have w239 : ¬ Wd tB tN 27 (sk tB tN (h 75 7)) := by rw [← c13]; exact Wd.no (by decide) (Is.no c36 (by omega)) c14
            have w240 : ¬ Wd tB tN 5 (sk tB tN (h 75 7)) := by rw [← c13]; exact Wd.no (by decide) (Is.no c45 (by omega)) c14
            have w241 : ¬ Wd tB tN 28 (sk tB tN (h 75 7)) := by rw [← c13]; exact Wd.no (by decide) (Is.no c54 (by omega)) c14
            have y242 := Is.yes c63 (by omega)
            have w243 : Wd tB tN 29 (sk tB tN (h 75 7)) := by rw [← c13]; exact Wd.of' (by decide) y242 c14
            have q245 : h213 75 7 = h205 75 7 := by rw [← e215]; exact x_up_i (by omega)
            have q246 : h205 75 7 = h196 75 7 := by rw [← e207]; exact x_up_k (by decide)
            have q247 : h196 75 7 = h6 75 7 := by rw [← e198]; exact x_up_k (by decide)
            have e244 : sk tB tN (h6 75 7) = sk tB tN (sk tB tN (h 75 7) + iv_tl 29) := by rw [← c13, ← y242.1]
            have q248 : h213 75 7 = h205 75 7 := by rw [← e215]; exact x_up_i (by omega)
            have q249 : h205 75 7 = h196 75 7 := by rw [← e207]; exact x_up_k (by decide)
            have q250 : h196 75 7 = h6 75 7 := by rw [← e198]; exact x_up_k (by decide)
            refine x_retI (np := 130) (x := 0) (by decide +kernel) (by decide) (Or.inr ⟨by decide +kernel, by omega, by omega⟩) ⟨_, rfl, (by decide), ?_⟩
            exact ⟨j214, f216, (by omega), (fun z => by omega), (fun z => by omega), (fun z => by omega), k228, (fun _ => s237), (fun l => gP_wd (i := 29) (by unfold six; decide) w243 rfl e244 (by omega) (congrArg (sk tB tN) (show h6 75 7 = h213 75 7 by omega)))⟩
          have q58 : ¬ (v50 = 2147483648) := q58
          have b251 := c53 (by omega)
          refine x_const (np := 83) (x := 9223372051887161347) (a := 2147483651) (by decide +kernel) (by decide) (by decide) ?_
          refine x_goto (np := 86) (x := 113) (by decide +kernel) ?_
          refine x_istore (np := 114) (x := 1) (lo' := [x_r 75, iv_c 2147483651]) (by decide +kernel) (by decide) (Nat.le_of_ble_eq_true rfl) rfl ?_
          refine x_aload (np := 115) (x := 0) (by decide +kernel) rfl (x_nc_le (by decide)) ?_
          refine x_iload (np := 116) (x := 1) (by decide +kernel) rfl (by decide) ?_
          refine x_const (np := 117) (x := 9223372039002259456) (a := 2147483648) (by decide +kernel) (by decide) (by decide) ?_
          refine x_nV (t := 6) (mj := 187) (n := 3) (rc := 12) (ml := 3) (nr := 0) (np := 120) (as := [x_r 75, iv_c 2147483651, iv_c 2147483648]) (rest := []) (lo1 := [x_r 75, iv_c 2147483651, iv_c 2147483648]) (by decide +kernel) (by decide) (by decide +kernel) (x_rb_of (by decide +kernel)) rfl rfl (x_wr (by decide) (x_wi (by decide) (x_wi (by decide) x_wn))) x_wn (by decide) rfl ?_
          refine x_aload (np := 1) (x := 0) (by decide +kernel) rfl (x_nc_le (by decide)) ?_
          have q252 : h6 75 1 = 76 := by have z := jB (e := 1) 0 j7 rg_75_1_0_1 (by decide) (by decide); omega
          refine x_getR (np := 4) (x := 705) (f := 1) (q := 76) (by decide +kernel) (by decide) (by decide +kernel) q252 ?_
          refine x_const (np := 7) (x := 9223376986804585600) (a := 2147484800) (by decide +kernel) (by decide) (by decide) ?_
          refine x_const (np := 8) (x := 9223372047592194050) (a := 2147483650) (by decide +kernel) (by decide) (by decide) ?_
          refine x_aload (np := 9) (x := 0) (by decide +kernel) rfl (x_nc_le (by decide)) ?_
          have q253 : h6 75 13 = h 75 13 := jK 0 f8 rg_75_13_0_1 (by omega) (by omega) (by decide)
          refine x_getC (np := 12) (x := 717) (f := 13) (q := (h 75 13)) (by decide +kernel) (by decide) (by decide +kernel) q253 (fun l254 => ?_)
          obtain ⟨u255, q256⟩ : ∃ z, (h 75 13) = 2147483648 + z := ⟨(h 75 13) - 2147483648, by omega⟩
          refine x_imul (np := 13) (x := 0) (i := 2) (j := u255) (v := (2147483648 + 2 * u255)) (by decide +kernel) (by omega) (by omega) (by omega) (by omega) (by decide) l254 ?_
          refine x_iadd (np := 14) (x := 0) (v := (2147484800 + 2 * u255)) (by decide +kernel) (by decide) (by omega) (by omega) (by omega) ?_
          refine x_iload (np := 15) (x := 1) (by decide +kernel) rfl (by decide) ?_
          refine x_ast (np := 16) (x := 0) (kd := 1) (n := 1952) (i := (1152 + 2 * u255)) (by decide +kernel) (Or.inl rfl) (by decide +kernel) (by omega) (by omega) (by decide) (by decide) (fun z => absurd z (by decide)) ?_
          have j259 := jU (e := (1152 + 2 * u255)) (v := 2147483651) u255 j7 rg_76_1152_2_392 (by omega) (by omega) (by omega)
          have f261 := jF (e := (1152 + 2 * u255)) (v := 2147483651) u255 f15 rg_76_1152_2_392 (by omega) (by omega) (by decide)
          generalize e260 : x_up h6 76 (1152 + 2 * u255) 2147483651 = h258 at j259 f261 ⊢
          refine x_aload (np := 17) (x := 0) (by decide +kernel) rfl (x_nc_le (by decide)) ?_
          have q262 : h258 75 1 = 76 := by have z := jB (e := 1) 0 j259 rg_75_1_0_1 (by decide) (by decide); omega
          refine x_getR (np := 20) (x := 705) (f := 1) (q := 76) (by decide +kernel) (by decide) (by decide +kernel) q262 ?_
          refine x_const (np := 23) (x := 9223376986804585600) (a := 2147484800) (by decide +kernel) (by decide) (by decide) ?_
          refine x_const (np := 24) (x := 9223372047592194050) (a := 2147483650) (by decide +kernel) (by decide) (by decide) ?_
          refine x_aload (np := 25) (x := 0) (by decide +kernel) rfl (x_nc_le (by decide)) ?_
          have q263 : h258 75 13 = h6 75 13 := by rw [← e260]; exact x_up_k (by decide)
          have q264 : h6 75 13 = h 75 13 := jK 0 f8 rg_75_13_0_1 (by omega) (by omega) (by decide)
          refine x_getC (np := 28) (x := 717) (f := 13) (q := (h 75 13)) (by decide +kernel) (by decide) (by decide +kernel) (q263.trans q264) (fun l265 => ?_)
          refine x_imul (np := 29) (x := 0) (i := 2) (j := u255) (v := (2147483648 + 2 * u255)) (by decide +kernel) (by omega) (by omega) (by omega) (by omega) (by decide) l254 ?_
          refine x_iadd (np := 30) (x := 0) (v := (2147484800 + 2 * u255)) (by decide +kernel) (by decide) (by omega) (by omega) (by omega) ?_
          refine x_const (np := 31) (x := 9223372043297226753) (a := 2147483649) (by decide +kernel) (by decide) (by decide) ?_
          refine x_iadd (np := 32) (x := 0) (v := (2147484801 + 2 * u255)) (by decide +kernel) (by omega) (by decide) (by omega) (by omega) ?_
          refine x_iload (np := 33) (x := 2) (by decide +kernel) rfl (by decide) ?_
          refine x_ast (np := 34) (x := 0) (kd := 1) (n := 1952) (i := (1153 + 2 * u255)) (by decide +kernel) (Or.inl rfl) (by decide +kernel) (by omega) (by omega) (by decide) (by decide) (fun z => absurd z (by decide)) ?_
          have j268 := jU (e := (1153 + 2 * u255)) (v := 2147483648) u255 j259 rg_76_1153_2_392 (by omega) (by omega) (by omega)
          have f270 := jF (e := (1153 + 2 * u255)) (v := 2147483648) u255 f261 rg_76_1153_2_392 (by omega) (by omega) (by decide)
          generalize e269 : x_up h258 76 (1153 + 2 * u255) 2147483648 = h267 at j268 f270 ⊢
          refine x_aload (np := 35) (x := 0) (by decide +kernel) rfl (x_nc_le (by decide)) ?_
          refine x_dup (np := 36) (x := 0) (by decide +kernel) (by have z := x_nc_le (k := 75) (by decide); unfold x_r; omega) ?_
          have q271 : h267 75 13 = h258 75 13 := by rw [← e269]; exact x_up_k (by decide)
          have q272 : h258 75 13 = h6 75 13 := by rw [← e260]; exact x_up_k (by decide)
          have q273 : h6 75 13 = h 75 13 := jK 0 f8 rg_75_13_0_1 (by omega) (by omega) (by decide)
          refine x_getC (np := 39) (x := 717) (f := 13) (q := (h 75 13)) (by decide +kernel) (by decide) (by decide +kernel) ((q271.trans q272).trans q273) (fun l274 => ?_)
          refine x_const (np := 40) (x := 9223372043297226753) (a := 2147483649) (by decide +kernel) (by decide) (by decide) ?_
          refine x_iadd (np := 41) (x := 0) (v := (1 + (h 75 13))) (by decide +kernel) l254 (by decide) (by omega) (by omega) ?_
          refine x_putI (np := 44) (x := 717) (f := 13) (by decide +kernel) (by decide +kernel) (by omega) (Or.inl (by decide)) ?_
          have j276 := jU (e := 13) (v := (1 + (h 75 13))) 0 j268 rg_75_13_0_1 (by omega) (by omega) (by omega)
          have f278 := jF (e := 13) (v := (1 + (h 75 13))) 0 f270 rg_75_13_0_1 (by omega) (by omega) (by decide)
          generalize e277 : x_up h267 75 13 (1 + (h 75 13)) = h275 at j276 f278 ⊢
          refine x_retV (np := 45) (x := 0) (by decide +kernel) (by decide +kernel) ⟨rfl, ?_⟩
          have q279 : h275 75 13 = (1 + (h 75 13)) := by rw [← e277]; exact x_up_at
          refine x_iload (np := 121) (x := 1) (by decide +kernel) rfl (by decide) ?_
          refine x_ifz (k := 2) (tg := 128) (np := 124) (by decide +kernel) (by decide) (by decide) (fun q280 => ?_) (fun q281 => ?_)
          · have q280 : 2147483651 < 2147483648 := q280
            exfalso; omega
          have q281 : ¬ (2147483651 < 2147483648) := q281
          refine x_const (np := 125) (x := 9223372043297226753) (a := 2147483649) (by decide +kernel) (by decide) (by decide) ?_
          refine x_goto (np := 128) (x := 129) (by decide +kernel) ?_
          have q282 : h275 75 13 = (1 + (h 75 13)) := by rw [← e277]; exact x_up_at
          have q283 : h275 75 7 = h267 75 7 := by rw [← e277]; exact x_up_i (by omega)
          have q284 : h267 75 7 = h258 75 7 := by rw [← e269]; exact x_up_k (by decide)
          have q285 : h258 75 7 = h6 75 7 := by rw [← e260]; exact x_up_k (by decide)
          have q286 : h275 75 7 = h267 75 7 := by rw [← e277]; exact x_up_i (by omega)
          have q287 : h267 75 7 = h258 75 7 := by rw [← e269]; exact x_up_k (by decide)
          have q288 : h258 75 7 = h6 75 7 := by rw [← e260]; exact x_up_k (by decide)
          have q289 : h275 75 13 = (1 + (h 75 13)) := by rw [← e277]; exact x_up_at
          have k293 : Kp h h6 (h 75 13 - 2147483648) := Kp.fr Kp.refl f8 (by omega) (by decide)
          have k292 : Kp h h258 (h 75 13 - 2147483648) := by rw [← e260]; exact Kp.up k293 (by omega) (fun i hi => by omega)
          have k291 : Kp h h267 (h 75 13 - 2147483648) := by rw [← e269]; exact Kp.up k292 (by omega) (fun i hi => by omega)
          have k290 : Kp h h275 (h 75 13 - 2147483648) := by rw [← e277]; exact Kp.oth k291 (by decide)
          have q294 : h275 75 13 = (1 + (h 75 13)) := by rw [← e277]; exact x_up_at
          have q296 : h275 76 (1152 + 2 * u255) = h267 76 (1152 + 2 * u255) := by rw [← e277]; exact x_up_k (by decide)
          have q297 : h267 76 (1152 + 2 * u255) = h258 76 (1152 + 2 * u255) := by rw [← e269]; exact x_up_i (by omega)
          have q298 : h258 76 (1152 + 2 * u255) = 2147483651 := by rw [← e260]; exact x_up_at
          have s295 : Seg (sg h275) u255 (u255 + 1) := Seg.push (show 2147483648 ≤ h275 76 (1152 + 2 * u255) by omega) (show h275 76 (1152 + 2 * u255) ≤ 2147483656 by omega)
          have s299 : Seg (sg h275) (h 75 13 - 2147483648) (h275 75 13 - 2147483648) := Seg.cast (Seg.kp s295 Kp.refl) (by omega) (by omega)
          have w300 : ¬ Wd tB tN 2 (sk tB tN (h 75 7)) := by rw [← c13]; exact Wd.no (by decide) (Is.no c27 (by omega)) c14
          have w301 : ¬ Wd tB tN 27 (sk tB tN (h 75 7)) := by rw [← c13]; exact Wd.no (by decide) (Is.no c36 (by omega)) c14
          have w302 : ¬ Wd tB tN 5 (sk tB tN (h 75 7)) := by rw [← c13]; exact Wd.no (by decide) (Is.no c45 (by omega)) c14
          have y303 := Is.yes c54 (by omega)
          have w304 : Wd tB tN 28 (sk tB tN (h 75 7)) := by rw [← c13]; exact Wd.of' (by decide) y303 c14
          have q306 : h275 75 7 = h267 75 7 := by rw [← e277]; exact x_up_i (by omega)
          have q307 : h267 75 7 = h258 75 7 := by rw [← e269]; exact x_up_k (by decide)
          have q308 : h258 75 7 = h6 75 7 := by rw [← e260]; exact x_up_k (by decide)
          have e305 : sk tB tN (h6 75 7) = sk tB tN (sk tB tN (h 75 7) + iv_tl 28) := by rw [← c13, ← y303.1]
          have q309 : h275 75 7 = h267 75 7 := by rw [← e277]; exact x_up_i (by omega)
          have q310 : h267 75 7 = h258 75 7 := by rw [← e269]; exact x_up_k (by decide)
          have q311 : h258 75 7 = h6 75 7 := by rw [← e260]; exact x_up_k (by decide)
          refine x_retI (np := 130) (x := 0) (by decide +kernel) (by decide) (Or.inr ⟨by decide +kernel, by omega, by omega⟩) ⟨_, rfl, (by decide), ?_⟩
          exact ⟨j276, f278, (by omega), (fun z => by omega), (fun z => by omega), (fun z => by omega), k290, (fun _ => s299), (fun l => gP_wd (i := 28) (by unfold six; decide) w304 rfl e305 (by omega) (congrArg (sk tB tN) (show h6 75 7 = h275 75 7 by omega)))⟩
        have q49 : ¬ (v41 = 2147483648) := q49
        have b312 := c44 (by omega)
        refine x_const (np := 70) (x := 9223372047592194050) (a := 2147483650) (by decide +kernel) (by decide) (by decide) ?_
        refine x_goto (np := 73) (x := 113) (by decide +kernel) ?_
        refine x_istore (np := 114) (x := 1) (lo' := [x_r 75, iv_c 2147483650]) (by decide +kernel) (by decide) (Nat.le_of_ble_eq_true rfl) rfl ?_
        refine x_aload (np := 115) (x := 0) (by decide +kernel) rfl (x_nc_le (by decide)) ?_
        refine x_iload (np := 116) (x := 1) (by decide +kernel) rfl (by decide) ?_
        refine x_const (np := 117) (x := 9223372039002259456) (a := 2147483648) (by decide +kernel) (by decide) (by decide) ?_
        refine x_nV (t := 6) (mj := 187) (n := 3) (rc := 12) (ml := 3) (nr := 0) (np := 120) (as := [x_r 75, iv_c 2147483650, iv_c 2147483648]) (rest := []) (lo1 := [x_r 75, iv_c 2147483650, iv_c 2147483648]) (by decide +kernel) (by decide) (by decide +kernel) (x_rb_of (by decide +kernel)) rfl rfl (x_wr (by decide) (x_wi (by decide) (x_wi (by decide) x_wn))) x_wn (by decide) rfl ?_
        refine x_aload (np := 1) (x := 0) (by decide +kernel) rfl (x_nc_le (by decide)) ?_
        have q313 : h6 75 1 = 76 := by have z := jB (e := 1) 0 j7 rg_75_1_0_1 (by decide) (by decide); omega
        refine x_getR (np := 4) (x := 705) (f := 1) (q := 76) (by decide +kernel) (by decide) (by decide +kernel) q313 ?_
        refine x_const (np := 7) (x := 9223376986804585600) (a := 2147484800) (by decide +kernel) (by decide) (by decide) ?_
        refine x_const (np := 8) (x := 9223372047592194050) (a := 2147483650) (by decide +kernel) (by decide) (by decide) ?_
        refine x_aload (np := 9) (x := 0) (by decide +kernel) rfl (x_nc_le (by decide)) ?_
        have q314 : h6 75 13 = h 75 13 := jK 0 f8 rg_75_13_0_1 (by omega) (by omega) (by decide)
        refine x_getC (np := 12) (x := 717) (f := 13) (q := (h 75 13)) (by decide +kernel) (by decide) (by decide +kernel) q314 (fun l315 => ?_)
        obtain ⟨u316, q317⟩ : ∃ z, (h 75 13) = 2147483648 + z := ⟨(h 75 13) - 2147483648, by omega⟩
        refine x_imul (np := 13) (x := 0) (i := 2) (j := u316) (v := (2147483648 + 2 * u316)) (by decide +kernel) (by omega) (by omega) (by omega) (by omega) (by decide) l315 ?_
        refine x_iadd (np := 14) (x := 0) (v := (2147484800 + 2 * u316)) (by decide +kernel) (by decide) (by omega) (by omega) (by omega) ?_
        refine x_iload (np := 15) (x := 1) (by decide +kernel) rfl (by decide) ?_
        refine x_ast (np := 16) (x := 0) (kd := 1) (n := 1952) (i := (1152 + 2 * u316)) (by decide +kernel) (Or.inl rfl) (by decide +kernel) (by omega) (by omega) (by decide) (by decide) (fun z => absurd z (by decide)) ?_
        have j320 := jU (e := (1152 + 2 * u316)) (v := 2147483650) u316 j7 rg_76_1152_2_390 (by omega) (by omega) (by omega)
        have f322 := jF (e := (1152 + 2 * u316)) (v := 2147483650) u316 f15 rg_76_1152_2_390 (by omega) (by omega) (by decide)
        generalize e321 : x_up h6 76 (1152 + 2 * u316) 2147483650 = h319 at j320 f322 ⊢
        refine x_aload (np := 17) (x := 0) (by decide +kernel) rfl (x_nc_le (by decide)) ?_
        have q323 : h319 75 1 = 76 := by have z := jB (e := 1) 0 j320 rg_75_1_0_1 (by decide) (by decide); omega
        refine x_getR (np := 20) (x := 705) (f := 1) (q := 76) (by decide +kernel) (by decide) (by decide +kernel) q323 ?_
        refine x_const (np := 23) (x := 9223376986804585600) (a := 2147484800) (by decide +kernel) (by decide) (by decide) ?_
        refine x_const (np := 24) (x := 9223372047592194050) (a := 2147483650) (by decide +kernel) (by decide) (by decide) ?_
        refine x_aload (np := 25) (x := 0) (by decide +kernel) rfl (x_nc_le (by decide)) ?_
        have q324 : h319 75 13 = h6 75 13 := by rw [← e321]; exact x_up_k (by decide)
        have q325 : h6 75 13 = h 75 13 := jK 0 f8 rg_75_13_0_1 (by omega) (by omega) (by decide)
        refine x_getC (np := 28) (x := 717) (f := 13) (q := (h 75 13)) (by decide +kernel) (by decide) (by decide +kernel) (q324.trans q325) (fun l326 => ?_)
        refine x_imul (np := 29) (x := 0) (i := 2) (j := u316) (v := (2147483648 + 2 * u316)) (by decide +kernel) (by omega) (by omega) (by omega) (by omega) (by decide) l315 ?_
        refine x_iadd (np := 30) (x := 0) (v := (2147484800 + 2 * u316)) (by decide +kernel) (by decide) (by omega) (by omega) (by omega) ?_
        refine x_const (np := 31) (x := 9223372043297226753) (a := 2147483649) (by decide +kernel) (by decide) (by decide) ?_
        refine x_iadd (np := 32) (x := 0) (v := (2147484801 + 2 * u316)) (by decide +kernel) (by omega) (by decide) (by omega) (by omega) ?_
        refine x_iload (np := 33) (x := 2) (by decide +kernel) rfl (by decide) ?_
        refine x_ast (np := 34) (x := 0) (kd := 1) (n := 1952) (i := (1153 + 2 * u316)) (by decide +kernel) (Or.inl rfl) (by decide +kernel) (by omega) (by omega) (by decide) (by decide) (fun z => absurd z (by decide)) ?_
        have j329 := jU (e := (1153 + 2 * u316)) (v := 2147483648) u316 j320 rg_76_1153_2_390 (by omega) (by omega) (by omega)
        have f331 := jF (e := (1153 + 2 * u316)) (v := 2147483648) u316 f322 rg_76_1153_2_390 (by omega) (by omega) (by decide)
        generalize e330 : x_up h319 76 (1153 + 2 * u316) 2147483648 = h328 at j329 f331 ⊢
        refine x_aload (np := 35) (x := 0) (by decide +kernel) rfl (x_nc_le (by decide)) ?_
        refine x_dup (np := 36) (x := 0) (by decide +kernel) (by have z := x_nc_le (k := 75) (by decide); unfold x_r; omega) ?_
        have q332 : h328 75 13 = h319 75 13 := by rw [← e330]; exact x_up_k (by decide)
        have q333 : h319 75 13 = h6 75 13 := by rw [← e321]; exact x_up_k (by decide)
        have q334 : h6 75 13 = h 75 13 := jK 0 f8 rg_75_13_0_1 (by omega) (by omega) (by decide)
        refine x_getC (np := 39) (x := 717) (f := 13) (q := (h 75 13)) (by decide +kernel) (by decide) (by decide +kernel) ((q332.trans q333).trans q334) (fun l335 => ?_)
        refine x_const (np := 40) (x := 9223372043297226753) (a := 2147483649) (by decide +kernel) (by decide) (by decide) ?_
        refine x_iadd (np := 41) (x := 0) (v := (1 + (h 75 13))) (by decide +kernel) l315 (by decide) (by omega) (by omega) ?_
        refine x_putI (np := 44) (x := 717) (f := 13) (by decide +kernel) (by decide +kernel) (by omega) (Or.inl (by decide)) ?_
        have j337 := jU (e := 13) (v := (1 + (h 75 13))) 0 j329 rg_75_13_0_1 (by omega) (by omega) (by omega)
        have f339 := jF (e := 13) (v := (1 + (h 75 13))) 0 f331 rg_75_13_0_1 (by omega) (by omega) (by decide)
        generalize e338 : x_up h328 75 13 (1 + (h 75 13)) = h336 at j337 f339 ⊢
        refine x_retV (np := 45) (x := 0) (by decide +kernel) (by decide +kernel) ⟨rfl, ?_⟩
        have q340 : h336 75 13 = (1 + (h 75 13)) := by rw [← e338]; exact x_up_at
        refine x_iload (np := 121) (x := 1) (by decide +kernel) rfl (by decide) ?_
        refine x_ifz (k := 2) (tg := 128) (np := 124) (by decide +kernel) (by decide) (by decide) (fun q341 => ?_) (fun q342 => ?_)
        · have q341 : 2147483650 < 2147483648 := q341
          exfalso; omega
        have q342 : ¬ (2147483650 < 2147483648) := q342
        refine x_const (np := 125) (x := 9223372043297226753) (a := 2147483649) (by decide +kernel) (by decide) (by decide) ?_
        refine x_goto (np := 128) (x := 129) (by decide +kernel) ?_
        have q343 : h336 75 13 = (1 + (h 75 13)) := by rw [← e338]; exact x_up_at
        have q344 : h336 75 7 = h328 75 7 := by rw [← e338]; exact x_up_i (by omega)
        have q345 : h328 75 7 = h319 75 7 := by rw [← e330]; exact x_up_k (by decide)
        have q346 : h319 75 7 = h6 75 7 := by rw [← e321]; exact x_up_k (by decide)
        have q347 : h336 75 7 = h328 75 7 := by rw [← e338]; exact x_up_i (by omega)
        have q348 : h328 75 7 = h319 75 7 := by rw [← e330]; exact x_up_k (by decide)
        have q349 : h319 75 7 = h6 75 7 := by rw [← e321]; exact x_up_k (by decide)
        have q350 : h336 75 13 = (1 + (h 75 13)) := by rw [← e338]; exact x_up_at
        have k354 : Kp h h6 (h 75 13 - 2147483648) := Kp.fr Kp.refl f8 (by omega) (by decide)
        have k353 : Kp h h319 (h 75 13 - 2147483648) := by rw [← e321]; exact Kp.up k354 (by omega) (fun i hi => by omega)
        have k352 : Kp h h328 (h 75 13 - 2147483648) := by rw [← e330]; exact Kp.up k353 (by omega) (fun i hi => by omega)
        have k351 : Kp h h336 (h 75 13 - 2147483648) := by rw [← e338]; exact Kp.oth k352 (by decide)
        have q355 : h336 75 13 = (1 + (h 75 13)) := by rw [← e338]; exact x_up_at
        have q357 : h336 76 (1152 + 2 * u316) = h328 76 (1152 + 2 * u316) := by rw [← e338]; exact x_up_k (by decide)
        have q358 : h328 76 (1152 + 2 * u316) = h319 76 (1152 + 2 * u316) := by rw [← e330]; exact x_up_i (by omega)
        have q359 : h319 76 (1152 + 2 * u316) = 2147483650 := by rw [← e321]; exact x_up_at
        have s356 : Seg (sg h336) u316 (u316 + 1) := Seg.push (show 2147483648 ≤ h336 76 (1152 + 2 * u316) by omega) (show h336 76 (1152 + 2 * u316) ≤ 2147483656 by omega)
        have s360 : Seg (sg h336) (h 75 13 - 2147483648) (h336 75 13 - 2147483648) := Seg.cast (Seg.kp s356 Kp.refl) (by omega) (by omega)
        have w361 : ¬ Wd tB tN 2 (sk tB tN (h 75 7)) := by rw [← c13]; exact Wd.no (by decide) (Is.no c27 (by omega)) c14
        have w362 : ¬ Wd tB tN 27 (sk tB tN (h 75 7)) := by rw [← c13]; exact Wd.no (by decide) (Is.no c36 (by omega)) c14
        have y363 := Is.yes c45 (by omega)
        have w364 : Wd tB tN 5 (sk tB tN (h 75 7)) := by rw [← c13]; exact Wd.of' (by decide) y363 c14
        have q366 : h336 75 7 = h328 75 7 := by rw [← e338]; exact x_up_i (by omega)
        have q367 : h328 75 7 = h319 75 7 := by rw [← e330]; exact x_up_k (by decide)
        have q368 : h319 75 7 = h6 75 7 := by rw [← e321]; exact x_up_k (by decide)
        have e365 : sk tB tN (h6 75 7) = sk tB tN (sk tB tN (h 75 7) + iv_tl 5) := by rw [← c13, ← y363.1]
        have q369 : h336 75 7 = h328 75 7 := by rw [← e338]; exact x_up_i (by omega)
        have q370 : h328 75 7 = h319 75 7 := by rw [← e330]; exact x_up_k (by decide)
        have q371 : h319 75 7 = h6 75 7 := by rw [← e321]; exact x_up_k (by decide)
        refine x_retI (np := 130) (x := 0) (by decide +kernel) (by decide) (Or.inr ⟨by decide +kernel, by omega, by omega⟩) ⟨_, rfl, (by decide), ?_⟩
        exact ⟨j337, f339, (by omega), (fun z => by omega), (fun z => by omega), (fun z => by omega), k351, (fun _ => s360), (fun l => gP_wd (i := 5) (by unfold six; decide) w364 rfl e365 (by omega) (congrArg (sk tB tN) (show h6 75 7 = h336 75 7 by omega)))⟩
      have q40 : ¬ (v32 = 2147483648) := q40
      have b372 := c35 (by omega)
      refine x_const (np := 57) (x := 9223372043297226753) (a := 2147483649) (by decide +kernel) (by decide) (by decide) ?_
      refine x_goto (np := 60) (x := 113) (by decide +kernel) ?_
      refine x_istore (np := 114) (x := 1) (lo' := [x_r 75, iv_c 2147483649]) (by decide +kernel) (by decide) (Nat.le_of_ble_eq_true rfl) rfl ?_
      refine x_aload (np := 115) (x := 0) (by decide +kernel) rfl (x_nc_le (by decide)) ?_
      refine x_iload (np := 116) (x := 1) (by decide +kernel) rfl (by decide) ?_
      refine x_const (np := 117) (x := 9223372039002259456) (a := 2147483648) (by decide +kernel) (by decide) (by decide) ?_
      refine x_nV (t := 6) (mj := 187) (n := 3) (rc := 12) (ml := 3) (nr := 0) (np := 120) (as := [x_r 75, iv_c 2147483649, iv_c 2147483648]) (rest := []) (lo1 := [x_r 75, iv_c 2147483649, iv_c 2147483648]) (by decide +kernel) (by decide) (by decide +kernel) (x_rb_of (by decide +kernel)) rfl rfl (x_wr (by decide) (x_wi (by decide) (x_wi (by decide) x_wn))) x_wn (by decide) rfl ?_
      refine x_aload (np := 1) (x := 0) (by decide +kernel) rfl (x_nc_le (by decide)) ?_
      have q373 : h6 75 1 = 76 := by have z := jB (e := 1) 0 j7 rg_75_1_0_1 (by decide) (by decide); omega
      refine x_getR (np := 4) (x := 705) (f := 1) (q := 76) (by decide +kernel) (by decide) (by decide +kernel) q373 ?_
      refine x_const (np := 7) (x := 9223376986804585600) (a := 2147484800) (by decide +kernel) (by decide) (by decide) ?_
      refine x_const (np := 8) (x := 9223372047592194050) (a := 2147483650) (by decide +kernel) (by decide) (by decide) ?_
      refine x_aload (np := 9) (x := 0) (by decide +kernel) rfl (x_nc_le (by decide)) ?_
      have q374 : h6 75 13 = h 75 13 := jK 0 f8 rg_75_13_0_1 (by omega) (by omega) (by decide)
      refine x_getC (np := 12) (x := 717) (f := 13) (q := (h 75 13)) (by decide +kernel) (by decide) (by decide +kernel) q374 (fun l375 => ?_)
      obtain ⟨u376, q377⟩ : ∃ z, (h 75 13) = 2147483648 + z := ⟨(h 75 13) - 2147483648, by omega⟩
      refine x_imul (np := 13) (x := 0) (i := 2) (j := u376) (v := (2147483648 + 2 * u376)) (by decide +kernel) (by omega) (by omega) (by omega) (by omega) (by decide) l375 ?_
      refine x_iadd (np := 14) (x := 0) (v := (2147484800 + 2 * u376)) (by decide +kernel) (by decide) (by omega) (by omega) (by omega) ?_
      refine x_iload (np := 15) (x := 1) (by decide +kernel) rfl (by decide) ?_
      refine x_ast (np := 16) (x := 0) (kd := 1) (n := 1952) (i := (1152 + 2 * u376)) (by decide +kernel) (Or.inl rfl) (by decide +kernel) (by omega) (by omega) (by decide) (by decide) (fun z => absurd z (by decide)) ?_
      have j380 := jU (e := (1152 + 2 * u376)) (v := 2147483649) u376 j7 rg_76_1152_2_392 (by omega) (by omega) (by omega)
      have f382 := jF (e := (1152 + 2 * u376)) (v := 2147483649) u376 f15 rg_76_1152_2_392 (by omega) (by omega) (by decide)
      generalize e381 : x_up h6 76 (1152 + 2 * u376) 2147483649 = h379 at j380 f382 ⊢
      refine x_aload (np := 17) (x := 0) (by decide +kernel) rfl (x_nc_le (by decide)) ?_
      have q383 : h379 75 1 = 76 := by have z := jB (e := 1) 0 j380 rg_75_1_0_1 (by decide) (by decide); omega
      refine x_getR (np := 20) (x := 705) (f := 1) (q := 76) (by decide +kernel) (by decide) (by decide +kernel) q383 ?_
      refine x_const (np := 23) (x := 9223376986804585600) (a := 2147484800) (by decide +kernel) (by decide) (by decide) ?_
      refine x_const (np := 24) (x := 9223372047592194050) (a := 2147483650) (by decide +kernel) (by decide) (by decide) ?_
      refine x_aload (np := 25) (x := 0) (by decide +kernel) rfl (x_nc_le (by decide)) ?_
      have q384 : h379 75 13 = h6 75 13 := by rw [← e381]; exact x_up_k (by decide)
      have q385 : h6 75 13 = h 75 13 := jK 0 f8 rg_75_13_0_1 (by omega) (by omega) (by decide)
      refine x_getC (np := 28) (x := 717) (f := 13) (q := (h 75 13)) (by decide +kernel) (by decide) (by decide +kernel) (q384.trans q385) (fun l386 => ?_)
      refine x_imul (np := 29) (x := 0) (i := 2) (j := u376) (v := (2147483648 + 2 * u376)) (by decide +kernel) (by omega) (by omega) (by omega) (by omega) (by decide) l375 ?_
      refine x_iadd (np := 30) (x := 0) (v := (2147484800 + 2 * u376)) (by decide +kernel) (by decide) (by omega) (by omega) (by omega) ?_
      refine x_const (np := 31) (x := 9223372043297226753) (a := 2147483649) (by decide +kernel) (by decide) (by decide) ?_
      refine x_iadd (np := 32) (x := 0) (v := (2147484801 + 2 * u376)) (by decide +kernel) (by omega) (by decide) (by omega) (by omega) ?_
      refine x_iload (np := 33) (x := 2) (by decide +kernel) rfl (by decide) ?_
      refine x_ast (np := 34) (x := 0) (kd := 1) (n := 1952) (i := (1153 + 2 * u376)) (by decide +kernel) (Or.inl rfl) (by decide +kernel) (by omega) (by omega) (by decide) (by decide) (fun z => absurd z (by decide)) ?_
      have j389 := jU (e := (1153 + 2 * u376)) (v := 2147483648) u376 j380 rg_76_1153_2_392 (by omega) (by omega) (by omega)
      have f391 := jF (e := (1153 + 2 * u376)) (v := 2147483648) u376 f382 rg_76_1153_2_392 (by omega) (by omega) (by decide)
      generalize e390 : x_up h379 76 (1153 + 2 * u376) 2147483648 = h388 at j389 f391 ⊢
      refine x_aload (np := 35) (x := 0) (by decide +kernel) rfl (x_nc_le (by decide)) ?_
      refine x_dup (np := 36) (x := 0) (by decide +kernel) (by have z := x_nc_le (k := 75) (by decide); unfold x_r; omega) ?_
      have q392 : h388 75 13 = h379 75 13 := by rw [← e390]; exact x_up_k (by decide)
      have q393 : h379 75 13 = h6 75 13 := by rw [← e381]; exact x_up_k (by decide)
      have q394 : h6 75 13 = h 75 13 := jK 0 f8 rg_75_13_0_1 (by omega) (by omega) (by decide)
      refine x_getC (np := 39) (x := 717) (f := 13) (q := (h 75 13)) (by decide +kernel) (by decide) (by decide +kernel) ((q392.trans q393).trans q394) (fun l395 => ?_)
      refine x_const (np := 40) (x := 9223372043297226753) (a := 2147483649) (by decide +kernel) (by decide) (by decide) ?_
      refine x_iadd (np := 41) (x := 0) (v := (1 + (h 75 13))) (by decide +kernel) l375 (by decide) (by omega) (by omega) ?_
      refine x_putI (np := 44) (x := 717) (f := 13) (by decide +kernel) (by decide +kernel) (by omega) (Or.inl (by decide)) ?_
      have j397 := jU (e := 13) (v := (1 + (h 75 13))) 0 j389 rg_75_13_0_1 (by omega) (by omega) (by omega)
      have f399 := jF (e := 13) (v := (1 + (h 75 13))) 0 f391 rg_75_13_0_1 (by omega) (by omega) (by decide)
      generalize e398 : x_up h388 75 13 (1 + (h 75 13)) = h396 at j397 f399 ⊢
      refine x_retV (np := 45) (x := 0) (by decide +kernel) (by decide +kernel) ⟨rfl, ?_⟩
      have q400 : h396 75 13 = (1 + (h 75 13)) := by rw [← e398]; exact x_up_at
      refine x_iload (np := 121) (x := 1) (by decide +kernel) rfl (by decide) ?_
      refine x_ifz (k := 2) (tg := 128) (np := 124) (by decide +kernel) (by decide) (by decide) (fun q401 => ?_) (fun q402 => ?_)
      · have q401 : 2147483649 < 2147483648 := q401
        exfalso; omega
      have q402 : ¬ (2147483649 < 2147483648) := q402
      refine x_const (np := 125) (x := 9223372043297226753) (a := 2147483649) (by decide +kernel) (by decide) (by decide) ?_
      refine x_goto (np := 128) (x := 129) (by decide +kernel) ?_
      have q403 : h396 75 13 = (1 + (h 75 13)) := by rw [← e398]; exact x_up_at
      have q404 : h396 75 7 = h388 75 7 := by rw [← e398]; exact x_up_i (by omega)
      have q405 : h388 75 7 = h379 75 7 := by rw [← e390]; exact x_up_k (by decide)
      have q406 : h379 75 7 = h6 75 7 := by rw [← e381]; exact x_up_k (by decide)
      have q407 : h396 75 7 = h388 75 7 := by rw [← e398]; exact x_up_i (by omega)
      have q408 : h388 75 7 = h379 75 7 := by rw [← e390]; exact x_up_k (by decide)
      have q409 : h379 75 7 = h6 75 7 := by rw [← e381]; exact x_up_k (by decide)
      have q410 : h396 75 13 = (1 + (h 75 13)) := by rw [← e398]; exact x_up_at
      have k414 : Kp h h6 (h 75 13 - 2147483648) := Kp.fr Kp.refl f8 (by omega) (by decide)
      have k413 : Kp h h379 (h 75 13 - 2147483648) := by rw [← e381]; exact Kp.up k414 (by omega) (fun i hi => by omega)
      have k412 : Kp h h388 (h 75 13 - 2147483648) := by rw [← e390]; exact Kp.up k413 (by omega) (fun i hi => by omega)
      have k411 : Kp h h396 (h 75 13 - 2147483648) := by rw [← e398]; exact Kp.oth k412 (by decide)
      have q415 : h396 75 13 = (1 + (h 75 13)) := by rw [← e398]; exact x_up_at
      have q417 : h396 76 (1152 + 2 * u376) = h388 76 (1152 + 2 * u376) := by rw [← e398]; exact x_up_k (by decide)
      have q418 : h388 76 (1152 + 2 * u376) = h379 76 (1152 + 2 * u376) := by rw [← e390]; exact x_up_i (by omega)
      have q419 : h379 76 (1152 + 2 * u376) = 2147483649 := by rw [← e381]; exact x_up_at
      have s416 : Seg (sg h396) u376 (u376 + 1) := Seg.push (show 2147483648 ≤ h396 76 (1152 + 2 * u376) by omega) (show h396 76 (1152 + 2 * u376) ≤ 2147483656 by omega)
      have s420 : Seg (sg h396) (h 75 13 - 2147483648) (h396 75 13 - 2147483648) := Seg.cast (Seg.kp s416 Kp.refl) (by omega) (by omega)
      have w421 : ¬ Wd tB tN 2 (sk tB tN (h 75 7)) := by rw [← c13]; exact Wd.no (by decide) (Is.no c27 (by omega)) c14
      have y422 := Is.yes c36 (by omega)
      have w423 : Wd tB tN 27 (sk tB tN (h 75 7)) := by rw [← c13]; exact Wd.of' (by decide) y422 c14
      have q425 : h396 75 7 = h388 75 7 := by rw [← e398]; exact x_up_i (by omega)
      have q426 : h388 75 7 = h379 75 7 := by rw [← e390]; exact x_up_k (by decide)
      have q427 : h379 75 7 = h6 75 7 := by rw [← e381]; exact x_up_k (by decide)
      have e424 : sk tB tN (h6 75 7) = sk tB tN (sk tB tN (h 75 7) + iv_tl 27) := by rw [← c13, ← y422.1]
      have q428 : h396 75 7 = h388 75 7 := by rw [← e398]; exact x_up_i (by omega)
      have q429 : h388 75 7 = h379 75 7 := by rw [← e390]; exact x_up_k (by decide)
      have q430 : h379 75 7 = h6 75 7 := by rw [← e381]; exact x_up_k (by decide)
      refine x_retI (np := 130) (x := 0) (by decide +kernel) (by decide) (Or.inr ⟨by decide +kernel, by omega, by omega⟩) ⟨_, rfl, (by decide), ?_⟩
      exact ⟨j397, f399, (by omega), (fun z => by omega), (fun z => by omega), (fun z => by omega), k411, (fun _ => s420), (fun l => gP_wd (i := 27) (by unfold six; decide) w423 rfl e424 (by omega) (congrArg (sk tB tN) (show h6 75 7 = h396 75 7 by omega)))⟩
    have q31 : ¬ (v22 = 2147483648) := q31
    have b431 := c26 (by omega)
    refine x_const (np := 44) (x := 9223372039002259456) (a := 2147483648) (by decide +kernel) (by decide) (by decide) ?_
    refine x_goto (np := 47) (x := 113) (by decide +kernel) ?_
    refine x_istore (np := 114) (x := 1) (lo' := [x_r 75, iv_c 2147483648]) (by decide +kernel) (by decide) (Nat.le_of_ble_eq_true rfl) rfl ?_
    refine x_aload (np := 115) (x := 0) (by decide +kernel) rfl (x_nc_le (by decide)) ?_
    refine x_iload (np := 116) (x := 1) (by decide +kernel) rfl (by decide) ?_
    refine x_const (np := 117) (x := 9223372039002259456) (a := 2147483648) (by decide +kernel) (by decide) (by decide) ?_
    refine x_nV (t := 6) (mj := 187) (n := 3) (rc := 12) (ml := 3) (nr := 0) (np := 120) (as := [x_r 75, iv_c 2147483648, iv_c 2147483648]) (rest := []) (lo1 := [x_r 75, iv_c 2147483648, iv_c 2147483648]) (by decide +kernel) (by decide) (by decide +kernel) (x_rb_of (by decide +kernel)) rfl rfl (x_wr (by decide) (x_wi (by decide) (x_wi (by decide) x_wn))) x_wn (by decide) rfl ?_
    refine x_aload (np := 1) (x := 0) (by decide +kernel) rfl (x_nc_le (by decide)) ?_
    have q432 : h6 75 1 = 76 := by have z := jB (e := 1) 0 j7 rg_75_1_0_1 (by decide) (by decide); omega
    refine x_getR (np := 4) (x := 705) (f := 1) (q := 76) (by decide +kernel) (by decide) (by decide +kernel) q432 ?_
    refine x_const (np := 7) (x := 9223376986804585600) (a := 2147484800) (by decide +kernel) (by decide) (by decide) ?_
    refine x_const (np := 8) (x := 9223372047592194050) (a := 2147483650) (by decide +kernel) (by decide) (by decide) ?_
    refine x_aload (np := 9) (x := 0) (by decide +kernel) rfl (x_nc_le (by decide)) ?_
    have q433 : h6 75 13 = h 75 13 := jK 0 f8 rg_75_13_0_1 (by omega) (by omega) (by decide)
    refine x_getC (np := 12) (x := 717) (f := 13) (q := (h 75 13)) (by decide +kernel) (by decide) (by decide +kernel) q433 (fun l434 => ?_)
    obtain ⟨u435, q436⟩ : ∃ z, (h 75 13) = 2147483648 + z := ⟨(h 75 13) - 2147483648, by omega⟩
    refine x_imul (np := 13) (x := 0) (i := 2) (j := u435) (v := (2147483648 + 2 * u435)) (by decide +kernel) (by omega) (by omega) (by omega) (by omega) (by decide) l434 ?_
    refine x_iadd (np := 14) (x := 0) (v := (2147484800 + 2 * u435)) (by decide +kernel) (by decide) (by omega) (by omega) (by omega) ?_
    refine x_iload (np := 15) (x := 1) (by decide +kernel) rfl (by decide) ?_
    refine x_ast (np := 16) (x := 0) (kd := 1) (n := 1952) (i := (1152 + 2 * u435)) (by decide +kernel) (Or.inl rfl) (by decide +kernel) (by omega) (by omega) (by decide) (by decide) (fun z => absurd z (by decide)) ?_
    have j439 := jU (e := (1152 + 2 * u435)) (v := 2147483648) u435 j7 rg_76_1152_2_393 (by omega) (by omega) (by omega)
    have f441 := jF (e := (1152 + 2 * u435)) (v := 2147483648) u435 f15 rg_76_1152_2_393 (by omega) (by omega) (by decide)
    generalize e440 : x_up h6 76 (1152 + 2 * u435) 2147483648 = h438 at j439 f441 ⊢
    refine x_aload (np := 17) (x := 0) (by decide +kernel) rfl (x_nc_le (by decide)) ?_
    have q442 : h438 75 1 = 76 := by have z := jB (e := 1) 0 j439 rg_75_1_0_1 (by decide) (by decide); omega
    refine x_getR (np := 20) (x := 705) (f := 1) (q := 76) (by decide +kernel) (by decide) (by decide +kernel) q442 ?_
    refine x_const (np := 23) (x := 9223376986804585600) (a := 2147484800) (by decide +kernel) (by decide) (by decide) ?_
    refine x_const (np := 24) (x := 9223372047592194050) (a := 2147483650) (by decide +kernel) (by decide) (by decide) ?_
    refine x_aload (np := 25) (x := 0) (by decide +kernel) rfl (x_nc_le (by decide)) ?_
    have q443 : h438 75 13 = h6 75 13 := by rw [← e440]; exact x_up_k (by decide)
    have q444 : h6 75 13 = h 75 13 := jK 0 f8 rg_75_13_0_1 (by omega) (by omega) (by decide)
    refine x_getC (np := 28) (x := 717) (f := 13) (q := (h 75 13)) (by decide +kernel) (by decide) (by decide +kernel) (q443.trans q444) (fun l445 => ?_)
    refine x_imul (np := 29) (x := 0) (i := 2) (j := u435) (v := (2147483648 + 2 * u435)) (by decide +kernel) (by omega) (by omega) (by omega) (by omega) (by decide) l434 ?_
    refine x_iadd (np := 30) (x := 0) (v := (2147484800 + 2 * u435)) (by decide +kernel) (by decide) (by omega) (by omega) (by omega) ?_
    refine x_const (np := 31) (x := 9223372043297226753) (a := 2147483649) (by decide +kernel) (by decide) (by decide) ?_
    refine x_iadd (np := 32) (x := 0) (v := (2147484801 + 2 * u435)) (by decide +kernel) (by omega) (by decide) (by omega) (by omega) ?_
    refine x_iload (np := 33) (x := 2) (by decide +kernel) rfl (by decide) ?_
    refine x_ast (np := 34) (x := 0) (kd := 1) (n := 1952) (i := (1153 + 2 * u435)) (by decide +kernel) (Or.inl rfl) (by decide +kernel) (by omega) (by omega) (by decide) (by decide) (fun z => absurd z (by decide)) ?_
    have j448 := jU (e := (1153 + 2 * u435)) (v := 2147483648) u435 j439 rg_76_1153_2_393 (by omega) (by omega) (by omega)
    have f450 := jF (e := (1153 + 2 * u435)) (v := 2147483648) u435 f441 rg_76_1153_2_393 (by omega) (by omega) (by decide)
    generalize e449 : x_up h438 76 (1153 + 2 * u435) 2147483648 = h447 at j448 f450 ⊢
    refine x_aload (np := 35) (x := 0) (by decide +kernel) rfl (x_nc_le (by decide)) ?_
    refine x_dup (np := 36) (x := 0) (by decide +kernel) (by have z := x_nc_le (k := 75) (by decide); unfold x_r; omega) ?_
    have q451 : h447 75 13 = h438 75 13 := by rw [← e449]; exact x_up_k (by decide)
    have q452 : h438 75 13 = h6 75 13 := by rw [← e440]; exact x_up_k (by decide)
    have q453 : h6 75 13 = h 75 13 := jK 0 f8 rg_75_13_0_1 (by omega) (by omega) (by decide)
    refine x_getC (np := 39) (x := 717) (f := 13) (q := (h 75 13)) (by decide +kernel) (by decide) (by decide +kernel) ((q451.trans q452).trans q453) (fun l454 => ?_)
    refine x_const (np := 40) (x := 9223372043297226753) (a := 2147483649) (by decide +kernel) (by decide) (by decide) ?_
    refine x_iadd (np := 41) (x := 0) (v := (1 + (h 75 13))) (by decide +kernel) l434 (by decide) (by omega) (by omega) ?_
    refine x_putI (np := 44) (x := 717) (f := 13) (by decide +kernel) (by decide +kernel) (by omega) (Or.inl (by decide)) ?_
    have j456 := jU (e := 13) (v := (1 + (h 75 13))) 0 j448 rg_75_13_0_1 (by omega) (by omega) (by omega)
    have f458 := jF (e := 13) (v := (1 + (h 75 13))) 0 f450 rg_75_13_0_1 (by omega) (by omega) (by decide)
    generalize e457 : x_up h447 75 13 (1 + (h 75 13)) = h455 at j456 f458 ⊢
    refine x_retV (np := 45) (x := 0) (by decide +kernel) (by decide +kernel) ⟨rfl, ?_⟩
    have q459 : h455 75 13 = (1 + (h 75 13)) := by rw [← e457]; exact x_up_at
    refine x_iload (np := 121) (x := 1) (by decide +kernel) rfl (by decide) ?_
    refine x_ifz (k := 2) (tg := 128) (np := 124) (by decide +kernel) (by decide) (by decide) (fun q460 => ?_) (fun q461 => ?_)
    · have q460 : 2147483648 < 2147483648 := q460
      exfalso; omega
    have q461 : ¬ (2147483648 < 2147483648) := q461
    refine x_const (np := 125) (x := 9223372043297226753) (a := 2147483649) (by decide +kernel) (by decide) (by decide) ?_
    refine x_goto (np := 128) (x := 129) (by decide +kernel) ?_
    have q462 : h455 75 13 = (1 + (h 75 13)) := by rw [← e457]; exact x_up_at
    have q463 : h455 75 7 = h447 75 7 := by rw [← e457]; exact x_up_i (by omega)
    have q464 : h447 75 7 = h438 75 7 := by rw [← e449]; exact x_up_k (by decide)
    have q465 : h438 75 7 = h6 75 7 := by rw [← e440]; exact x_up_k (by decide)
    have q466 : h455 75 7 = h447 75 7 := by rw [← e457]; exact x_up_i (by omega)
    have q467 : h447 75 7 = h438 75 7 := by rw [← e449]; exact x_up_k (by decide)
    have q468 : h438 75 7 = h6 75 7 := by rw [← e440]; exact x_up_k (by decide)
    have q469 : h455 75 13 = (1 + (h 75 13)) := by rw [← e457]; exact x_up_at
    have k473 : Kp h h6 (h 75 13 - 2147483648) := Kp.fr Kp.refl f8 (by omega) (by decide)
    have k472 : Kp h h438 (h 75 13 - 2147483648) := by rw [← e440]; exact Kp.up k473 (by omega) (fun i hi => by omega)
    have k471 : Kp h h447 (h 75 13 - 2147483648) := by rw [← e449]; exact Kp.up k472 (by omega) (fun i hi => by omega)
    have k470 : Kp h h455 (h 75 13 - 2147483648) := by rw [← e457]; exact Kp.oth k471 (by decide)
    have q474 : h455 75 13 = (1 + (h 75 13)) := by rw [← e457]; exact x_up_at
    have q476 : h455 76 (1152 + 2 * u435) = h447 76 (1152 + 2 * u435) := by rw [← e457]; exact x_up_k (by decide)
    have q477 : h447 76 (1152 + 2 * u435) = h438 76 (1152 + 2 * u435) := by rw [← e449]; exact x_up_i (by omega)
    have q478 : h438 76 (1152 + 2 * u435) = 2147483648 := by rw [← e440]; exact x_up_at
    have s475 : Seg (sg h455) u435 (u435 + 1) := Seg.push (show 2147483648 ≤ h455 76 (1152 + 2 * u435) by omega) (show h455 76 (1152 + 2 * u435) ≤ 2147483656 by omega)
    have s479 : Seg (sg h455) (h 75 13 - 2147483648) (h455 75 13 - 2147483648) := Seg.cast (Seg.kp s475 Kp.refl) (by omega) (by omega)
    have y480 := Is.yes c27 (by omega)
    have w481 : Wd tB tN 2 (sk tB tN (h 75 7)) := by rw [← c13]; exact Wd.of' (by decide) y480 c14
    have q483 : h455 75 7 = h447 75 7 := by rw [← e457]; exact x_up_i (by omega)
    have q484 : h447 75 7 = h438 75 7 := by rw [← e449]; exact x_up_k (by decide)
    have q485 : h438 75 7 = h6 75 7 := by rw [← e440]; exact x_up_k (by decide)
    have e482 : sk tB tN (h6 75 7) = sk tB tN (sk tB tN (h 75 7) + iv_tl 2) := by rw [← c13, ← y480.1]
    have q486 : h455 75 7 = h447 75 7 := by rw [← e457]; exact x_up_i (by omega)
    have q487 : h447 75 7 = h438 75 7 := by rw [← e449]; exact x_up_k (by decide)
    have q488 : h438 75 7 = h6 75 7 := by rw [← e440]; exact x_up_k (by decide)
    refine x_retI (np := 130) (x := 0) (by decide +kernel) (by decide) (Or.inr ⟨by decide +kernel, by omega, by omega⟩) ⟨_, rfl, (by decide), ?_⟩
    exact ⟨j456, f458, (by omega), (fun z => by omega), (fun z => by omega), (fun z => by omega), k470, (fun _ => s479), (fun l => gP_wd (i := 2) (by unfold six; decide) w481 rfl e482 (by omega) (congrArg (sk tB tN) (show h6 75 7 = h455 75 7 by omega)))⟩
  have q21 : ¬ ((h6 75 7) ≠ (h6 75 9)) := q21
  refine x_aload (np := 16) (x := 0) (by decide +kernel) rfl (x_nc_le (by decide)) ?_
  refine x_const (np := 17) (x := 9223372039002259456) (a := 2147483648) (by decide +kernel) (by decide) (by decide) ?_
  refine x_const (np := 20) (x := 9223376329674589159) (a := 2147484647) (by decide +kernel) (by decide) (by decide) ?_
  have m492 := Tq.fr hT f8 (by decide) (by decide)
  refine x_cI (t := 6) (mj := 174) (n := 3) (rc := 12) (ml := 4) (nr := 0) (np := 23) (as := [x_r 75, iv_c 2147483648, iv_c 2147484647]) (rest := []) (lo1 := [x_r 75, iv_c 2147483648, iv_c 2147484647, 147573952589676412928]) (by decide +kernel) (by decide) (by decide +kernel) (x_rb_of (by decide +kernel)) rfl rfl (x_wr (by decide) (x_wi (by decide) (x_wi (by decide) x_wn))) x_wn (by decide) rfl (c174_75 j7  (by omega) (by omega) m492) (fun v489 h493 l490 q491 => ?_)
  obtain ⟨j494, f495, b496, c497, c498, c499, c500, c501, c502⟩ := q491
  have f503 := Fr.trans f15 f495 (by decide)
  have b504 := jB (e := 7) 0 j494 rg_75_7_0_1 (by omega) (by omega)
  have b505 := c501 (by omega)
  refine x_istore (np := 24) (x := 1) (lo' := [x_r 75, iv_c v489]) (by decide +kernel) l490 (Nat.le_of_ble_eq_true rfl) rfl ?_
  refine x_aload (np := 25) (x := 0) (by decide +kernel) rfl (x_nc_le (by decide)) ?_
  refine x_const (np := 27) (x := 9223372073361997832) (a := 2147483656) (by decide +kernel) (by decide) (by decide) ?_
  refine x_iload (np := 28) (x := 1) (by decide +kernel) rfl l490 ?_
  refine x_nV (t := 6) (mj := 187) (n := 3) (rc := 12) (ml := 3) (nr := 0) (np := 31) (as := [x_r 75, iv_c 2147483656, iv_c v489]) (rest := []) (lo1 := [x_r 75, iv_c 2147483656, iv_c v489]) (by decide +kernel) (by decide) (by decide +kernel) (x_rb_of (by decide +kernel)) rfl rfl (x_wr (by decide) (x_wi (by decide) (x_wi l490 x_wn))) x_wn (by decide) rfl ?_
  refine x_aload (np := 1) (x := 0) (by decide +kernel) rfl (x_nc_le (by decide)) ?_
  have q506 : h493 75 1 = 76 := by have z := jB (e := 1) 0 j494 rg_75_1_0_1 (by decide) (by decide); omega
  refine x_getR (np := 4) (x := 705) (f := 1) (q := 76) (by decide +kernel) (by decide) (by decide +kernel) q506 ?_
  refine x_const (np := 7) (x := 9223376986804585600) (a := 2147484800) (by decide +kernel) (by decide) (by decide) ?_
  refine x_const (np := 8) (x := 9223372047592194050) (a := 2147483650) (by decide +kernel) (by decide) (by decide) ?_
  refine x_aload (np := 9) (x := 0) (by decide +kernel) rfl (x_nc_le (by decide)) ?_
  have q507 : h493 75 13 = h6 75 13 := jK 0 f495 rg_75_13_0_1 (by omega) (by omega) (by decide)
  have q508 : h6 75 13 = h 75 13 := jK 0 f8 rg_75_13_0_1 (by omega) (by omega) (by decide)
  refine x_getC (np := 12) (x := 717) (f := 13) (q := (h 75 13)) (by decide +kernel) (by decide) (by decide +kernel) (q507.trans q508) (fun l509 => ?_)
  obtain ⟨u510, q511⟩ : ∃ z, (h 75 13) = 2147483648 + z := ⟨(h 75 13) - 2147483648, by omega⟩
  refine x_imul (np := 13) (x := 0) (i := 2) (j := u510) (v := (2147483648 + 2 * u510)) (by decide +kernel) (by omega) (by omega) (by omega) (by omega) (by decide) l509 ?_
  refine x_iadd (np := 14) (x := 0) (v := (2147484800 + 2 * u510)) (by decide +kernel) (by decide) (by omega) (by omega) (by omega) ?_
  refine x_iload (np := 15) (x := 1) (by decide +kernel) rfl (by decide) ?_
  refine x_ast (np := 16) (x := 0) (kd := 1) (n := 1952) (i := (1152 + 2 * u510)) (by decide +kernel) (Or.inl rfl) (by decide +kernel) (by omega) (by omega) (by decide) (by decide) (fun z => absurd z (by decide)) ?_
  have j514 := jU (e := (1152 + 2 * u510)) (v := 2147483656) u510 j494 rg_76_1152_2_396 (by omega) (by omega) (by omega)
  have f516 := jF (e := (1152 + 2 * u510)) (v := 2147483656) u510 f503 rg_76_1152_2_396 (by omega) (by omega) (by decide)
  generalize e515 : x_up h493 76 (1152 + 2 * u510) 2147483656 = h513 at j514 f516 ⊢
  refine x_aload (np := 17) (x := 0) (by decide +kernel) rfl (x_nc_le (by decide)) ?_
  have q517 : h513 75 1 = 76 := by have z := jB (e := 1) 0 j514 rg_75_1_0_1 (by decide) (by decide); omega
  refine x_getR (np := 20) (x := 705) (f := 1) (q := 76) (by decide +kernel) (by decide) (by decide +kernel) q517 ?_
  refine x_const (np := 23) (x := 9223376986804585600) (a := 2147484800) (by decide +kernel) (by decide) (by decide) ?_
  refine x_const (np := 24) (x := 9223372047592194050) (a := 2147483650) (by decide +kernel) (by decide) (by decide) ?_
  refine x_aload (np := 25) (x := 0) (by decide +kernel) rfl (x_nc_le (by decide)) ?_
  have q518 : h513 75 13 = h493 75 13 := by rw [← e515]; exact x_up_k (by decide)
  have q519 : h493 75 13 = h6 75 13 := jK 0 f495 rg_75_13_0_1 (by omega) (by omega) (by decide)
  have q520 : h6 75 13 = h 75 13 := jK 0 f8 rg_75_13_0_1 (by omega) (by omega) (by decide)
  refine x_getC (np := 28) (x := 717) (f := 13) (q := (h 75 13)) (by decide +kernel) (by decide) (by decide +kernel) ((q518.trans q519).trans q520) (fun l521 => ?_)
  refine x_imul (np := 29) (x := 0) (i := 2) (j := u510) (v := (2147483648 + 2 * u510)) (by decide +kernel) (by omega) (by omega) (by omega) (by omega) (by decide) l509 ?_
  refine x_iadd (np := 30) (x := 0) (v := (2147484800 + 2 * u510)) (by decide +kernel) (by decide) (by omega) (by omega) (by omega) ?_
  refine x_const (np := 31) (x := 9223372043297226753) (a := 2147483649) (by decide +kernel) (by decide) (by decide) ?_
  refine x_iadd (np := 32) (x := 0) (v := (2147484801 + 2 * u510)) (by decide +kernel) (by omega) (by decide) (by omega) (by omega) ?_
  refine x_iload (np := 33) (x := 2) (by decide +kernel) rfl l490 ?_
  refine x_ast (np := 34) (x := 0) (kd := 1) (n := 1952) (i := (1153 + 2 * u510)) (by decide +kernel) (Or.inl rfl) (by decide +kernel) (by omega) (by omega) (by decide) l490 (fun z => absurd z (by decide)) ?_
  have j524 := jU (e := (1153 + 2 * u510)) (v := v489) u510 j514 rg_76_1153_2_396 (by omega) (by omega) (by omega)
  have f526 := jF (e := (1153 + 2 * u510)) (v := v489) u510 f516 rg_76_1153_2_396 (by omega) (by omega) (by decide)
  generalize e525 : x_up h513 76 (1153 + 2 * u510) v489 = h523 at j524 f526 ⊢
  refine x_aload (np := 35) (x := 0) (by decide +kernel) rfl (x_nc_le (by decide)) ?_
  refine x_dup (np := 36) (x := 0) (by decide +kernel) (by have z := x_nc_le (k := 75) (by decide); unfold x_r; omega) ?_
  have q527 : h523 75 13 = h513 75 13 := by rw [← e525]; exact x_up_k (by decide)
  have q528 : h513 75 13 = h493 75 13 := by rw [← e515]; exact x_up_k (by decide)
  have q529 : h493 75 13 = h6 75 13 := jK 0 f495 rg_75_13_0_1 (by omega) (by omega) (by decide)
  have q530 : h6 75 13 = h 75 13 := jK 0 f8 rg_75_13_0_1 (by omega) (by omega) (by decide)
  refine x_getC (np := 39) (x := 717) (f := 13) (q := (h 75 13)) (by decide +kernel) (by decide) (by decide +kernel) (((q527.trans q528).trans q529).trans q530) (fun l531 => ?_)
  refine x_const (np := 40) (x := 9223372043297226753) (a := 2147483649) (by decide +kernel) (by decide) (by decide) ?_
  refine x_iadd (np := 41) (x := 0) (v := (1 + (h 75 13))) (by decide +kernel) l509 (by decide) (by omega) (by omega) ?_
  refine x_putI (np := 44) (x := 717) (f := 13) (by decide +kernel) (by decide +kernel) (by omega) (Or.inl (by decide)) ?_
  have j533 := jU (e := 13) (v := (1 + (h 75 13))) 0 j524 rg_75_13_0_1 (by omega) (by omega) (by omega)
  have f535 := jF (e := 13) (v := (1 + (h 75 13))) 0 f526 rg_75_13_0_1 (by omega) (by omega) (by decide)
  generalize e534 : x_up h523 75 13 (1 + (h 75 13)) = h532 at j533 f535 ⊢
  refine x_retV (np := 45) (x := 0) (by decide +kernel) (by decide +kernel) ⟨rfl, ?_⟩
  have q536 : h532 75 13 = (1 + (h 75 13)) := by rw [← e534]; exact x_up_at
  refine x_goto (np := 34) (x := 120) (by decide +kernel) ?_
  refine x_iload (np := 121) (x := 1) (by decide +kernel) rfl l490 ?_
  refine x_ifz (k := 2) (tg := 128) (np := 124) (by decide +kernel) (by decide) l490 (fun q537 => ?_) (fun q538 => ?_)
  · have q537 : v489 < 2147483648 := q537
    refine x_const (np := 129) (x := 9223372039002259456) (a := 2147483648) (by decide +kernel) (by decide) (by decide) ?_
    have q539 : h532 75 13 = (1 + (h 75 13)) := by rw [← e534]; exact x_up_at
    have q540 : h532 75 7 = h523 75 7 := by rw [← e534]; exact x_up_i (by omega)
    have q541 : h523 75 7 = h513 75 7 := by rw [← e525]; exact x_up_k (by decide)
    have q542 : h513 75 7 = h493 75 7 := by rw [← e515]; exact x_up_k (by decide)
    have q543 : h532 75 7 = h523 75 7 := by rw [← e534]; exact x_up_i (by omega)
    have q544 : h523 75 7 = h513 75 7 := by rw [← e525]; exact x_up_k (by decide)
    have q545 : h513 75 7 = h493 75 7 := by rw [← e515]; exact x_up_k (by decide)
    have q546 : h532 75 13 = (1 + (h 75 13)) := by rw [← e534]; exact x_up_at
    have k551 : Kp h h6 (h 75 13 - 2147483648) := Kp.fr Kp.refl f8 (by omega) (by decide)
    have k550 : Kp h h493 (h 75 13 - 2147483648) := Kp.fr k551 f495 (by omega) (by decide)
    have k549 : Kp h h513 (h 75 13 - 2147483648) := by rw [← e515]; exact Kp.up k550 (by omega) (fun i hi => by omega)
    have k548 : Kp h h523 (h 75 13 - 2147483648) := by rw [← e525]; exact Kp.up k549 (by omega) (fun i hi => by omega)
    have k547 : Kp h h532 (h 75 13 - 2147483648) := by rw [← e534]; exact Kp.oth k548 (by decide)
    have e552 : sk tB tN (h6 75 7) = sk tB tN (h 75 7) := (congrArg (sk tB tN) ((show h6 75 7 = h6 75 9 by omega).trans c13)).trans sk_idem
    have n553 : ¬ Ltr tB tN (sk tB tN (h 75 7)) := by rw [← c13, show h6 75 9 = h6 75 7 by omega, c14]; exact le9_end
    refine x_retI (np := 130) (x := 0) (by decide +kernel) (by decide) (Or.inr ⟨by decide +kernel, by omega, by omega⟩) ⟨_, rfl, (by decide), ?_⟩
    exact ⟨j533, f535, (by omega), (fun z => by omega), (fun z => by omega), (fun z => by omega), k547, (fun z => absurd z (by omega)), (fun l => gP_nol (Nr.nb (Nr.cast c502 e552) (by omega)) n553 (by omega))⟩
  have q538 : ¬ (v489 < 2147483648) := q538
  have b554 := c498 (by omega)
  have b555 := c499 (by omega)
  have b556 := c500 (by omega)
  refine x_const (np := 125) (x := 9223372043297226753) (a := 2147483649) (by decide +kernel) (by decide) (by decide) ?_
  refine x_goto (np := 128) (x := 129) (by decide +kernel) ?_
  have q557 : h532 75 13 = (1 + (h 75 13)) := by rw [← e534]; exact x_up_at
  have q558 : h532 75 7 = h523 75 7 := by rw [← e534]; exact x_up_i (by omega)
  have q559 : h523 75 7 = h513 75 7 := by rw [← e525]; exact x_up_k (by decide)
  have q560 : h513 75 7 = h493 75 7 := by rw [← e515]; exact x_up_k (by decide)
  have q561 : h532 75 7 = h523 75 7 := by rw [← e534]; exact x_up_i (by omega)
  have q562 : h523 75 7 = h513 75 7 := by rw [← e525]; exact x_up_k (by decide)
  have q563 : h513 75 7 = h493 75 7 := by rw [← e515]; exact x_up_k (by decide)
  have q564 : h532 75 13 = (1 + (h 75 13)) := by rw [← e534]; exact x_up_at
  have k569 : Kp h h6 (h 75 13 - 2147483648) := Kp.fr Kp.refl f8 (by omega) (by decide)
  have k568 : Kp h h493 (h 75 13 - 2147483648) := Kp.fr k569 f495 (by omega) (by decide)
  have k567 : Kp h h513 (h 75 13 - 2147483648) := by rw [← e515]; exact Kp.up k568 (by omega) (fun i hi => by omega)
  have k566 : Kp h h523 (h 75 13 - 2147483648) := by rw [← e525]; exact Kp.up k567 (by omega) (fun i hi => by omega)
  have k565 : Kp h h532 (h 75 13 - 2147483648) := by rw [← e534]; exact Kp.oth k566 (by decide)
  have q570 : h532 75 13 = (1 + (h 75 13)) := by rw [← e534]; exact x_up_at
  have q572 : h532 76 (1152 + 2 * u510) = h523 76 (1152 + 2 * u510) := by rw [← e534]; exact x_up_k (by decide)
  have q573 : h523 76 (1152 + 2 * u510) = h513 76 (1152 + 2 * u510) := by rw [← e525]; exact x_up_i (by omega)
  have q574 : h513 76 (1152 + 2 * u510) = 2147483656 := by rw [← e515]; exact x_up_at
  have s571 : Seg (sg h532) u510 (u510 + 1) := Seg.push (show 2147483648 ≤ h532 76 (1152 + 2 * u510) by omega) (show h532 76 (1152 + 2 * u510) ≤ 2147483656 by omega)
  have s575 : Seg (sg h532) (h 75 13 - 2147483648) (h532 75 13 - 2147483648) := Seg.cast (Seg.kp s571 Kp.refl) (by omega) (by omega)
  have e576 : sk tB tN (h6 75 7) = sk tB tN (h 75 7) := (congrArg (sk tB tN) ((show h6 75 7 = h6 75 9 by omega).trans c13)).trans sk_idem
  have q577 : h532 75 7 = h523 75 7 := by rw [← e534]; exact x_up_i (by omega)
  have q578 : h523 75 7 = h513 75 7 := by rw [← e525]; exact x_up_k (by decide)
  have q579 : h513 75 7 = h493 75 7 := by rw [← e515]; exact x_up_k (by decide)
  refine x_retI (np := 130) (x := 0) (by decide +kernel) (by decide) (Or.inr ⟨by decide +kernel, by omega, by omega⟩) ⟨_, rfl, (by decide), ?_⟩
  exact ⟨j533, f535, (by omega), (fun z => by omega), (fun z => by omega), (fun z => by omega), k565, (fun _ => s575), (fun l => gP_num c502 e576 (by omega) (by omega) (congrArg (sk tB tN) (show h493 75 7 = h532 75 7 by omega)))⟩
