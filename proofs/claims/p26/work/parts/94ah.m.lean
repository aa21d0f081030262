/-! ===== methods ===== -/
set_option maxHeartbeats 0 in
/-- LentNamesModel.readTownLine()Z -/
theorem c186_75 {sc : Nat × Nat} {d  : Nat} {h : xh} {tB : Nat → Nat} {tN : Nat} (hJ : J h) (hC : Cl h) (hT : Tq tB tN h) (hp0 : h 75 7 = le9 tB tN (h 75 9)) : X sc 186 (d + 7) (xI fun r h' => J h' ∧ Fr 16140901064769536001 h h' ∧ (2147483648 ≤ r ∧ r ≤ 2147483649) ∧ (r = 2147483649 → h' 78 0 = h 78 0) ∧ (r = 2147483649 → h' 78 1 = h 78 1) ∧ (r = 2147483649 → Cl h') ∧ line9 tB tN (h 76 0) (h 78 2) (h 78 3) (h 78 4) (h 78 5) (h 75 9) (rs5 r (sk tB tN (h' 75 7)) (h' 78 2) (h' 78 3) (h' 78 4) (h' 78 5)) ∧ (r = 2147483649 → Wl (wdr h) (wdr h') (h 78 3) (h' 78 3))) 0 0 0 [x_r 75] [] h := by
  have hF := Fr.refl 16140901064769536001 h
  refine x_aload (np := 1) (x := 0) (by decide +kernel) rfl (x_nc_le (by decide)) ?_
  refine x_ldcB (i := 0) (idx := 183) (tx := "lend") (by rw [tb_y186]; exact List.mem_of_getElem? (i := 35) rfl) (by decide) (by rw [tb_b186]; decide +kernel) ?_
  refine x_cP (t := 6) (mj := 170) (n := 2) (rc := 12) (ml := 4) (nr := 0) (np := 6) (as := [x_r 75, x_b (0 + 1)]) (rest := []) (lo1 := [x_r 75, x_b (0 + 1), 147573952589676412928, 147573952589676412928]) (by decide +kernel) (by decide) (by decide +kernel) (x_rb_of (by decide +kernel)) rfl rfl (x_wr (by decide) (x_wB (by decide) x_wn)) x_wn (by decide) rfl (c170_75_S0 hJ  (by decide) hT) (fun v1 l2 q3 => ?_)
  obtain ⟨b6, c4, c5⟩ := q3
  have b7 := jB (e := 7) 0 hJ rg_75_7_0_1 (by first | decide | omega) (by first | decide | omega)
  have b8 := jB (e := 9) 0 hJ rg_75_9_0_1 (by first | decide | omega) (by first | decide | omega)
  have b9 : iv_tl 0 = 4 := by decide
  refine x_ifz (k := 0) (tg := 14) (np := 9) (by decide +kernel) (by decide) l2 (fun q10 => ?_) (fun q11 => ?_)
  · have q10 : v1 = 2147483648 := q10
    refine x_aload (np := 15) (x := 0) (by decide +kernel) rfl (x_nc_le (by decide)) ?_
    refine x_ldcB (i := 17) (idx := 189) (tx := "late") (by rw [tb_y186]; exact List.mem_of_getElem? (i := 41) rfl) (by decide) (by rw [tb_b186]; decide +kernel) ?_
    refine x_cP (t := 6) (mj := 170) (n := 2) (rc := 12) (ml := 4) (nr := 0) (np := 20) (as := [x_r 75, x_b (17 + 1)]) (rest := []) (lo1 := [x_r 75, x_b (17 + 1), 147573952589676412928, 147573952589676412928]) (by decide +kernel) (by decide) (by decide +kernel) (x_rb_of (by decide +kernel)) rfl rfl (x_wr (by decide) (x_wB (by decide) x_wn)) x_wn (by decide) rfl (c170_75_S0 hJ  (by decide) hT) (fun v12 l13 q14 => ?_)
    obtain ⟨b17, c15, c16⟩ := q14
    have b18 : iv_tl 17 = 4 := by decide
    refine x_ifz (k := 0) (tg := 28) (np := 23) (by decide +kernel) (by decide) l13 (fun q19 => ?_) (fun q20 => ?_)
    · have q19 : v12 = 2147483648 := q19
      refine x_aload (np := 29) (x := 0) (by decide +kernel) rfl (x_nc_le (by decide)) ?_
      refine x_ldcB (i := 19) (idx := 194) (tx := "dies") (by rw [tb_y186]; exact List.mem_of_getElem? (i := 43) rfl) (by decide) (by rw [tb_b186]; decide +kernel) ?_
      refine x_cP (t := 6) (mj := 170) (n := 2) (rc := 12) (ml := 4) (nr := 0) (np := 34) (as := [x_r 75, x_b (19 + 1)]) (rest := []) (lo1 := [x_r 75, x_b (19 + 1), 147573952589676412928, 147573952589676412928]) (by decide +kernel) (by decide) (by decide +kernel) (x_rb_of (by decide +kernel)) rfl rfl (x_wr (by decide) (x_wB (by decide) x_wn)) x_wn (by decide) rfl (c170_75_S0 hJ  (by decide) hT) (fun v21 l22 q23 => ?_)
      obtain ⟨b26, c24, c25⟩ := q23
      have b27 : iv_tl 19 = 4 := by decide
      refine x_ifz (k := 0) (tg := 42) (np := 37) (by decide +kernel) (by decide) l22 (fun q28 => ?_) (fun q29 => ?_)
      · have q28 : v21 = 2147483648 := q28
        refine x_aload (np := 43) (x := 0) (by decide +kernel) rfl (x_nc_le (by decide)) ?_
        refine x_ldcB (i := 20) (idx := 199) (tx := "court") (by rw [tb_y186]; exact List.mem_of_getElem? (i := 44) rfl) (by decide) (by rw [tb_b186]; decide +kernel) ?_
        refine x_cP (t := 6) (mj := 170) (n := 2) (rc := 12) (ml := 4) (nr := 0) (np := 48) (as := [x_r 75, x_b (20 + 1)]) (rest := []) (lo1 := [x_r 75, x_b (20 + 1), 147573952589676412928, 147573952589676412928]) (by decide +kernel) (by decide) (by decide +kernel) (x_rb_of (by decide +kernel)) rfl rfl (x_wr (by decide) (x_wB (by decide) x_wn)) x_wn (by decide) rfl (c170_75_S0 hJ  (by decide) hT) (fun v30 l31 q32 => ?_)
        obtain ⟨b35, c33, c34⟩ := q32
        have b36 : iv_tl 20 = 5 := by decide
        refine x_ifz (k := 0) (tg := 56) (np := 51) (by decide +kernel) (by decide) l31 (fun q37 => ?_) (fun q38 => ?_)
        · have q37 : v30 = 2147483648 := q37
          refine x_aload (np := 57) (x := 0) (by decide +kernel) rfl (x_nc_le (by decide)) ?_
          refine x_ldcB (i := 6) (idx := 204) (tx := "letter") (by rw [tb_y186]; exact List.mem_of_getElem? (i := 45) rfl) (by decide) (by rw [tb_b186]; decide +kernel) ?_
          refine x_cP (t := 6) (mj := 170) (n := 2) (rc := 12) (ml := 4) (nr := 0) (np := 62) (as := [x_r 75, x_b (6 + 1)]) (rest := []) (lo1 := [x_r 75, x_b (6 + 1), 147573952589676412928, 147573952589676412928]) (by decide +kernel) (by decide) (by decide +kernel) (x_rb_of (by decide +kernel)) rfl rfl (x_wr (by decide) (x_wB (by decide) x_wn)) x_wn (by decide) rfl (c170_75_S0 hJ  (by decide) hT) (fun v39 l40 q41 => ?_)
          obtain ⟨b44, c42, c43⟩ := q41
          have b45 : iv_tl 6 = 6 := by decide
          refine x_ifz (k := 0) (tg := 70) (np := 65) (by decide +kernel) (by decide) l40 (fun q46 => ?_) (fun q47 => ?_)
          · have q46 : v39 = 2147483648 := q46
            refine x_aload (np := 71) (x := 0) (by decide +kernel) rfl (x_nc_le (by decide)) ?_
            refine x_ldcB (i := 8) (idx := 209) (tx := "debt") (by rw [tb_y186]; exact List.mem_of_getElem? (i := 47) rfl) (by decide) (by rw [tb_b186]; decide +kernel) ?_
            refine x_cP (t := 6) (mj := 170) (n := 2) (rc := 12) (ml := 4) (nr := 0) (np := 76) (as := [x_r 75, x_b (8 + 1)]) (rest := []) (lo1 := [x_r 75, x_b (8 + 1), 147573952589676412928, 147573952589676412928]) (by decide +kernel) (by decide) (by decide +kernel) (x_rb_of (by decide +kernel)) rfl rfl (x_wr (by decide) (x_wB (by decide) x_wn)) x_wn (by decide) rfl (c170_75_S0 hJ  (by decide) hT) (fun v48 l49 q50 => ?_)
            obtain ⟨b53, c51, c52⟩ := q50
            have b54 : iv_tl 8 = 4 := by decide
            refine x_ifz (k := 0) (tg := 84) (np := 79) (by decide +kernel) (by decide) l49 (fun q55 => ?_) (fun q56 => ?_)
            · have q55 : v48 = 2147483648 := q55
              refine x_aload (np := 85) (x := 0) (by decide +kernel) rfl (x_nc_le (by decide)) ?_
              refine x_ldcB (i := 13) (idx := 214) (tx := "seen") (by rw [tb_y186]; exact List.mem_of_getElem? (i := 52) rfl) (by decide) (by rw [tb_b186]; decide +kernel) ?_
              refine x_cP (t := 6) (mj := 170) (n := 2) (rc := 12) (ml := 4) (nr := 0) (np := 90) (as := [x_r 75, x_b (13 + 1)]) (rest := []) (lo1 := [x_r 75, x_b (13 + 1), 147573952589676412928, 147573952589676412928]) (by decide +kernel) (by decide) (by decide +kernel) (x_rb_of (by decide +kernel)) rfl rfl (x_wr (by decide) (x_wB (by decide) x_wn)) x_wn (by decide) rfl (c170_75_S0 hJ  (by decide) hT) (fun v57 l58 q59 => ?_)
              obtain ⟨b62, c60, c61⟩ := q59
              have b63 : iv_tl 13 = 4 := by decide
              refine x_ifz (k := 0) (tg := 104) (np := 93) (by decide +kernel) (by decide) l58 (fun q64 => ?_) (fun q65 => ?_)
              · have q64 : v57 = 2147483648 := q64
                refine x_const (np := 105) (x := 9223372039002259456) (a := 2147483648) (by decide +kernel) (by decide) (by decide) ?_
                have b66 := jB (e := 0) 0 hJ rg_78_0_0_1 (by first | decide | omega) (by first | decide | omega)
                have b67 := jB (e := 0) 0 hJ rg_76_0_0_1 (by first | decide | omega) (by first | decide | omega)
                have b68 := jB (e := 2) 0 hJ rg_78_2_0_1 (by first | decide | omega) (by first | decide | omega)
                have b69 := jB (e := 3) 0 hJ rg_78_3_0_1 (by first | decide | omega) (by first | decide | omega)
                have b70 := jB (e := 4) 0 hJ rg_78_4_0_1 (by first | decide | omega) (by first | decide | omega)
                have b71 := jB (e := 5) 0 hJ rg_78_5_0_1 (by first | decide | omega) (by first | decide | omega)
                refine x_retI (np := 106) (x := 0) (by decide +kernel) (by decide) (Or.inr ⟨by decide +kernel, by first | decide | omega, by first | decide | omega⟩) ⟨_, rfl, (by decide), ?_⟩
                exact ⟨hJ, hF, (by first | decide | omega), (fun z => by first | decide | omega), (fun z => by first | decide | omega), (fun z => absurd z (by first | decide | omega)), (l9_no (Wd.no (by decide) (Is.no c5 (by first | decide | omega)) hp0) (Wd.no (by decide) (Is.no c43 (by first | decide | omega)) hp0) (Wd.no (by decide) (Is.no c52 (by first | decide | omega)) hp0) (Wd.no (by decide) (Is.no c61 (by first | decide | omega)) hp0) (Wd.no (by decide) (Is.no c16 (by first | decide | omega)) hp0) (Wd.no (by decide) (Is.no c25 (by first | decide | omega)) hp0) (Wd.no (by decide) (Is.no c34 (by first | decide | omega)) hp0) (by first | decide | omega)), (fun z => absurd z (by first | decide | omega))⟩
              have q65 : ¬ (v57 = 2147483648) := q65
              have b72 := c60 (by first | decide | omega)
              refine x_aload (np := 94) (x := 0) (by decide +kernel) rfl (x_nc_le (by decide)) ?_
              refine x_cI (t := 6) (mj := 185) (n := 1) (rc := 12) (ml := 4) (nr := 0) (np := 97) (as := [x_r 75]) (rest := []) (lo1 := [x_r 75, 147573952589676412928, 147573952589676412928, 147573952589676412928]) (by decide +kernel) (by decide) (by decide +kernel) (x_rb_of (by decide +kernel)) rfl rfl (x_wr (by decide) x_wn) x_wn (by decide) rfl (c185_75 hJ  hC hT) (fun v73 h76 l74 q75 => ?_)
              obtain ⟨j77, f78, b79, c80, c81, c82, c83, c84, c85, c86, c87⟩ := q75
              have f88 := Fr.trans hF f78 (by decide)
              have b89 := jB (e := 0) 0 hJ rg_78_0_0_1 (by first | decide | omega) (by first | decide | omega)
              have b90 := jB (e := 0) 0 j77 rg_78_0_0_1 (by first | decide | omega) (by first | decide | omega)
              have b91 := jB (e := 2) 0 hJ rg_78_2_0_1 (by first | decide | omega) (by first | decide | omega)
              have b92 := jB (e := 2) 0 j77 rg_78_2_0_1 (by first | decide | omega) (by first | decide | omega)
              have b93 := jB (e := 3) 0 hJ rg_78_3_0_1 (by first | decide | omega) (by first | decide | omega)
              have b94 := jB (e := 3) 0 j77 rg_78_3_0_1 (by first | decide | omega) (by first | decide | omega)
              have b95 := jB (e := 4) 0 hJ rg_78_4_0_1 (by first | decide | omega) (by first | decide | omega)
              have b96 := jB (e := 4) 0 j77 rg_78_4_0_1 (by first | decide | omega) (by first | decide | omega)
              have b97 := jB (e := 5) 0 hJ rg_78_5_0_1 (by first | decide | omega) (by first | decide | omega)
              have b98 := jB (e := 5) 0 j77 rg_78_5_0_1 (by first | decide | omega) (by first | decide | omega)
              refine x_ifz (k := 0) (tg := 104) (np := 100) (by decide +kernel) (by decide) l74 (fun q99 => ?_) (fun q100 => ?_)
              · have q99 : v73 = 2147483648 := q99
                refine x_const (np := 105) (x := 9223372039002259456) (a := 2147483648) (by decide +kernel) (by decide) (by decide) ?_
                have b101 := jB (e := 0) 0 hJ rg_76_0_0_1 (by first | decide | omega) (by first | decide | omega)
                have y102 := Is.yes c61 (by first | decide | omega)
                have k103 : line9 tB tN (h 76 0) (h 78 2) (h 78 3) (h 78 4) (h 78 5) (h 75 9) (rs5 2147483648 (sk tB tN (h76 75 7)) (h76 78 2) (h76 78 3) (h76 78 4) (h76 78 5)) := by
                  rcases c87 with ⟨z1, z2⟩ | ⟨z1, z2⟩
                  · exact l9_seen0 (Wd.of' (by decide) y102 hp0) rfl (by first | decide | omega) (by first | decide | omega)
                  · exact l9_seen (Wd.of' (by decide) y102 hp0) rfl (by first | decide | omega) (congrArg (sk tB tN) y102.1) rfl z2 (by first | decide | omega) (by first | decide | omega) (fun z => by have y0 := c80 z; have y1 := c81 z; have y2 := c82 z; have y3 := c83 z; have y4 := c84 z; have y5 := c85 z; exact ⟨rfl, by first | decide | omega, by first | decide | omega, by first | decide | omega, by first | decide | omega⟩)
                refine x_retI (np := 106) (x := 0) (by decide +kernel) (by decide) (Or.inr ⟨by decide +kernel, by first | decide | omega, by first | decide | omega⟩) ⟨_, rfl, (by decide), ?_⟩
                exact ⟨j77, f88, (by first | decide | omega), (fun z => by first | decide | omega), (fun z => by first | decide | omega), (fun z => absurd z (by first | decide | omega)), k103, (fun z => absurd z (by first | decide | omega))⟩
              have q100 : ¬ (v73 = 2147483648) := q100
              have b105 := c80 (by first | decide | omega)
              have b106 := c81 (by first | decide | omega)
              have b107 := c82 (by first | decide | omega)
              have b108 := c83 (by first | decide | omega)
              have b109 := c84 (by first | decide | omega)
              have b110 := c85 (by first | decide | omega)
              have m111 := c86 (by first | decide | omega)
              refine x_const (np := 101) (x := 9223372043297226753) (a := 2147483649) (by decide +kernel) (by decide) (by decide) ?_
              refine x_goto (np := 104) (x := 105) (by decide +kernel) ?_
              have b112 := jB (e := 0) 0 hJ rg_76_0_0_1 (by first | decide | omega) (by first | decide | omega)
              have y113 := Is.yes c61 (by first | decide | omega)
              have k114 : line9 tB tN (h 76 0) (h 78 2) (h 78 3) (h 78 4) (h 78 5) (h 75 9) (rs5 2147483649 (sk tB tN (h76 75 7)) (h76 78 2) (h76 78 3) (h76 78 4) (h76 78 5)) := by
                rcases c87 with ⟨z1, z2⟩ | ⟨z1, z2⟩
                · exact l9_seen0 (Wd.of' (by decide) y113 hp0) rfl (by first | decide | omega) (by first | decide | omega)
                · exact l9_seen (Wd.of' (by decide) y113 hp0) rfl (by first | decide | omega) (congrArg (sk tB tN) y113.1) rfl z2 (by first | decide | omega) (by first | decide | omega) (fun z => by have y0 := c80 z; have y1 := c81 z; have y2 := c82 z; have y3 := c83 z; have y4 := c84 z; have y5 := c85 z; exact ⟨rfl, by first | decide | omega, by first | decide | omega, by first | decide | omega, by first | decide | omega⟩)
              have m116 : ∀ u, u < 10 → wdr h76 u = wdr h u := fun u hu => (wdr_gr f78 (by decide) u hu)
              refine x_retI (np := 106) (x := 0) (by decide +kernel) (by decide) (Or.inr ⟨by decide +kernel, by first | decide | omega, by first | decide | omega⟩) ⟨_, rfl, (by decide), ?_⟩
              exact ⟨j77, f88, (by first | decide | omega), (fun z => by first | decide | omega), (fun z => by first | decide | omega), (fun _ => m111), k114, (fun z => by have y := c83 (by first | decide | omega); exact Wl.refl (by first | decide | omega) m116)⟩
            have q56 : ¬ (v48 = 2147483648) := q56
            have b117 := c51 (by first | decide | omega)
            refine x_aload (np := 80) (x := 0) (by decide +kernel) rfl (x_nc_le (by decide)) ?_
            refine x_cI (t := 6) (mj := 184) (n := 1) (rc := 12) (ml := 2) (nr := 0) (np := 83) (as := [x_r 75]) (rest := []) (lo1 := [x_r 75, 147573952589676412928]) (by decide +kernel) (by decide) (by decide +kernel) (x_rb_of (by decide +kernel)) rfl rfl (x_wr (by decide) x_wn) x_wn (by decide) rfl (c184_75 hJ  hC hT) (fun v118 h121 l119 q120 => ?_)
            obtain ⟨j122, f123, b124, c125, c126, c127, c128, c129, c130, c131, c132⟩ := q120
            have f133 := Fr.trans hF f123 (by decide)
            have b134 := jB (e := 0) 0 hJ rg_78_0_0_1 (by first | decide | omega) (by first | decide | omega)
            have b135 := jB (e := 0) 0 j122 rg_78_0_0_1 (by first | decide | omega) (by first | decide | omega)
            have b136 := jB (e := 2) 0 hJ rg_78_2_0_1 (by first | decide | omega) (by first | decide | omega)
            have b137 := jB (e := 2) 0 j122 rg_78_2_0_1 (by first | decide | omega) (by first | decide | omega)
            have b138 := jB (e := 3) 0 hJ rg_78_3_0_1 (by first | decide | omega) (by first | decide | omega)
            have b139 := jB (e := 3) 0 j122 rg_78_3_0_1 (by first | decide | omega) (by first | decide | omega)
            have b140 := jB (e := 4) 0 hJ rg_78_4_0_1 (by first | decide | omega) (by first | decide | omega)
            have b141 := jB (e := 4) 0 j122 rg_78_4_0_1 (by first | decide | omega) (by first | decide | omega)
            have b142 := jB (e := 5) 0 hJ rg_78_5_0_1 (by first | decide | omega) (by first | decide | omega)
            have b143 := jB (e := 5) 0 j122 rg_78_5_0_1 (by first | decide | omega) (by first | decide | omega)
            have b144 := jB (e := 0) 0 hJ rg_76_0_0_1 (by first | decide | omega) (by first | decide | omega)
            have y145 := Is.yes c52 (by first | decide | omega)
            have k146 : line9 tB tN (h 76 0) (h 78 2) (h 78 3) (h 78 4) (h 78 5) (h 75 9) (rs5 v118 (sk tB tN (h121 75 7)) (h121 78 2) (h121 78 3) (h121 78 4) (h121 78 5)) := by
              rcases c132 with ⟨z1, z2⟩ | ⟨z1, z2⟩
              · exact l9_debt0 (Wd.of' (by decide) y145 hp0) rfl (by first | decide | omega) (by first | decide | omega)
              · exact l9_debt (Wd.of' (by decide) y145 hp0) rfl (by first | decide | omega) (congrArg (sk tB tN) y145.1) rfl z2 (by first | decide | omega) (by first | decide | omega) (fun z => by have y0 := c125 z; have y1 := c126 z; have y2 := c127 z; have y3 := c128 z; have y4 := c129 z; have y5 := c130 z; exact ⟨rfl, by first | decide | omega, by first | decide | omega, by first | decide | omega, by first | decide | omega⟩)
            have m148 : ∀ u, u < 10 → wdr h121 u = wdr h u := fun u hu => (wdr_gr f123 (by decide) u hu)
            refine x_retI (np := 84) (x := 0) (by decide +kernel) l119 (Or.inr ⟨by decide +kernel, by first | decide | omega, by first | decide | omega⟩) ⟨_, rfl, l119, ?_⟩
            exact ⟨j122, f133, (by first | decide | omega), (fun z => by first | decide | omega), (fun z => by first | decide | omega), (fun z => c131 (by first | decide | omega)), k146, (fun z => by have y := c128 (by first | decide | omega); exact Wl.refl (by first | decide | omega) m148)⟩
          have q47 : ¬ (v39 = 2147483648) := q47
          have b149 := c42 (by first | decide | omega)
          refine x_aload (np := 66) (x := 0) (by decide +kernel) rfl (x_nc_le (by decide)) ?_
          refine x_cI (t := 6) (mj := 183) (n := 1) (rc := 12) (ml := 2) (nr := 0) (np := 69) (as := [x_r 75]) (rest := []) (lo1 := [x_r 75, 147573952589676412928]) (by decide +kernel) (by decide) (by decide +kernel) (x_rb_of (by decide +kernel)) rfl rfl (x_wr (by decide) x_wn) x_wn (by decide) rfl (c183_75 hJ  hC hT) (fun v150 h153 l151 q152 => ?_)
          obtain ⟨j154, f155, b156, c157, c158, c159, c160, c161, c162, c163, c164, c165⟩ := q152
          have f166 := Fr.trans hF f155 (by decide)
          have b167 := jB (e := 0) 0 hJ rg_78_0_0_1 (by first | decide | omega) (by first | decide | omega)
          have b168 := jB (e := 0) 0 j154 rg_78_0_0_1 (by first | decide | omega) (by first | decide | omega)
          have b169 := jB (e := 2) 0 hJ rg_78_2_0_1 (by first | decide | omega) (by first | decide | omega)
          have b170 := jB (e := 2) 0 j154 rg_78_2_0_1 (by first | decide | omega) (by first | decide | omega)
          have b171 := jB (e := 3) 0 hJ rg_78_3_0_1 (by first | decide | omega) (by first | decide | omega)
          have b172 := jB (e := 3) 0 j154 rg_78_3_0_1 (by first | decide | omega) (by first | decide | omega)
          have b173 := jB (e := 4) 0 hJ rg_78_4_0_1 (by first | decide | omega) (by first | decide | omega)
          have b174 := jB (e := 4) 0 j154 rg_78_4_0_1 (by first | decide | omega) (by first | decide | omega)
          have b175 := jB (e := 5) 0 hJ rg_78_5_0_1 (by first | decide | omega) (by first | decide | omega)
          have b176 := jB (e := 5) 0 j154 rg_78_5_0_1 (by first | decide | omega) (by first | decide | omega)
          have b177 := jB (e := 0) 0 hJ rg_76_0_0_1 (by first | decide | omega) (by first | decide | omega)
          have y178 := Is.yes c43 (by first | decide | omega)
          have k179 : line9 tB tN (h 76 0) (h 78 2) (h 78 3) (h 78 4) (h 78 5) (h 75 9) (rs5 v150 (sk tB tN (h153 75 7)) (h153 78 2) (h153 78 3) (h153 78 4) (h153 78 5)) := by
            rcases c164 with ⟨z1, z2⟩ | ⟨z1, z2⟩
            · exact l9_letter0 (Wd.of' (by decide) y178 hp0) rfl (by first | decide | omega) (by first | decide | omega)
            · exact l9_letter (Wd.of' (by decide) y178 hp0) rfl (by first | decide | omega) (congrArg (sk tB tN) y178.1) rfl z2 (by first | decide | omega) (by first | decide | omega) (fun z => by have y0 := c157 z; have y1 := c158 z; have y2 := c159 z; have y3 := c160 z; have y4 := c161 z; have y5 := c162 z; exact ⟨rfl, by first | decide | omega, by first | decide | omega, by first | decide | omega, by first | decide | omega⟩)
          refine x_retI (np := 70) (x := 0) (by decide +kernel) l151 (Or.inr ⟨by decide +kernel, by first | decide | omega, by first | decide | omega⟩) ⟨_, rfl, l151, ?_⟩
          exact ⟨j154, f166, (by first | decide | omega), (fun z => by first | decide | omega), (fun z => by first | decide | omega), (fun z => c163 (by first | decide | omega)), k179, (fun z => Wl.mp (c165 (by first | decide | omega)) (fun _ _ => rfl) (fun _ _ => rfl) (by first | decide | omega) (by first | decide | omega))⟩
        have q38 : ¬ (v30 = 2147483648) := q38
        have b181 := c33 (by first | decide | omega)
        refine x_aload (np := 52) (x := 0) (by decide +kernel) rfl (x_nc_le (by decide)) ?_
        refine x_cI (t := 6) (mj := 182) (n := 1) (rc := 12) (ml := 2) (nr := 0) (np := 55) (as := [x_r 75]) (rest := []) (lo1 := [x_r 75, 147573952589676412928]) (by decide +kernel) (by decide) (by decide +kernel) (x_rb_of (by decide +kernel)) rfl rfl (x_wr (by decide) x_wn) x_wn (by decide) rfl (c182_75 hJ  hC hT) (fun v182 h185 l183 q184 => ?_)
        obtain ⟨j186, f187, b188, c189, c190, c191, c192, c193, c194, c195, c196⟩ := q184
        have f197 := Fr.trans hF f187 (by decide)
        have b198 := jB (e := 0) 0 hJ rg_78_0_0_1 (by first | decide | omega) (by first | decide | omega)
        have b199 := jB (e := 0) 0 j186 rg_78_0_0_1 (by first | decide | omega) (by first | decide | omega)
        have b200 := jB (e := 2) 0 hJ rg_78_2_0_1 (by first | decide | omega) (by first | decide | omega)
        have b201 := jB (e := 2) 0 j186 rg_78_2_0_1 (by first | decide | omega) (by first | decide | omega)
        have b202 := jB (e := 3) 0 hJ rg_78_3_0_1 (by first | decide | omega) (by first | decide | omega)
        have b203 := jB (e := 3) 0 j186 rg_78_3_0_1 (by first | decide | omega) (by first | decide | omega)
        have b204 := jB (e := 4) 0 hJ rg_78_4_0_1 (by first | decide | omega) (by first | decide | omega)
        have b205 := jB (e := 4) 0 j186 rg_78_4_0_1 (by first | decide | omega) (by first | decide | omega)
        have b206 := jB (e := 5) 0 hJ rg_78_5_0_1 (by first | decide | omega) (by first | decide | omega)
        have b207 := jB (e := 5) 0 j186 rg_78_5_0_1 (by first | decide | omega) (by first | decide | omega)
        have b208 := jB (e := 0) 0 hJ rg_76_0_0_1 (by first | decide | omega) (by first | decide | omega)
        have y209 := Is.yes c34 (by first | decide | omega)
        have m210 : ∀ u, u < 10 → wdr h185 u = wdr h u := fun u hu => (wdr_gr f187 (by decide) u hu)
        refine x_retI (np := 56) (x := 0) (by decide +kernel) l183 (Or.inr ⟨by decide +kernel, by first | decide | omega, by first | decide | omega⟩) ⟨_, rfl, l183, ?_⟩
        exact ⟨j186, f197, (by first | decide | omega), (fun z => by first | decide | omega), (fun z => by first | decide | omega), (fun z => c195 (by first | decide | omega)), (l9_court (Wd.of' (by decide) y209 hp0) rfl (congrArg (sk tB tN) y209.1) rfl c196 (by first | decide | omega) (by first | decide | omega) (fun z => by have y0 := c189 z; have y1 := c190 z; have y2 := c191 z; have y3 := c192 z; have y4 := c193 z; have y5 := c194 z; exact ⟨rfl, by first | decide | omega, by first | decide | omega, by first | decide | omega, by first | decide | omega⟩)), (fun z => by have y := c192 (by first | decide | omega); exact Wl.refl (by first | decide | omega) m210)⟩
      have q29 : ¬ (v21 = 2147483648) := q29
      have b211 := c24 (by first | decide | omega)
      refine x_aload (np := 38) (x := 0) (by decide +kernel) rfl (x_nc_le (by decide)) ?_
      refine x_cI (t := 6) (mj := 181) (n := 1) (rc := 12) (ml := 3) (nr := 0) (np := 41) (as := [x_r 75]) (rest := []) (lo1 := [x_r 75, 147573952589676412928, 147573952589676412928]) (by decide +kernel) (by decide) (by decide +kernel) (x_rb_of (by decide +kernel)) rfl rfl (x_wr (by decide) x_wn) x_wn (by decide) rfl (c181_75 hJ  hC hT) (fun v212 h215 l213 q214 => ?_)
      obtain ⟨j216, f217, b218, c219, c220, c221, c222, c223, c224, c225, c226⟩ := q214
      have f227 := Fr.trans hF f217 (by decide)
      have b228 := jB (e := 0) 0 hJ rg_78_0_0_1 (by first | decide | omega) (by first | decide | omega)
      have q229 : h215 78 0 = h 78 0 := jK 0 f217 rg_78_0_0_1 (by first | decide | omega) (by first | decide | omega) (by decide)
      have q230 : h215 78 1 = h 78 1 := jK 0 f217 rg_78_1_0_1 (by first | decide | omega) (by first | decide | omega) (by decide)
      have b231 := jB (e := 2) 0 hJ rg_78_2_0_1 (by first | decide | omega) (by first | decide | omega)
      have q232 : h215 78 2 = h 78 2 := jK 0 f217 rg_78_2_0_1 (by first | decide | omega) (by first | decide | omega) (by decide)
      have b233 := jB (e := 3) 0 hJ rg_78_3_0_1 (by first | decide | omega) (by first | decide | omega)
      have q234 : h215 78 3 = h 78 3 := jK 0 f217 rg_78_3_0_1 (by first | decide | omega) (by first | decide | omega) (by decide)
      have b235 := jB (e := 4) 0 hJ rg_78_4_0_1 (by first | decide | omega) (by first | decide | omega)
      have q236 : h215 78 4 = h 78 4 := jK 0 f217 rg_78_4_0_1 (by first | decide | omega) (by first | decide | omega) (by decide)
      have b237 := jB (e := 5) 0 hJ rg_78_5_0_1 (by first | decide | omega) (by first | decide | omega)
      have q238 : h215 78 5 = h 78 5 := jK 0 f217 rg_78_5_0_1 (by first | decide | omega) (by first | decide | omega) (by decide)
      have q239 : h215 78 0 = h 78 0 := jK 0 f217 rg_78_0_0_1 (by first | decide | omega) (by first | decide | omega) (by decide)
      have q240 : h215 78 1 = h 78 1 := jK 0 f217 rg_78_1_0_1 (by first | decide | omega) (by first | decide | omega) (by decide)
      have b241 := jB (e := 0) 0 hJ rg_76_0_0_1 (by first | decide | omega) (by first | decide | omega)
      have q242 : h215 78 0 = h 78 0 := jK 0 f217 rg_78_0_0_1 (by first | decide | omega) (by first | decide | omega) (by decide)
      have q243 : h215 78 1 = h 78 1 := jK 0 f217 rg_78_1_0_1 (by first | decide | omega) (by first | decide | omega) (by decide)
      have q244 : h215 78 2 = h 78 2 := jK 0 f217 rg_78_2_0_1 (by first | decide | omega) (by first | decide | omega) (by decide)
      have q245 : h215 78 3 = h 78 3 := jK 0 f217 rg_78_3_0_1 (by first | decide | omega) (by first | decide | omega) (by decide)
      have q246 : h215 78 4 = h 78 4 := jK 0 f217 rg_78_4_0_1 (by first | decide | omega) (by first | decide | omega) (by decide)
      have q247 : h215 78 5 = h 78 5 := jK 0 f217 rg_78_5_0_1 (by first | decide | omega) (by first | decide | omega) (by decide)
      have y248 := Is.yes c25 (by first | decide | omega)
      have q249 : h215 78 3 = h 78 3 := jK 0 f217 rg_78_3_0_1 (by first | decide | omega) (by first | decide | omega) (by decide)
      have q250 : h215 78 3 = h 78 3 := jK 0 f217 rg_78_3_0_1 (by first | decide | omega) (by first | decide | omega) (by decide)
      have m251 : ∀ u, u < 10 → wdr h215 u = wdr h u := fun u hu => (wdr_gr f217 (by decide) u hu)
      refine x_retI (np := 42) (x := 0) (by decide +kernel) l213 (Or.inr ⟨by decide +kernel, by first | decide | omega, by first | decide | omega⟩) ⟨_, rfl, l213, ?_⟩
      exact ⟨j216, f227, (by first | decide | omega), (fun z => by first | decide | omega), (fun z => by first | decide | omega), (fun z => c225 (by first | decide | omega)), (l9_dies (Wd.of' (by decide) y248 hp0) rfl (congrArg (sk tB tN) y248.1) rfl c226 (by first | decide | omega) (by first | decide | omega) (fun z => by have y0 := c219 z; have y1 := c220 z; have y2 := c221 z; have y3 := c222 z; have y4 := c223 z; have y5 := c224 z; exact ⟨rfl, by first | decide | omega, by first | decide | omega, by first | decide | omega, by first | decide | omega⟩)), (fun z => by have y := c222 (by first | decide | omega); exact Wl.refl (by first | decide | omega) m251)⟩
    have q20 : ¬ (v12 = 2147483648) := q20
    have b252 := c15 (by first | decide | omega)
    refine x_aload (np := 24) (x := 0) (by decide +kernel) rfl (x_nc_le (by decide)) ?_
    refine x_cI (t := 6) (mj := 180) (n := 1) (rc := 12) (ml := 2) (nr := 0) (np := 27) (as := [x_r 75]) (rest := []) (lo1 := [x_r 75, 147573952589676412928]) (by decide +kernel) (by decide) (by decide +kernel) (x_rb_of (by decide +kernel)) rfl rfl (x_wr (by decide) x_wn) x_wn (by decide) rfl (c180_75 hJ  hC hT) (fun v253 h256 l254 q255 => ?_)
    obtain ⟨j257, f258, b259, c260, c261, c262, c263, c264, c265, c266, c267⟩ := q255
    have f268 := Fr.trans hF f258 (by decide)
    have b269 := jB (e := 0) 0 hJ rg_78_0_0_1 (by first | decide | omega) (by first | decide | omega)
    have b270 := jB (e := 0) 0 j257 rg_78_0_0_1 (by first | decide | omega) (by first | decide | omega)
    have b271 := jB (e := 2) 0 hJ rg_78_2_0_1 (by first | decide | omega) (by first | decide | omega)
    have b272 := jB (e := 2) 0 j257 rg_78_2_0_1 (by first | decide | omega) (by first | decide | omega)
    have b273 := jB (e := 3) 0 hJ rg_78_3_0_1 (by first | decide | omega) (by first | decide | omega)
    have b274 := jB (e := 3) 0 j257 rg_78_3_0_1 (by first | decide | omega) (by first | decide | omega)
    have b275 := jB (e := 4) 0 hJ rg_78_4_0_1 (by first | decide | omega) (by first | decide | omega)
    have b276 := jB (e := 4) 0 j257 rg_78_4_0_1 (by first | decide | omega) (by first | decide | omega)
    have b277 := jB (e := 5) 0 hJ rg_78_5_0_1 (by first | decide | omega) (by first | decide | omega)
    have b278 := jB (e := 5) 0 j257 rg_78_5_0_1 (by first | decide | omega) (by first | decide | omega)
    have b279 := jB (e := 0) 0 hJ rg_76_0_0_1 (by first | decide | omega) (by first | decide | omega)
    have y280 := Is.yes c16 (by first | decide | omega)
    have m281 : ∀ u, u < 10 → wdr h256 u = wdr h u := fun u hu => (wdr_gr f258 (by decide) u hu)
    refine x_retI (np := 28) (x := 0) (by decide +kernel) l254 (Or.inr ⟨by decide +kernel, by first | decide | omega, by first | decide | omega⟩) ⟨_, rfl, l254, ?_⟩
    exact ⟨j257, f268, (by first | decide | omega), (fun z => by first | decide | omega), (fun z => by first | decide | omega), (fun z => c266 (by first | decide | omega)), (l9_late (Wd.of' (by decide) y280 hp0) rfl (congrArg (sk tB tN) y280.1) rfl c267 (by first | decide | omega) (by first | decide | omega) (fun z => by have y0 := c260 z; have y1 := c261 z; have y2 := c262 z; have y3 := c263 z; have y4 := c264 z; have y5 := c265 z; exact ⟨rfl, by first | decide | omega, by first | decide | omega, by first | decide | omega, by first | decide | omega⟩)), (fun z => by have y := c263 (by first | decide | omega); exact Wl.refl (by first | decide | omega) m281)⟩
  have q11 : ¬ (v1 = 2147483648) := q11
  have b282 := c4 (by first | decide | omega)
  refine x_aload (np := 10) (x := 0) (by decide +kernel) rfl (x_nc_le (by decide)) ?_
  refine x_cI (t := 6) (mj := 179) (n := 1) (rc := 12) (ml := 2) (nr := 0) (np := 13) (as := [x_r 75]) (rest := []) (lo1 := [x_r 75, 147573952589676412928]) (by decide +kernel) (by decide) (by decide +kernel) (x_rb_of (by decide +kernel)) rfl rfl (x_wr (by decide) x_wn) x_wn (by decide) rfl (c179_75 hJ  hC hT) (fun v283 h286 l284 q285 => ?_)
  obtain ⟨j287, f288, b289, c290, c291, c292, c293, c294, c295, c296, c297⟩ := q285
  have f298 := Fr.trans hF f288 (by decide)
  have b299 := jB (e := 0) 0 hJ rg_78_0_0_1 (by first | decide | omega) (by first | decide | omega)
  have b300 := jB (e := 0) 0 j287 rg_78_0_0_1 (by first | decide | omega) (by first | decide | omega)
  have b301 := jB (e := 2) 0 hJ rg_78_2_0_1 (by first | decide | omega) (by first | decide | omega)
  have b302 := jB (e := 2) 0 j287 rg_78_2_0_1 (by first | decide | omega) (by first | decide | omega)
  have b303 := jB (e := 3) 0 hJ rg_78_3_0_1 (by first | decide | omega) (by first | decide | omega)
  have b304 := jB (e := 3) 0 j287 rg_78_3_0_1 (by first | decide | omega) (by first | decide | omega)
  have b305 := jB (e := 4) 0 hJ rg_78_4_0_1 (by first | decide | omega) (by first | decide | omega)
  have b306 := jB (e := 4) 0 j287 rg_78_4_0_1 (by first | decide | omega) (by first | decide | omega)
  have b307 := jB (e := 5) 0 hJ rg_78_5_0_1 (by first | decide | omega) (by first | decide | omega)
  have b308 := jB (e := 5) 0 j287 rg_78_5_0_1 (by first | decide | omega) (by first | decide | omega)
  have b309 := jB (e := 0) 0 hJ rg_76_0_0_1 (by first | decide | omega) (by first | decide | omega)
  have y310 := Is.yes c5 (by first | decide | omega)
  have k311 : line9 tB tN (h 76 0) (h 78 2) (h 78 3) (h 78 4) (h 78 5) (h 75 9) (rs5 v283 (sk tB tN (h286 75 7)) (h286 78 2) (h286 78 3) (h286 78 4) (h286 78 5)) := by
    rcases c297 with ⟨z1, z2⟩ | ⟨z1, z2⟩
    · exact l9_lend0 (Wd.of' (by decide) y310 hp0) rfl (by first | decide | omega) (by first | decide | omega)
    · exact l9_lend (Wd.of' (by decide) y310 hp0) rfl (by first | decide | omega) (congrArg (sk tB tN) y310.1) rfl z2 (by first | decide | omega) (by first | decide | omega) (fun z => by have y0 := c290 z; have y1 := c291 z; have y2 := c292 z; have y3 := c293 z; have y4 := c294 z; have y5 := c295 z; exact ⟨rfl, by first | decide | omega, by first | decide | omega, by first | decide | omega, by first | decide | omega⟩)
  have m313 : ∀ u, u < 10 → wdr h286 u = wdr h u := fun u hu => (wdr_gr f288 (by decide) u hu)
  refine x_retI (np := 14) (x := 0) (by decide +kernel) l284 (Or.inr ⟨by decide +kernel, by first | decide | omega, by first | decide | omega⟩) ⟨_, rfl, l284, ?_⟩
  exact ⟨j287, f298, (by first | decide | omega), (fun z => by first | decide | omega), (fun z => by first | decide | omega), (fun z => c296 (by first | decide | omega)), k311, (fun z => by have y := c293 (by first | decide | omega); exact Wl.refl (by first | decide | omega) m313)⟩
set_option maxHeartbeats 0 in
/-- LentNamesModel.readAll(Z)I -/
theorem c194_75_c1 {sc : Nat × Nat} {d  : Nat} {h : xh} {tB : Nat → Nat} {tN : Nat} (hJ : J h) (hC : Cl h) (hT : Tr tB tN h) : X sc 194 (d + 8) (xI fun r h' => J h' ∧ Fr 16140901064788934657 h h' ∧ (2147483647 ≤ r ∧ r ≤ 2147483662) ∧ (h' 75 6 = 2147483648) ∧ (2147483648 ≤ r → h' 78 0 = h 78 0) ∧ (2147483648 ≤ r → h' 78 1 = h 78 1) ∧ (2147483648 ≤ r → Cl h') ∧ Tt tB tN (h 76 0) (h 78 2) (h 78 3) (h 78 4) (h 78 5) (rt4 r (h' 78 2) (h' 78 3) (h' 78 4) (h' 78 5)) ∧ (2147483648 ≤ r → Wl (wdr h) (wdr h') (h 78 3) (h' 78 3))) 0 0 0 [x_r 75, iv_c 2147483649, 147573952589676412928] [] h := by
  have hF := Fr.refl 16140901064788934657 h
  refine x_aload (np := 1) (x := 0) (by decide +kernel) rfl (x_nc_le (by decide)) ?_
  refine x_aload (np := 2) (x := 0) (by decide +kernel) rfl (x_nc_le (by decide)) ?_
  have b1 := jB (e := 6) 0 hJ rg_75_6_0_1 (by first | decide | omega) (by first | decide | omega)
  refine x_getC (np := 5) (x := 710) (f := 6) (q := (h 75 6)) (by decide +kernel) (by decide) (by decide +kernel) rfl (fun l2 => ?_)
  refine x_putI (np := 8) (x := 712) (f := 8) (by decide +kernel) (by decide +kernel) l2 (Or.inl (by decide)) ?_
  have j4 := jU (e := 8) (v := (h 75 6)) 0 hJ rg_75_8_0_1 (by first | decide | omega) (by first | decide | omega) (by first | decide | omega)
  have f6 := jF (e := 8) (v := (h 75 6)) 0 hF rg_75_8_0_1 (by first | decide | omega) (by first | decide | omega) (by decide)
  generalize e5 : x_up h 75 8 (h 75 6) = h3 at j4 f6 ⊢
  refine x_aload (np := 9) (x := 0) (by decide +kernel) rfl (x_nc_le (by decide)) ?_
  refine x_const (np := 10) (x := 9223372039002259456) (a := 2147483648) (by decide +kernel) (by decide) (by decide) ?_
  refine x_putI (np := 13) (x := 710) (f := 6) (by decide +kernel) (by decide +kernel) (by decide) (Or.inl (by decide)) ?_
  have j8 := jU (e := 6) (v := 2147483648) 0 j4 rg_75_6_0_1 (by first | decide | omega) (by first | decide | omega) (by first | decide | omega)
  have f10 := jF (e := 6) (v := 2147483648) 0 f6 rg_75_6_0_1 (by first | decide | omega) (by first | decide | omega) (by decide)
  generalize e9 : x_up h3 75 6 2147483648 = h7 at j8 f10 ⊢
  refine x_aload (np := 14) (x := 0) (by decide +kernel) rfl (x_nc_le (by decide)) ?_
  refine x_const (np := 15) (x := 9223372039002259456) (a := 2147483648) (by decide +kernel) (by decide) (by decide) ?_
  refine x_putI (np := 18) (x := 711) (f := 7) (by decide +kernel) (by decide +kernel) (by decide) (Or.inl (by decide)) ?_
  have j12 := jU (e := 7) (v := 2147483648) 0 j8 rg_75_7_0_1 (by first | decide | omega) (by first | decide | omega) (by first | decide | omega)
  have f14 := jF (e := 7) (v := 2147483648) 0 f10 rg_75_7_0_1 (by first | decide | omega) (by first | decide | omega) (by decide)
  generalize e13 : x_up h7 75 7 2147483648 = h11 at j12 f14 ⊢
  refine x_aload (np := 19) (x := 0) (by decide +kernel) rfl (x_nc_le (by decide)) ?_
  refine x_const (np := 20) (x := 9223372039002259456) (a := 2147483648) (by decide +kernel) (by decide) (by decide) ?_
  refine x_putI (np := 23) (x := 717) (f := 13) (by decide +kernel) (by decide +kernel) (by decide) (Or.inl (by decide)) ?_
  have j16 := jU (e := 13) (v := 2147483648) 0 j12 rg_75_13_0_1 (by first | decide | omega) (by first | decide | omega) (by first | decide | omega)
  have f18 := jF (e := 13) (v := 2147483648) 0 f14 rg_75_13_0_1 (by first | decide | omega) (by first | decide | omega) (by decide)
  generalize e17 : x_up h11 75 13 2147483648 = h15 at j16 f18 ⊢
  refine x_aload (np := 24) (x := 0) (by decide +kernel) rfl (x_nc_le (by decide)) ?_
  have m25 : Tq tB tN h3 := by rw [← e5]; exact Tr.tq hT (by first | decide | omega)
  have m24 : Tq tB tN h7 := by rw [← e9]; exact Tq.oth m25 (by decide) (by decide)
  have m23 : Tq tB tN h11 := by rw [← e13]; exact Tq.oth m24 (by decide) (by decide)
  have m22 : Tq tB tN h15 := by rw [← e17]; exact Tq.oth m23 (by decide) (by decide)
  refine x_cV (t := 6) (mj := 168) (n := 1) (rc := 12) (ml := 1) (nr := 0) (np := 27) (as := [x_r 75]) (rest := []) (lo1 := [x_r 75]) (by decide +kernel) (by decide) (by decide +kernel) (x_rb_of (by decide +kernel)) rfl rfl (x_wr (by decide) x_wn) x_wn (by decide) rfl (c168_75 j16  m22) (fun h26 q21 => ?_)
  obtain ⟨j27, f28, c31, c32, c33⟩ := q21
  have f34 := Fr.trans f18 f28 (by decide)
  have q35 : h15 75 7 = h11 75 7 := by rw [← e17]; exact x_up_i (by first | decide | omega)
  have q36 : h11 75 7 = 2147483648 := by rw [← e13]; exact x_up_at
  have b37 := jB (e := 7) 0 j27 rg_75_7_0_1 (by first | decide | omega) (by first | decide | omega)
  have b38 := jB (e := 9) 0 j27 rg_75_9_0_1 (by first | decide | omega) (by first | decide | omega)
  refine x_aload (np := 28) (x := 0) (by decide +kernel) rfl (x_nc_le (by decide)) ?_
  refine x_getC (np := 31) (x := 711) (f := 7) (q := (h26 75 7)) (by decide +kernel) (by decide) (by decide +kernel) rfl (fun l39 => ?_)
  refine x_aload (np := 32) (x := 0) (by decide +kernel) rfl (x_nc_le (by decide)) ?_
  have q40 : h26 75 8 = h15 75 8 := jK 0 f28 rg_75_8_0_1 (by first | decide | omega) (by first | decide | omega) (by decide)
  have q41 : h15 75 8 = h11 75 8 := by rw [← e17]; exact x_up_i (by first | decide | omega)
  have q42 : h11 75 8 = h7 75 8 := by rw [← e13]; exact x_up_i (by first | decide | omega)
  have q43 : h7 75 8 = h3 75 8 := by rw [← e9]; exact x_up_i (by first | decide | omega)
  have q44 : h3 75 8 = (h 75 6) := by rw [← e5]; exact x_up_at
  refine x_getC (np := 35) (x := 712) (f := 8) (q := (h 75 6)) (by decide +kernel) (by decide) (by decide +kernel) ((((q40.trans q41).trans q42).trans q43).trans q44) (fun l45 => ?_)
  refine x_icmp (k := 1) (tg := 40) (np := 38) (by decide +kernel) (by decide) l39 l2 (fun q46 => ?_) (fun q47 => ?_)
  · have q46 : (h26 75 7) ≠ (h 75 6) := q46
    refine x_const (np := 41) (x := 9223372039002259456) (a := 2147483648) (by decide +kernel) (by decide) (by decide) ?_
    refine x_istore (np := 42) (x := 2) (lo' := [x_r 75, iv_c 2147483649, iv_c 2147483648]) (by decide +kernel) (by decide) (Nat.le_of_ble_eq_true rfl) rfl ?_
    have p1990 : ∀ (n : Nat) (v1985 : Nat) (h1987 : xh), 4294967296 - v1985 < n → (2147483648 ≤ v1985 ∧ v1985 ≤ 2147483662) → h1987 78 0 = h 78 0 → h1987 78 1 = h 78 1 → J h1987 → Fr 16140901064769536001 h26 h1987 → Cl h1987 → Tl tB tN (h 76 0) (h 78 2) (h 78 3) (h 78 4) (h 78 5) (2147483662 - v1985) (h1987 78 2) (h1987 78 3) (h1987 78 4) (h1987 78 5) (sk tB tN (h1987 75 7)) → Wl (wdr h) (wdr h1987) (h 78 3) (h1987 78 3) → X sc 194 (d + 8) (xI fun r h' => J h' ∧ Fr 16140901064788934657 h h' ∧ (2147483647 ≤ r ∧ r ≤ 2147483662) ∧ (h' 75 6 = 2147483648) ∧ (2147483648 ≤ r → h' 78 0 = h 78 0) ∧ (2147483648 ≤ r → h' 78 1 = h 78 1) ∧ (2147483648 ≤ r → Cl h') ∧ Tt tB tN (h 76 0) (h 78 2) (h 78 3) (h 78 4) (h 78 5) (rt4 r (h' 78 2) (h' 78 3) (h' 78 4) (h' 78 5)) ∧ (2147483648 ≤ r → Wl (wdr h) (wdr h') (h 78 3) (h' 78 3))) 0 0 42 [x_r 75, iv_c 2147483649, iv_c v1985] [] h1987 := by
      intro n
      induction n with
      | zero => intro v1985 h1987 q1996; exact absurd q1996 (Nat.not_lt_zero _)
      | succ n i1997 =>
        intro v1985 h1987 q1996 b1986 b1991 b1992 j1989 f1988 m1995 m1993 m1994
        have f1998 := Fr.trans f34 f1988 (by decide)
        have b1999 := jB (e := 2) 0 j1989 rg_78_2_0_1 (by first | decide | omega) (by first | decide | omega)
        have b2000 := jB (e := 3) 0 j1989 rg_78_3_0_1 (by first | decide | omega) (by first | decide | omega)
        have b2001 := jB (e := 4) 0 j1989 rg_78_4_0_1 (by first | decide | omega) (by first | decide | omega)
        have b2002 := jB (e := 5) 0 j1989 rg_78_5_0_1 (by first | decide | omega) (by first | decide | omega)
        refine x_aload (np := 43) (x := 0) (by decide +kernel) rfl (x_nc_le (by decide)) ?_
        have m2007 := Tq.fr m22 f28 (by decide) (by decide)
        have m2006 := Tq.fr m2007 f1988 (by decide) (by decide)
        refine x_cV (t := 6) (mj := 169) (n := 1) (rc := 12) (ml := 1) (nr := 0) (np := 46) (as := [x_r 75]) (rest := []) (lo1 := [x_r 75]) (by decide +kernel) (by decide) (by decide +kernel) (x_rb_of (by decide +kernel)) rfl rfl (x_wr (by decide) x_wn) x_wn (by decide) rfl (c169_75 j1989  m2006) (fun h2008 q2005 => ?_)
        obtain ⟨j2009, f2010, c2013, c2014, c2015, c2016⟩ := q2005
        have f2017 := Fr.trans f1998 f2010 (by decide)
        have f2018 := Fr.trans f1988 f2010 (by decide)
        have b2019 := jB (e := 7) 0 j1989 rg_75_7_0_1 (by first | decide | omega) (by first | decide | omega)
        have b2020 := jB (e := 9) 0 j2009 rg_75_9_0_1 (by first | decide | omega) (by first | decide | omega)
        have b2021 := jB (e := 7) 0 j2009 rg_75_7_0_1 (by first | decide | omega) (by first | decide | omega)
        refine x_iload (np := 47) (x := 2) (by decide +kernel) rfl (by first | decide | omega) ?_
        refine x_iload (np := 48) (x := 1) (by decide +kernel) rfl (by decide) ?_
        refine x_ifz (k := 0) (tg := 56) (np := 51) (by decide +kernel) (by decide) (by decide) (fun q2022 => ?_) (fun q2023 => ?_)
        · have q2022 : 2147483649 = 2147483648 := q2022
          exfalso; omega
        have q2023 : ¬ (2147483649 = 2147483648) := q2023
        refine x_const (np := 53) (x := 9223372099131801614) (a := 2147483662) (by decide +kernel) (by decide) (by decide) ?_
        refine x_goto (np := 56) (x := 58) (by decide +kernel) ?_
        refine x_icmp (k := 0) (tg := 83) (np := 61) (by decide +kernel) (by decide) (by first | decide | omega) (by decide) (fun q2024 => ?_) (fun q2025 => ?_)
        · have q2024 : v1985 = 2147483662 := q2024
          refine x_const (np := 84) (x := 9223372034707292159) (a := 2147483647) (by decide +kernel) (by decide) (by decide) ?_
          have q2026 : h2008 75 6 = h1987 75 6 := jK 0 f2010 rg_75_6_0_1 (by first | decide | omega) (by first | decide | omega) (by decide)
          have q2027 : h1987 75 6 = h26 75 6 := jK 0 f1988 rg_75_6_0_1 (by first | decide | omega) (by first | decide | omega) (by decide)
          have q2028 : h26 75 6 = h15 75 6 := jK 0 f28 rg_75_6_0_1 (by first | decide | omega) (by first | decide | omega) (by decide)
          have q2029 : h15 75 6 = h11 75 6 := by rw [← e17]; exact x_up_i (by first | decide | omega)
          have q2030 : h11 75 6 = h7 75 6 := by rw [← e13]; exact x_up_i (by first | decide | omega)
          have q2031 : h7 75 6 = 2147483648 := by rw [← e9]; exact x_up_at
          have b2032 := jB (e := 0) 0 hJ rg_78_0_0_1 (by first | decide | omega) (by first | decide | omega)
          have q2033 : h2008 78 0 = h1987 78 0 := jK 0 f2010 rg_78_0_0_1 (by first | decide | omega) (by first | decide | omega) (by decide)
          have b2034 := jB (e := 0) 0 j1989 rg_78_0_0_1 (by first | decide | omega) (by first | decide | omega)
          have q2035 : h2008 78 1 = h1987 78 1 := jK 0 f2010 rg_78_1_0_1 (by first | decide | omega) (by first | decide | omega) (by decide)
          have b2036 := jB (e := 2) 0 hJ rg_78_2_0_1 (by first | decide | omega) (by first | decide | omega)
          have q2037 : h2008 78 2 = h1987 78 2 := jK 0 f2010 rg_78_2_0_1 (by first | decide | omega) (by first | decide | omega) (by decide)
          have b2038 := jB (e := 3) 0 hJ rg_78_3_0_1 (by first | decide | omega) (by first | decide | omega)
          have q2039 : h2008 78 3 = h1987 78 3 := jK 0 f2010 rg_78_3_0_1 (by first | decide | omega) (by first | decide | omega) (by decide)
          have b2040 := jB (e := 4) 0 hJ rg_78_4_0_1 (by first | decide | omega) (by first | decide | omega)
          have q2041 : h2008 78 4 = h1987 78 4 := jK 0 f2010 rg_78_4_0_1 (by first | decide | omega) (by first | decide | omega) (by decide)
          have b2042 := jB (e := 5) 0 hJ rg_78_5_0_1 (by first | decide | omega) (by first | decide | omega)
          have q2043 : h2008 78 5 = h1987 78 5 := jK 0 f2010 rg_78_5_0_1 (by first | decide | omega) (by first | decide | omega) (by decide)
          refine x_retI (np := 85) (x := 0) (by decide +kernel) (by decide) (Or.inl (by decide +kernel)) ⟨_, rfl, (by decide), ?_⟩
          exact ⟨j2009, f2017, (by first | decide | omega), (by first | decide | omega), (fun z => by first | decide | omega), (fun z => by first | decide | omega), (fun z => absurd z (by first | decide | omega)), (Tt.r0 (by first | decide | omega) (Tl.full m1993 (by first | decide | omega))), (fun z => absurd z (by first | decide | omega))⟩
        have q2025 : ¬ (v1985 = 2147483662) := q2025
        refine x_iload (np := 62) (x := 1) (by decide +kernel) rfl (by decide) ?_
        refine x_ifz (k := 0) (tg := 75) (np := 65) (by decide +kernel) (by decide) (by decide) (fun q2044 => ?_) (fun q2045 => ?_)
        · have q2044 : 2147483649 = 2147483648 := q2044
          exfalso; omega
        have q2045 : ¬ (2147483649 = 2147483648) := q2045
        refine x_aload (np := 66) (x := 0) (by decide +kernel) rfl (x_nc_le (by decide)) ?_
        have m2049 := Cl.fr m1995 f2010 (by decide)
        have m2050 := Tq.fr m2006 f2010 (by decide) (by decide)
        refine x_cI (t := 6) (mj := 186) (n := 1) (rc := 12) (ml := 1) (nr := 0) (np := 69) (as := [x_r 75]) (rest := []) (lo1 := [x_r 75]) (by decide +kernel) (by decide) (by decide +kernel) (x_rb_of (by decide +kernel)) rfl rfl (x_wr (by decide) x_wn) x_wn (by decide) rfl (c186_75 j2009  m2049 m2050 c2016) (fun v2046 h2051 l2047 q2048 => ?_)
        obtain ⟨j2052, f2053, b2054, c2055, c2056, c2057, c2058, c2059⟩ := q2048
        have f2060 := Fr.trans f2017 f2053 (by decide)
        have f2061 := Fr.trans f2018 f2053 (by decide)
        have q2062 : h2008 78 0 = h1987 78 0 := jK 0 f2010 rg_78_0_0_1 (by first | decide | omega) (by first | decide | omega) (by decide)
        have b2063 := jB (e := 0) 0 j1989 rg_78_0_0_1 (by first | decide | omega) (by first | decide | omega)
        have b2064 := jB (e := 0) 0 j2052 rg_78_0_0_1 (by first | decide | omega) (by first | decide | omega)
        have q2065 : h2008 78 1 = h1987 78 1 := jK 0 f2010 rg_78_1_0_1 (by first | decide | omega) (by first | decide | omega) (by decide)
        refine x_ifz (k := 0) (tg := 83) (np := 72) (by decide +kernel) (by decide) l2047 (fun q2066 => ?_) (fun q2067 => ?_)
        · have q2066 : v2046 = 2147483648 := q2066
          refine x_const (np := 84) (x := 9223372034707292159) (a := 2147483647) (by decide +kernel) (by decide) (by decide) ?_
          have q2068 : h2051 75 6 = h2008 75 6 := jK 0 f2053 rg_75_6_0_1 (by first | decide | omega) (by first | decide | omega) (by decide)
          have q2069 : h2008 75 6 = h1987 75 6 := jK 0 f2010 rg_75_6_0_1 (by first | decide | omega) (by first | decide | omega) (by decide)
          have q2070 : h1987 75 6 = h26 75 6 := jK 0 f1988 rg_75_6_0_1 (by first | decide | omega) (by first | decide | omega) (by decide)
          have q2071 : h26 75 6 = h15 75 6 := jK 0 f28 rg_75_6_0_1 (by first | decide | omega) (by first | decide | omega) (by decide)
          have q2072 : h15 75 6 = h11 75 6 := by rw [← e17]; exact x_up_i (by first | decide | omega)
          have q2073 : h11 75 6 = h7 75 6 := by rw [← e13]; exact x_up_i (by first | decide | omega)
          have q2074 : h7 75 6 = 2147483648 := by rw [← e9]; exact x_up_at
          have b2075 := jB (e := 0) 0 hJ rg_78_0_0_1 (by first | decide | omega) (by first | decide | omega)
          have b2076 := jB (e := 2) 0 hJ rg_78_2_0_1 (by first | decide | omega) (by first | decide | omega)
          have b2077 := jB (e := 2) 0 j2052 rg_78_2_0_1 (by first | decide | omega) (by first | decide | omega)
          have b2078 := jB (e := 3) 0 hJ rg_78_3_0_1 (by first | decide | omega) (by first | decide | omega)
          have b2079 := jB (e := 3) 0 j2052 rg_78_3_0_1 (by first | decide | omega) (by first | decide | omega)
          have b2080 := jB (e := 4) 0 hJ rg_78_4_0_1 (by first | decide | omega) (by first | decide | omega)
          have b2081 := jB (e := 4) 0 j2052 rg_78_4_0_1 (by first | decide | omega) (by first | decide | omega)
          have b2082 := jB (e := 5) 0 hJ rg_78_5_0_1 (by first | decide | omega) (by first | decide | omega)
          have b2083 := jB (e := 5) 0 j2052 rg_78_5_0_1 (by first | decide | omega) (by first | decide | omega)
          have q2085 : h2008 76 0 = h1987 76 0 := jK 0 f2010 rg_76_0_0_1 (by first | decide | omega) (by first | decide | omega) (by decide)
          have q2086 : h1987 76 0 = h26 76 0 := jK 0 f1988 rg_76_0_0_1 (by first | decide | omega) (by first | decide | omega) (by decide)
          have q2087 : h26 76 0 = h15 76 0 := jK 0 f28 rg_76_0_0_1 (by first | decide | omega) (by first | decide | omega) (by decide)
          have q2088 : h15 76 0 = h11 76 0 := by rw [← e17]; exact x_up_k (by decide)
          have q2089 : h11 76 0 = h7 76 0 := by rw [← e13]; exact x_up_k (by decide)
          have q2090 : h7 76 0 = h3 76 0 := by rw [← e9]; exact x_up_k (by decide)
          have q2091 : h3 76 0 = h 76 0 := by rw [← e5]; exact x_up_k (by decide)
          have b2092 := jB (e := 0) 0 hJ rg_76_0_0_1 (by first | decide | omega) (by first | decide | omega)
          have q2093 : h2008 78 2 = h1987 78 2 := jK 0 f2010 rg_78_2_0_1 (by first | decide | omega) (by first | decide | omega) (by decide)
          have q2094 : h2008 78 3 = h1987 78 3 := jK 0 f2010 rg_78_3_0_1 (by first | decide | omega) (by first | decide | omega) (by decide)
          have q2095 : h2008 78 4 = h1987 78 4 := jK 0 f2010 rg_78_4_0_1 (by first | decide | omega) (by first | decide | omega) (by decide)
          have q2096 : h2008 78 5 = h1987 78 5 := jK 0 f2010 rg_78_5_0_1 (by first | decide | omega) (by first | decide | omega) (by decide)
          have k2084 := l9_pe (pe' := h 76 0) (l1 := h1987 78 2) (t1 := h1987 78 3) (d1 := h1987 78 4) (s1 := h1987 78 5) c2058 (by first | decide | omega) (by first | decide | omega) (by first | decide | omega) (by first | decide | omega) (by first | decide | omega)
          refine x_retI (np := 85) (x := 0) (by decide +kernel) (by decide) (Or.inl (by decide +kernel)) ⟨_, rfl, (by decide), ?_⟩
          exact ⟨j2052, f2060, (by first | decide | omega), (by first | decide | omega), (fun z => by first | decide | omega), (fun z => by first | decide | omega), (fun z => absurd z (by first | decide | omega)), (Tt.r0 (by first | decide | omega) (Tl.no m1993 (by first | decide | omega) k2084 c2015 (by first | decide | omega))), (fun z => absurd z (by first | decide | omega))⟩
        have q2067 : ¬ (v2046 = 2147483648) := q2067
        have b2097 := c2055 (by first | decide | omega)
        have b2098 := c2056 (by first | decide | omega)
        have m2099 := c2057 (by first | decide | omega)
        refine x_goto (np := 75) (x := 85) (by decide +kernel) ?_
        refine x_aload (np := 86) (x := 0) (by decide +kernel) rfl (x_nc_le (by decide)) ?_
        have m2103 := Tq.fr m2050 f2053 (by decide) (by decide)
        refine x_cV (t := 6) (mj := 168) (n := 1) (rc := 12) (ml := 1) (nr := 0) (np := 89) (as := [x_r 75]) (rest := []) (lo1 := [x_r 75]) (by decide +kernel) (by decide) (by decide +kernel) (x_rb_of (by decide +kernel)) rfl rfl (x_wr (by decide) x_wn) x_wn (by decide) rfl (c168_75 j2052  m2103) (fun h2104 q2102 => ?_)
        obtain ⟨j2105, f2106, c2109, c2110, c2111⟩ := q2102
        have f2112 := Fr.trans f2060 f2106 (by decide)
        have f2113 := Fr.trans f2061 f2106 (by decide)
        have b2114 := jB (e := 7) 0 j2052 rg_75_7_0_1 (by first | decide | omega) (by first | decide | omega)
        have b2115 := jB (e := 7) 0 j2105 rg_75_7_0_1 (by first | decide | omega) (by first | decide | omega)
        have b2116 := jB (e := 9) 0 j2105 rg_75_9_0_1 (by first | decide | omega) (by first | decide | omega)
        refine x_aload (np := 90) (x := 0) (by decide +kernel) rfl (x_nc_le (by decide)) ?_
        refine x_getC (np := 93) (x := 711) (f := 7) (q := (h2104 75 7)) (by decide +kernel) (by decide) (by decide +kernel) rfl (fun l2117 => ?_)
        refine x_aload (np := 94) (x := 0) (by decide +kernel) rfl (x_nc_le (by decide)) ?_
        have q2118 : h2104 75 8 = h2051 75 8 := jK 0 f2106 rg_75_8_0_1 (by first | decide | omega) (by first | decide | omega) (by decide)
        have q2119 : h2051 75 8 = h2008 75 8 := jK 0 f2053 rg_75_8_0_1 (by first | decide | omega) (by first | decide | omega) (by decide)
        have q2120 : h2008 75 8 = h1987 75 8 := jK 0 f2010 rg_75_8_0_1 (by first | decide | omega) (by first | decide | omega) (by decide)
        have q2121 : h1987 75 8 = h26 75 8 := jK 0 f1988 rg_75_8_0_1 (by first | decide | omega) (by first | decide | omega) (by decide)
        have q2122 : h26 75 8 = h15 75 8 := jK 0 f28 rg_75_8_0_1 (by first | decide | omega) (by first | decide | omega) (by decide)
        have q2123 : h15 75 8 = h11 75 8 := by rw [← e17]; exact x_up_i (by first | decide | omega)
        have q2124 : h11 75 8 = h7 75 8 := by rw [← e13]; exact x_up_i (by first | decide | omega)
        have q2125 : h7 75 8 = h3 75 8 := by rw [← e9]; exact x_up_i (by first | decide | omega)
        have q2126 : h3 75 8 = (h 75 6) := by rw [← e5]; exact x_up_at
        refine x_getC (np := 97) (x := 712) (f := 8) (q := (h 75 6)) (by decide +kernel) (by decide) (by decide +kernel) ((((((((q2118.trans q2119).trans q2120).trans q2121).trans q2122).trans q2123).trans q2124).trans q2125).trans q2126) (fun l2127 => ?_)
        refine x_icmp (k := 1) (tg := 104) (np := 100) (by decide +kernel) (by decide) l2117 l2 (fun q2128 => ?_) (fun q2129 => ?_)
        · have q2128 : (h2104 75 7) ≠ (h 75 6) := q2128
          refine x_aload (np := 105) (x := 0) (by decide +kernel) rfl (x_nc_le (by decide)) ?_
          refine x_const (np := 107) (x := 9223372292405329979) (a := 2147483707) (by decide +kernel) (by decide) (by decide) ?_
          refine x_const (np := 109) (x := 9223372292405329979) (a := 2147483707) (by decide +kernel) (by decide) (by decide) ?_
          refine x_nI (t := 6) (mj := 167) (n := 3) (rc := 12) (ml := 3) (nr := 0) (np := 112) (as := [x_r 75, iv_c 2147483707, iv_c 2147483707]) (rest := []) (lo1 := [x_r 75, iv_c 2147483707, iv_c 2147483707]) (by decide +kernel) (by decide) (by decide +kernel) (x_rb_of (by decide +kernel)) rfl rfl (x_wr (by decide) (x_wi (by decide) (x_wi (by decide) x_wn))) x_wn (by decide) rfl ?_
          refine x_aload (np := 1) (x := 0) (by decide +kernel) rfl (x_nc_le (by decide)) ?_
          refine x_getC (np := 4) (x := 711) (f := 7) (q := (h2104 75 7)) (by decide +kernel) (by decide) (by decide +kernel) rfl (fun l2130 => ?_)
          refine x_aload (np := 5) (x := 0) (by decide +kernel) rfl (x_nc_le (by decide)) ?_
          have q2131 : h2104 75 8 = h2051 75 8 := jK 0 f2106 rg_75_8_0_1 (by first | decide | omega) (by first | decide | omega) (by decide)
          have q2132 : h2051 75 8 = h2008 75 8 := jK 0 f2053 rg_75_8_0_1 (by first | decide | omega) (by first | decide | omega) (by decide)
          have q2133 : h2008 75 8 = h1987 75 8 := jK 0 f2010 rg_75_8_0_1 (by first | decide | omega) (by first | decide | omega) (by decide)
          have q2134 : h1987 75 8 = h26 75 8 := jK 0 f1988 rg_75_8_0_1 (by first | decide | omega) (by first | decide | omega) (by decide)
          have q2135 : h26 75 8 = h15 75 8 := jK 0 f28 rg_75_8_0_1 (by first | decide | omega) (by first | decide | omega) (by decide)
          have q2136 : h15 75 8 = h11 75 8 := by rw [← e17]; exact x_up_i (by first | decide | omega)
          have q2137 : h11 75 8 = h7 75 8 := by rw [← e13]; exact x_up_i (by first | decide | omega)
          have q2138 : h7 75 8 = h3 75 8 := by rw [← e9]; exact x_up_i (by first | decide | omega)
          have q2139 : h3 75 8 = (h 75 6) := by rw [← e5]; exact x_up_at
          refine x_getC (np := 8) (x := 712) (f := 8) (q := (h 75 6)) (by decide +kernel) (by decide) (by decide +kernel) ((((((((q2131.trans q2132).trans q2133).trans q2134).trans q2135).trans q2136).trans q2137).trans q2138).trans q2139) (fun l2140 => ?_)
          refine x_icmp (k := 3) (tg := 41) (np := 11) (by decide +kernel) (by decide) l2117 l2 (fun q2141 => ?_) (fun q2142 => ?_)
          · have q2141 : (h 75 6) ≤ (h2104 75 7) := q2141
            refine x_const (np := 42) (x := 9223372039002259456) (a := 2147483648) (by decide +kernel) (by decide) (by decide) ?_
            refine x_retI (np := 43) (x := 0) (by decide +kernel) (by decide) (Or.inr ⟨by decide +kernel, by first | decide | omega, by first | decide | omega⟩) ⟨_, rfl, (by decide), ?_⟩
            refine x_ifz (k := 1) (tg := 117) (np := 115) (by decide +kernel) (by decide) (by decide) (fun q2143 => ?_) (fun q2144 => ?_)
            · have q2143 : 2147483648 ≠ 2147483648 := q2143
              exfalso; omega
            have q2144 : ¬ (2147483648 ≠ 2147483648) := q2144
            refine x_const (np := 116) (x := 9223372034707292159) (a := 2147483647) (by decide +kernel) (by decide) (by decide) ?_
            have q2145 : h2104 75 6 = h2051 75 6 := jK 0 f2106 rg_75_6_0_1 (by first | decide | omega) (by first | decide | omega) (by decide)
            have q2146 : h2051 75 6 = h2008 75 6 := jK 0 f2053 rg_75_6_0_1 (by first | decide | omega) (by first | decide | omega) (by decide)
            have q2147 : h2008 75 6 = h1987 75 6 := jK 0 f2010 rg_75_6_0_1 (by first | decide | omega) (by first | decide | omega) (by decide)
            have q2148 : h1987 75 6 = h26 75 6 := jK 0 f1988 rg_75_6_0_1 (by first | decide | omega) (by first | decide | omega) (by decide)
            have q2149 : h26 75 6 = h15 75 6 := jK 0 f28 rg_75_6_0_1 (by first | decide | omega) (by first | decide | omega) (by decide)
            have q2150 : h15 75 6 = h11 75 6 := by rw [← e17]; exact x_up_i (by first | decide | omega)
            have q2151 : h11 75 6 = h7 75 6 := by rw [← e13]; exact x_up_i (by first | decide | omega)
            have q2152 : h7 75 6 = 2147483648 := by rw [← e9]; exact x_up_at
            have b2153 := jB (e := 0) 0 hJ rg_78_0_0_1 (by first | decide | omega) (by first | decide | omega)
            have q2154 : h2104 78 0 = h2051 78 0 := jK 0 f2106 rg_78_0_0_1 (by first | decide | omega) (by first | decide | omega) (by decide)
            have q2155 : h2104 78 1 = h2051 78 1 := jK 0 f2106 rg_78_1_0_1 (by first | decide | omega) (by first | decide | omega) (by decide)
            have b2156 := jB (e := 2) 0 hJ rg_78_2_0_1 (by first | decide | omega) (by first | decide | omega)
            have q2157 : h2104 78 2 = h2051 78 2 := jK 0 f2106 rg_78_2_0_1 (by first | decide | omega) (by first | decide | omega) (by decide)
            have b2158 := jB (e := 2) 0 j2052 rg_78_2_0_1 (by first | decide | omega) (by first | decide | omega)
            have b2159 := jB (e := 3) 0 hJ rg_78_3_0_1 (by first | decide | omega) (by first | decide | omega)
            have q2160 : h2104 78 3 = h2051 78 3 := jK 0 f2106 rg_78_3_0_1 (by first | decide | omega) (by first | decide | omega) (by decide)
            have b2161 := jB (e := 3) 0 j2052 rg_78_3_0_1 (by first | decide | omega) (by first | decide | omega)
            have b2162 := jB (e := 4) 0 hJ rg_78_4_0_1 (by first | decide | omega) (by first | decide | omega)
            have q2163 : h2104 78 4 = h2051 78 4 := jK 0 f2106 rg_78_4_0_1 (by first | decide | omega) (by first | decide | omega) (by decide)
            have b2164 := jB (e := 4) 0 j2052 rg_78_4_0_1 (by first | decide | omega) (by first | decide | omega)
            have b2165 := jB (e := 5) 0 hJ rg_78_5_0_1 (by first | decide | omega) (by first | decide | omega)
            have q2166 : h2104 78 5 = h2051 78 5 := jK 0 f2106 rg_78_5_0_1 (by first | decide | omega) (by first | decide | omega) (by decide)
            have b2167 := jB (e := 5) 0 j2052 rg_78_5_0_1 (by first | decide | omega) (by first | decide | omega)
            have q2169 : h2008 76 0 = h1987 76 0 := jK 0 f2010 rg_76_0_0_1 (by first | decide | omega) (by first | decide | omega) (by decide)
            have q2170 : h1987 76 0 = h26 76 0 := jK 0 f1988 rg_76_0_0_1 (by first | decide | omega) (by first | decide | omega) (by decide)
            have q2171 : h26 76 0 = h15 76 0 := jK 0 f28 rg_76_0_0_1 (by first | decide | omega) (by first | decide | omega) (by decide)
            have q2172 : h15 76 0 = h11 76 0 := by rw [← e17]; exact x_up_k (by decide)
            have q2173 : h11 76 0 = h7 76 0 := by rw [← e13]; exact x_up_k (by decide)
            have q2174 : h7 76 0 = h3 76 0 := by rw [← e9]; exact x_up_k (by decide)
            have q2175 : h3 76 0 = h 76 0 := by rw [← e5]; exact x_up_k (by decide)
            have b2176 := jB (e := 0) 0 hJ rg_76_0_0_1 (by first | decide | omega) (by first | decide | omega)
            have q2177 : h2008 78 2 = h1987 78 2 := jK 0 f2010 rg_78_2_0_1 (by first | decide | omega) (by first | decide | omega) (by decide)
            have q2178 : h2008 78 3 = h1987 78 3 := jK 0 f2010 rg_78_3_0_1 (by first | decide | omega) (by first | decide | omega) (by decide)
            have q2179 : h2008 78 4 = h1987 78 4 := jK 0 f2010 rg_78_4_0_1 (by first | decide | omega) (by first | decide | omega) (by decide)
            have q2180 : h2008 78 5 = h1987 78 5 := jK 0 f2010 rg_78_5_0_1 (by first | decide | omega) (by first | decide | omega) (by decide)
            have k2168 := l9_pe (pe' := h 76 0) (l1 := h1987 78 2) (t1 := h1987 78 3) (d1 := h1987 78 4) (s1 := h1987 78 5) c2058 (by first | decide | omega) (by first | decide | omega) (by first | decide | omega) (by first | decide | omega) (by first | decide | omega)
            have q2181 : h2104 75 8 = h2051 75 8 := jK 0 f2106 rg_75_8_0_1 (by first | decide | omega) (by first | decide | omega) (by decide)
            have q2182 : h2051 75 8 = h2008 75 8 := jK 0 f2053 rg_75_8_0_1 (by first | decide | omega) (by first | decide | omega) (by decide)
            have q2183 : h2008 75 8 = h1987 75 8 := jK 0 f2010 rg_75_8_0_1 (by first | decide | omega) (by first | decide | omega) (by decide)
            have q2184 : h1987 75 8 = h26 75 8 := jK 0 f1988 rg_75_8_0_1 (by first | decide | omega) (by first | decide | omega) (by decide)
            have q2185 : h26 75 8 = h15 75 8 := jK 0 f28 rg_75_8_0_1 (by first | decide | omega) (by first | decide | omega) (by decide)
            have q2186 : h15 75 8 = h11 75 8 := by rw [← e17]; exact x_up_i (by first | decide | omega)
            have q2187 : h11 75 8 = h7 75 8 := by rw [← e13]; exact x_up_i (by first | decide | omega)
            have q2188 : h7 75 8 = h3 75 8 := by rw [← e9]; exact x_up_i (by first | decide | omega)
            have q2189 : h3 75 8 = (h 75 6) := by rw [← e5]; exact x_up_at
            have m2191 := Tq.fr m2103 f2106 (by decide) (by decide)
            have z2190 := m2191.1
            have z2192 := (Eq.trans c2111 (congrArg (sk tB tN) (show h2051 75 7 = h2051 75 7 by first | decide | omega)))
            refine x_retI (np := 117) (x := 0) (by decide +kernel) (by decide) (Or.inl (by decide +kernel)) ⟨_, rfl, (by decide), ?_⟩
            exact ⟨j2105, f2112, (by first | decide | omega), (by first | decide | omega), (fun z => by first | decide | omega), (fun z => by first | decide | omega), (fun z => absurd z (by first | decide | omega)), (Tt.r0 (by first | decide | omega) (Tl.bad m1993 (by first | decide | omega) k2168 c2015 (by first | decide | omega) (by first | decide | omega) (p2 := h2104 75 7) (fun z => by have z1 := z.1; have z2 := z.2; omega) (Eq.trans c2111 (congrArg (sk tB tN) (show h2051 75 7 = h2051 75 7 by first | decide | omega))))), (fun z => absurd z (by first | decide | omega))⟩
          have q2142 : ¬ ((h 75 6) ≤ (h2104 75 7)) := q2142
          refine x_aload (np := 12) (x := 0) (by decide +kernel) rfl (x_nc_le (by decide)) ?_
          have q2193 : h2104 75 5 = 79 := by have z := jB (e := 5) 0 j2105 rg_75_5_0_1 (by decide) (by decide); omega
          refine x_getR (np := 15) (x := 709) (f := 5) (q := 79) (by decide +kernel) (by decide) (by decide +kernel) q2193 ?_
          refine x_aload (np := 16) (x := 0) (by decide +kernel) rfl (x_nc_le (by decide)) ?_
          refine x_getC (np := 19) (x := 711) (f := 7) (q := (h2104 75 7)) (by decide +kernel) (by decide) (by decide +kernel) rfl (fun l2194 => ?_)
          obtain ⟨u2195, q2196⟩ : ∃ z, (h2104 75 7) = 2147483648 + z := ⟨(h2104 75 7) - 2147483648, by first | decide | omega⟩
          have q2197 : h2104 79 u2195 = h2051 79 u2195 := jK u2195 f2106 rg_79_0_1_400 (by first | decide | omega) (by first | decide | omega) (by decide)
          have q2198 : h2051 79 u2195 = h2008 79 u2195 := jK u2195 f2053 rg_79_0_1_400 (by first | decide | omega) (by first | decide | omega) (by decide)
          have q2199 : h2008 79 u2195 = h1987 79 u2195 := jK u2195 f2010 rg_79_0_1_400 (by first | decide | omega) (by first | decide | omega) (by decide)
          have q2200 : h1987 79 u2195 = h26 79 u2195 := jK u2195 f1988 rg_79_0_1_400 (by first | decide | omega) (by first | decide | omega) (by decide)
          have q2201 : h26 79 u2195 = h15 79 u2195 := jK u2195 f28 rg_79_0_1_400 (by first | decide | omega) (by first | decide | omega) (by decide)
          have q2202 : h15 79 u2195 = h11 79 u2195 := by rw [← e17]; exact x_up_k (by decide)
          have q2203 : h11 79 u2195 = h7 79 u2195 := by rw [← e13]; exact x_up_k (by decide)
          have q2204 : h7 79 u2195 = h3 79 u2195 := by rw [← e9]; exact x_up_k (by decide)
          have q2205 : h3 79 u2195 = h 79 u2195 := by rw [← e5]; exact x_up_k (by decide)
          have b2206 := jB (e := u2195) u2195 hJ rg_79_0_1_400 (by first | decide | omega) (by first | decide | omega)
          refine x_baldC (np := 20) (x := 0) (n := 400) (i := u2195) (q := (h 79 u2195)) (by decide +kernel) (by decide +kernel) (by first | decide | omega) (by first | decide | omega) (by decide) ((((((((q2197.trans q2198).trans q2199).trans q2200).trans q2201).trans q2202).trans q2203).trans q2204).trans q2205) (fun l2207 => ?_)
          refine x_iload (np := 21) (x := 1) (by decide +kernel) rfl (by decide) ?_
          refine x_icmp (k := 2) (tg := 41) (np := 24) (by decide +kernel) (by decide) l2207 (by decide) (fun q2208 => ?_) (fun q2209 => ?_)
          · have q2208 : (h 79 u2195) < 2147483707 := q2208
            refine x_const (np := 42) (x := 9223372039002259456) (a := 2147483648) (by decide +kernel) (by decide) (by decide) ?_
            refine x_retI (np := 43) (x := 0) (by decide +kernel) (by decide) (Or.inr ⟨by decide +kernel, by first | decide | omega, by first | decide | omega⟩) ⟨_, rfl, (by decide), ?_⟩
            refine x_ifz (k := 1) (tg := 117) (np := 115) (by decide +kernel) (by decide) (by decide) (fun q2210 => ?_) (fun q2211 => ?_)
            · have q2210 : 2147483648 ≠ 2147483648 := q2210
              exfalso; omega
            have q2211 : ¬ (2147483648 ≠ 2147483648) := q2211
            refine x_const (np := 116) (x := 9223372034707292159) (a := 2147483647) (by decide +kernel) (by decide) (by decide) ?_
            have q2212 : h2104 75 6 = h2051 75 6 := jK 0 f2106 rg_75_6_0_1 (by first | decide | omega) (by first | decide | omega) (by decide)
            have q2213 : h2051 75 6 = h2008 75 6 := jK 0 f2053 rg_75_6_0_1 (by first | decide | omega) (by first | decide | omega) (by decide)
            have q2214 : h2008 75 6 = h1987 75 6 := jK 0 f2010 rg_75_6_0_1 (by first | decide | omega) (by first | decide | omega) (by decide)
            have q2215 : h1987 75 6 = h26 75 6 := jK 0 f1988 rg_75_6_0_1 (by first | decide | omega) (by first | decide | omega) (by decide)
            have q2216 : h26 75 6 = h15 75 6 := jK 0 f28 rg_75_6_0_1 (by first | decide | omega) (by first | decide | omega) (by decide)
            have q2217 : h15 75 6 = h11 75 6 := by rw [← e17]; exact x_up_i (by first | decide | omega)
            have q2218 : h11 75 6 = h7 75 6 := by rw [← e13]; exact x_up_i (by first | decide | omega)
            have q2219 : h7 75 6 = 2147483648 := by rw [← e9]; exact x_up_at
            have b2220 := jB (e := 0) 0 hJ rg_78_0_0_1 (by first | decide | omega) (by first | decide | omega)
            have q2221 : h2104 78 0 = h2051 78 0 := jK 0 f2106 rg_78_0_0_1 (by first | decide | omega) (by first | decide | omega) (by decide)
            have q2222 : h2104 78 1 = h2051 78 1 := jK 0 f2106 rg_78_1_0_1 (by first | decide | omega) (by first | decide | omega) (by decide)
            have b2223 := jB (e := 2) 0 hJ rg_78_2_0_1 (by first | decide | omega) (by first | decide | omega)
            have q2224 : h2104 78 2 = h2051 78 2 := jK 0 f2106 rg_78_2_0_1 (by first | decide | omega) (by first | decide | omega) (by decide)
            have b2225 := jB (e := 2) 0 j2052 rg_78_2_0_1 (by first | decide | omega) (by first | decide | omega)
            have b2226 := jB (e := 3) 0 hJ rg_78_3_0_1 (by first | decide | omega) (by first | decide | omega)
            have q2227 : h2104 78 3 = h2051 78 3 := jK 0 f2106 rg_78_3_0_1 (by first | decide | omega) (by first | decide | omega) (by decide)
            have b2228 := jB (e := 3) 0 j2052 rg_78_3_0_1 (by first | decide | omega) (by first | decide | omega)
            have b2229 := jB (e := 4) 0 hJ rg_78_4_0_1 (by first | decide | omega) (by first | decide | omega)
            have q2230 : h2104 78 4 = h2051 78 4 := jK 0 f2106 rg_78_4_0_1 (by first | decide | omega) (by first | decide | omega) (by decide)
            have b2231 := jB (e := 4) 0 j2052 rg_78_4_0_1 (by first | decide | omega) (by first | decide | omega)
            have b2232 := jB (e := 5) 0 hJ rg_78_5_0_1 (by first | decide | omega) (by first | decide | omega)
            have q2233 : h2104 78 5 = h2051 78 5 := jK 0 f2106 rg_78_5_0_1 (by first | decide | omega) (by first | decide | omega) (by decide)
            have b2234 := jB (e := 5) 0 j2052 rg_78_5_0_1 (by first | decide | omega) (by first | decide | omega)
            have q2236 : h2008 76 0 = h1987 76 0 := jK 0 f2010 rg_76_0_0_1 (by first | decide | omega) (by first | decide | omega) (by decide)
            have q2237 : h1987 76 0 = h26 76 0 := jK 0 f1988 rg_76_0_0_1 (by first | decide | omega) (by first | decide | omega) (by decide)
            have q2238 : h26 76 0 = h15 76 0 := jK 0 f28 rg_76_0_0_1 (by first | decide | omega) (by first | decide | omega) (by decide)
            have q2239 : h15 76 0 = h11 76 0 := by rw [← e17]; exact x_up_k (by decide)
            have q2240 : h11 76 0 = h7 76 0 := by rw [← e13]; exact x_up_k (by decide)
            have q2241 : h7 76 0 = h3 76 0 := by rw [← e9]; exact x_up_k (by decide)
            have q2242 : h3 76 0 = h 76 0 := by rw [← e5]; exact x_up_k (by decide)
            have b2243 := jB (e := 0) 0 hJ rg_76_0_0_1 (by first | decide | omega) (by first | decide | omega)
            have q2244 : h2008 78 2 = h1987 78 2 := jK 0 f2010 rg_78_2_0_1 (by first | decide | omega) (by first | decide | omega) (by decide)
            have q2245 : h2008 78 3 = h1987 78 3 := jK 0 f2010 rg_78_3_0_1 (by first | decide | omega) (by first | decide | omega) (by decide)
            have q2246 : h2008 78 4 = h1987 78 4 := jK 0 f2010 rg_78_4_0_1 (by first | decide | omega) (by first | decide | omega) (by decide)
            have q2247 : h2008 78 5 = h1987 78 5 := jK 0 f2010 rg_78_5_0_1 (by first | decide | omega) (by first | decide | omega) (by decide)
            have k2235 := l9_pe (pe' := h 76 0) (l1 := h1987 78 2) (t1 := h1987 78 3) (d1 := h1987 78 4) (s1 := h1987 78 5) c2058 (by first | decide | omega) (by first | decide | omega) (by first | decide | omega) (by first | decide | omega) (by first | decide | omega)
            have q2248 : h2104 75 8 = h2051 75 8 := jK 0 f2106 rg_75_8_0_1 (by first | decide | omega) (by first | decide | omega) (by decide)
            have q2249 : h2051 75 8 = h2008 75 8 := jK 0 f2053 rg_75_8_0_1 (by first | decide | omega) (by first | decide | omega) (by decide)
            have q2250 : h2008 75 8 = h1987 75 8 := jK 0 f2010 rg_75_8_0_1 (by first | decide | omega) (by first | decide | omega) (by decide)
            have q2251 : h1987 75 8 = h26 75 8 := jK 0 f1988 rg_75_8_0_1 (by first | decide | omega) (by first | decide | omega) (by decide)
            have q2252 : h26 75 8 = h15 75 8 := jK 0 f28 rg_75_8_0_1 (by first | decide | omega) (by first | decide | omega) (by decide)
            have q2253 : h15 75 8 = h11 75 8 := by rw [← e17]; exact x_up_i (by first | decide | omega)
            have q2254 : h11 75 8 = h7 75 8 := by rw [← e13]; exact x_up_i (by first | decide | omega)
            have q2255 : h7 75 8 = h3 75 8 := by rw [← e9]; exact x_up_i (by first | decide | omega)
            have q2256 : h3 75 8 = (h 75 6) := by rw [← e5]; exact x_up_at
            have m2258 := Tq.fr m2103 f2106 (by decide) (by decide)
            have z2257 := m2258.1
            have z2259 := (Eq.trans c2111 (congrArg (sk tB tN) (show h2051 75 7 = h2051 75 7 by first | decide | omega)))
            have q2260 : h2104 79 u2195 = h2051 79 u2195 := jK u2195 f2106 rg_79_0_1_400 (by first | decide | omega) (by first | decide | omega) (by decide)
            have q2261 : h2051 79 u2195 = h2008 79 u2195 := jK u2195 f2053 rg_79_0_1_400 (by first | decide | omega) (by first | decide | omega) (by decide)
            have q2262 : h2008 79 u2195 = h1987 79 u2195 := jK u2195 f2010 rg_79_0_1_400 (by first | decide | omega) (by first | decide | omega) (by decide)
            have q2263 : h1987 79 u2195 = h26 79 u2195 := jK u2195 f1988 rg_79_0_1_400 (by first | decide | omega) (by first | decide | omega) (by decide)
            have q2264 : h26 79 u2195 = h15 79 u2195 := jK u2195 f28 rg_79_0_1_400 (by first | decide | omega) (by first | decide | omega) (by decide)
            have q2265 : h15 79 u2195 = h11 79 u2195 := by rw [← e17]; exact x_up_k (by decide)
            have q2266 : h11 79 u2195 = h7 79 u2195 := by rw [← e13]; exact x_up_k (by decide)
            have q2267 : h7 79 u2195 = h3 79 u2195 := by rw [← e9]; exact x_up_k (by decide)
            have q2268 : h3 79 u2195 = h 79 u2195 := by rw [← e5]; exact x_up_k (by decide)
            have z2269 := Tq.at (p := (h2104 75 7)) (u := u2195) m2258 (by first | decide | omega) (by first | decide | omega)
            refine x_retI (np := 117) (x := 0) (by decide +kernel) (by decide) (Or.inl (by decide +kernel)) ⟨_, rfl, (by decide), ?_⟩
            exact ⟨j2105, f2112, (by first | decide | omega), (by first | decide | omega), (fun z => by first | decide | omega), (fun z => by first | decide | omega), (fun z => absurd z (by first | decide | omega)), (Tt.r0 (by first | decide | omega) (Tl.bad m1993 (by first | decide | omega) k2235 c2015 (by first | decide | omega) (by first | decide | omega) (p2 := h2104 75 7) (fun z => by have z1 := z.1; have z2 := z.2; omega) (Eq.trans c2111 (congrArg (sk tB tN) (show h2051 75 7 = h2051 75 7 by first | decide | omega))))), (fun z => absurd z (by first | decide | omega))⟩
          have q2209 : ¬ ((h 79 u2195) < 2147483707) := q2209
          refine x_aload (np := 25) (x := 0) (by decide +kernel) rfl (x_nc_le (by decide)) ?_
          have q2270 : h2104 75 5 = 79 := by have z := jB (e := 5) 0 j2105 rg_75_5_0_1 (by decide) (by decide); omega
          refine x_getR (np := 28) (x := 709) (f := 5) (q := 79) (by decide +kernel) (by decide) (by decide +kernel) q2270 ?_
          refine x_aload (np := 29) (x := 0) (by decide +kernel) rfl (x_nc_le (by decide)) ?_
          refine x_getC (np := 32) (x := 711) (f := 7) (q := (h2104 75 7)) (by decide +kernel) (by decide) (by decide +kernel) rfl (fun l2271 => ?_)
          have q2272 : h2104 79 u2195 = h2051 79 u2195 := jK u2195 f2106 rg_79_0_1_400 (by first | decide | omega) (by first | decide | omega) (by decide)
          have q2273 : h2051 79 u2195 = h2008 79 u2195 := jK u2195 f2053 rg_79_0_1_400 (by first | decide | omega) (by first | decide | omega) (by decide)
          have q2274 : h2008 79 u2195 = h1987 79 u2195 := jK u2195 f2010 rg_79_0_1_400 (by first | decide | omega) (by first | decide | omega) (by decide)
          have q2275 : h1987 79 u2195 = h26 79 u2195 := jK u2195 f1988 rg_79_0_1_400 (by first | decide | omega) (by first | decide | omega) (by decide)
          have q2276 : h26 79 u2195 = h15 79 u2195 := jK u2195 f28 rg_79_0_1_400 (by first | decide | omega) (by first | decide | omega) (by decide)
          have q2277 : h15 79 u2195 = h11 79 u2195 := by rw [← e17]; exact x_up_k (by decide)
          have q2278 : h11 79 u2195 = h7 79 u2195 := by rw [← e13]; exact x_up_k (by decide)
          have q2279 : h7 79 u2195 = h3 79 u2195 := by rw [← e9]; exact x_up_k (by decide)
          have q2280 : h3 79 u2195 = h 79 u2195 := by rw [← e5]; exact x_up_k (by decide)
          refine x_baldC (np := 33) (x := 0) (n := 400) (i := u2195) (q := (h 79 u2195)) (by decide +kernel) (by decide +kernel) (by first | decide | omega) (by first | decide | omega) (by decide) ((((((((q2272.trans q2273).trans q2274).trans q2275).trans q2276).trans q2277).trans q2278).trans q2279).trans q2280) (fun l2281 => ?_)
          refine x_iload (np := 34) (x := 2) (by decide +kernel) rfl (by decide) ?_
          refine x_icmp (k := 4) (tg := 41) (np := 37) (by decide +kernel) (by decide) l2207 (by decide) (fun q2282 => ?_) (fun q2283 => ?_)
          · have q2282 : 2147483707 < (h 79 u2195) := q2282
            refine x_const (np := 42) (x := 9223372039002259456) (a := 2147483648) (by decide +kernel) (by decide) (by decide) ?_
            refine x_retI (np := 43) (x := 0) (by decide +kernel) (by decide) (Or.inr ⟨by decide +kernel, by first | decide | omega, by first | decide | omega⟩) ⟨_, rfl, (by decide), ?_⟩
            refine x_ifz (k := 1) (tg := 117) (np := 115) (by decide +kernel) (by decide) (by decide) (fun q2284 => ?_) (fun q2285 => ?_)
            · have q2284 : 2147483648 ≠ 2147483648 := q2284
              exfalso; omega
            have q2285 : ¬ (2147483648 ≠ 2147483648) := q2285
            refine x_const (np := 116) (x := 9223372034707292159) (a := 2147483647) (by decide +kernel) (by decide) (by decide) ?_
            have q2286 : h2104 75 6 = h2051 75 6 := jK 0 f2106 rg_75_6_0_1 (by first | decide | omega) (by first | decide | omega) (by decide)
            have q2287 : h2051 75 6 = h2008 75 6 := jK 0 f2053 rg_75_6_0_1 (by first | decide | omega) (by first | decide | omega) (by decide)
            have q2288 : h2008 75 6 = h1987 75 6 := jK 0 f2010 rg_75_6_0_1 (by first | decide | omega) (by first | decide | omega) (by decide)
            have q2289 : h1987 75 6 = h26 75 6 := jK 0 f1988 rg_75_6_0_1 (by first | decide | omega) (by first | decide | omega) (by decide)
            have q2290 : h26 75 6 = h15 75 6 := jK 0 f28 rg_75_6_0_1 (by first | decide | omega) (by first | decide | omega) (by decide)
            have q2291 : h15 75 6 = h11 75 6 := by rw [← e17]; exact x_up_i (by first | decide | omega)
            have q2292 : h11 75 6 = h7 75 6 := by rw [← e13]; exact x_up_i (by first | decide | omega)
            have q2293 : h7 75 6 = 2147483648 := by rw [← e9]; exact x_up_at
            have b2294 := jB (e := 0) 0 hJ rg_78_0_0_1 (by first | decide | omega) (by first | decide | omega)
            have q2295 : h2104 78 0 = h2051 78 0 := jK 0 f2106 rg_78_0_0_1 (by first | decide | omega) (by first | decide | omega) (by decide)
            have q2296 : h2104 78 1 = h2051 78 1 := jK 0 f2106 rg_78_1_0_1 (by first | decide | omega) (by first | decide | omega) (by decide)
            have b2297 := jB (e := 2) 0 hJ rg_78_2_0_1 (by first | decide | omega) (by first | decide | omega)
            have q2298 : h2104 78 2 = h2051 78 2 := jK 0 f2106 rg_78_2_0_1 (by first | decide | omega) (by first | decide | omega) (by decide)
            have b2299 := jB (e := 2) 0 j2052 rg_78_2_0_1 (by first | decide | omega) (by first | decide | omega)
            have b2300 := jB (e := 3) 0 hJ rg_78_3_0_1 (by first | decide | omega) (by first | decide | omega)
            have q2301 : h2104 78 3 = h2051 78 3 := jK 0 f2106 rg_78_3_0_1 (by first | decide | omega) (by first | decide | omega) (by decide)
            have b2302 := jB (e := 3) 0 j2052 rg_78_3_0_1 (by first | decide | omega) (by first | decide | omega)
            have b2303 := jB (e := 4) 0 hJ rg_78_4_0_1 (by first | decide | omega) (by first | decide | omega)
            have q2304 : h2104 78 4 = h2051 78 4 := jK 0 f2106 rg_78_4_0_1 (by first | decide | omega) (by first | decide | omega) (by decide)
            have b2305 := jB (e := 4) 0 j2052 rg_78_4_0_1 (by first | decide | omega) (by first | decide | omega)
            have b2306 := jB (e := 5) 0 hJ rg_78_5_0_1 (by first | decide | omega) (by first | decide | omega)
            have q2307 : h2104 78 5 = h2051 78 5 := jK 0 f2106 rg_78_5_0_1 (by first | decide | omega) (by first | decide | omega) (by decide)
            have b2308 := jB (e := 5) 0 j2052 rg_78_5_0_1 (by first | decide | omega) (by first | decide | omega)
            have q2310 : h2008 76 0 = h1987 76 0 := jK 0 f2010 rg_76_0_0_1 (by first | decide | omega) (by first | decide | omega) (by decide)
            have q2311 : h1987 76 0 = h26 76 0 := jK 0 f1988 rg_76_0_0_1 (by first | decide | omega) (by first | decide | omega) (by decide)
            have q2312 : h26 76 0 = h15 76 0 := jK 0 f28 rg_76_0_0_1 (by first | decide | omega) (by first | decide | omega) (by decide)
            have q2313 : h15 76 0 = h11 76 0 := by rw [← e17]; exact x_up_k (by decide)
            have q2314 : h11 76 0 = h7 76 0 := by rw [← e13]; exact x_up_k (by decide)
            have q2315 : h7 76 0 = h3 76 0 := by rw [← e9]; exact x_up_k (by decide)
            have q2316 : h3 76 0 = h 76 0 := by rw [← e5]; exact x_up_k (by decide)
            have b2317 := jB (e := 0) 0 hJ rg_76_0_0_1 (by first | decide | omega) (by first | decide | omega)
            have q2318 : h2008 78 2 = h1987 78 2 := jK 0 f2010 rg_78_2_0_1 (by first | decide | omega) (by first | decide | omega) (by decide)
            have q2319 : h2008 78 3 = h1987 78 3 := jK 0 f2010 rg_78_3_0_1 (by first | decide | omega) (by first | decide | omega) (by decide)
            have q2320 : h2008 78 4 = h1987 78 4 := jK 0 f2010 rg_78_4_0_1 (by first | decide | omega) (by first | decide | omega) (by decide)
            have q2321 : h2008 78 5 = h1987 78 5 := jK 0 f2010 rg_78_5_0_1 (by first | decide | omega) (by first | decide | omega) (by decide)
            have k2309 := l9_pe (pe' := h 76 0) (l1 := h1987 78 2) (t1 := h1987 78 3) (d1 := h1987 78 4) (s1 := h1987 78 5) c2058 (by first | decide | omega) (by first | decide | omega) (by first | decide | omega) (by first | decide | omega) (by first | decide | omega)
            have q2322 : h2104 75 8 = h2051 75 8 := jK 0 f2106 rg_75_8_0_1 (by first | decide | omega) (by first | decide | omega) (by decide)
            have q2323 : h2051 75 8 = h2008 75 8 := jK 0 f2053 rg_75_8_0_1 (by first | decide | omega) (by first | decide | omega) (by decide)
            have q2324 : h2008 75 8 = h1987 75 8 := jK 0 f2010 rg_75_8_0_1 (by first | decide | omega) (by first | decide | omega) (by decide)
            have q2325 : h1987 75 8 = h26 75 8 := jK 0 f1988 rg_75_8_0_1 (by first | decide | omega) (by first | decide | omega) (by decide)
            have q2326 : h26 75 8 = h15 75 8 := jK 0 f28 rg_75_8_0_1 (by first | decide | omega) (by first | decide | omega) (by decide)
            have q2327 : h15 75 8 = h11 75 8 := by rw [← e17]; exact x_up_i (by first | decide | omega)
            have q2328 : h11 75 8 = h7 75 8 := by rw [← e13]; exact x_up_i (by first | decide | omega)
            have q2329 : h7 75 8 = h3 75 8 := by rw [← e9]; exact x_up_i (by first | decide | omega)
            have q2330 : h3 75 8 = (h 75 6) := by rw [← e5]; exact x_up_at
            have m2332 := Tq.fr m2103 f2106 (by decide) (by decide)
            have z2331 := m2332.1
            have z2333 := (Eq.trans c2111 (congrArg (sk tB tN) (show h2051 75 7 = h2051 75 7 by first | decide | omega)))
            have q2334 : h2104 79 u2195 = h2051 79 u2195 := jK u2195 f2106 rg_79_0_1_400 (by first | decide | omega) (by first | decide | omega) (by decide)
            have q2335 : h2051 79 u2195 = h2008 79 u2195 := jK u2195 f2053 rg_79_0_1_400 (by first | decide | omega) (by first | decide | omega) (by decide)
            have q2336 : h2008 79 u2195 = h1987 79 u2195 := jK u2195 f2010 rg_79_0_1_400 (by first | decide | omega) (by first | decide | omega) (by decide)
            have q2337 : h1987 79 u2195 = h26 79 u2195 := jK u2195 f1988 rg_79_0_1_400 (by first | decide | omega) (by first | decide | omega) (by decide)
            have q2338 : h26 79 u2195 = h15 79 u2195 := jK u2195 f28 rg_79_0_1_400 (by first | decide | omega) (by first | decide | omega) (by decide)
            have q2339 : h15 79 u2195 = h11 79 u2195 := by rw [← e17]; exact x_up_k (by decide)
            have q2340 : h11 79 u2195 = h7 79 u2195 := by rw [← e13]; exact x_up_k (by decide)
            have q2341 : h7 79 u2195 = h3 79 u2195 := by rw [← e9]; exact x_up_k (by decide)
            have q2342 : h3 79 u2195 = h 79 u2195 := by rw [← e5]; exact x_up_k (by decide)
            have z2343 := Tq.at (p := (h2104 75 7)) (u := u2195) m2332 (by first | decide | omega) (by first | decide | omega)
            refine x_retI (np := 117) (x := 0) (by decide +kernel) (by decide) (Or.inl (by decide +kernel)) ⟨_, rfl, (by decide), ?_⟩
            exact ⟨j2105, f2112, (by first | decide | omega), (by first | decide | omega), (fun z => by first | decide | omega), (fun z => by first | decide | omega), (fun z => absurd z (by first | decide | omega)), (Tt.r0 (by first | decide | omega) (Tl.bad m1993 (by first | decide | omega) k2309 c2015 (by first | decide | omega) (by first | decide | omega) (p2 := h2104 75 7) (fun z => by have z1 := z.1; have z2 := z.2; omega) (Eq.trans c2111 (congrArg (sk tB tN) (show h2051 75 7 = h2051 75 7 by first | decide | omega))))), (fun z => absurd z (by first | decide | omega))⟩
          have q2283 : ¬ (2147483707 < (h 79 u2195)) := q2283
          refine x_const (np := 38) (x := 9223372043297226753) (a := 2147483649) (by decide +kernel) (by decide) (by decide) ?_
          refine x_goto (np := 41) (x := 42) (by decide +kernel) ?_
          refine x_retI (np := 43) (x := 0) (by decide +kernel) (by decide) (Or.inr ⟨by decide +kernel, by first | decide | omega, by first | decide | omega⟩) ⟨_, rfl, (by decide), ?_⟩
          refine x_ifz (k := 1) (tg := 117) (np := 115) (by decide +kernel) (by decide) (by decide) (fun q2344 => ?_) (fun q2345 => ?_)
          · have q2344 : 2147483649 ≠ 2147483648 := q2344
            refine x_aload (np := 118) (x := 0) (by decide +kernel) rfl (x_nc_le (by decide)) ?_
            refine x_dup (np := 119) (x := 0) (by decide +kernel) (by have z := x_nc_le (k := 75) (by decide); unfold x_r; omega) ?_
            refine x_getC (np := 122) (x := 711) (f := 7) (q := (h2104 75 7)) (by decide +kernel) (by decide) (by decide +kernel) rfl (fun l2346 => ?_)
            refine x_const (np := 123) (x := 9223372043297226753) (a := 2147483649) (by decide +kernel) (by decide) (by decide) ?_
            refine x_iadd (np := 124) (x := 0) (v := (1 + (h2104 75 7))) (by decide +kernel) l2117 (by decide) (by first | decide | omega) (by first | decide | omega) ?_
            refine x_putI (np := 127) (x := 711) (f := 7) (by decide +kernel) (by decide +kernel) (by first | decide | omega) (Or.inl (by decide)) ?_
            have j2348 := jU (e := 7) (v := (1 + (h2104 75 7))) 0 j2105 rg_75_7_0_1 (by first | decide | omega) (by first | decide | omega) (by first | decide | omega)
            have f2350 := jF (e := 7) (v := (1 + (h2104 75 7))) 0 f2112 rg_75_7_0_1 (by first | decide | omega) (by first | decide | omega) (by decide)
            have f2351 := jF (e := 7) (v := (1 + (h2104 75 7))) 0 f2113 rg_75_7_0_1 (by first | decide | omega) (by first | decide | omega) (by decide)
            generalize e2349 : x_up h2104 75 7 (1 + (h2104 75 7)) = h2347 at j2348 f2350 f2351 ⊢
            refine x_iinc (np := 130) (i := 2) (j := 2147483649) (v := (1 + v1985)) (lo' := [x_r 75, iv_c 2147483649, iv_c (1 + v1985)]) (by decide +kernel) (by decide) (by decide) rfl (by first | decide | omega) (by first | decide | omega) (by first | decide | omega) rfl ?_
            refine x_goto (np := 133) (x := 42) (by decide +kernel) ?_
            have b2352 := jB (e := 0) 0 hJ rg_78_0_0_1 (by first | decide | omega) (by first | decide | omega)
            have q2353 : h2347 78 0 = h2104 78 0 := by rw [← e2349]; exact x_up_k (by decide)
            have q2354 : h2104 78 0 = h2051 78 0 := jK 0 f2106 rg_78_0_0_1 (by first | decide | omega) (by first | decide | omega) (by decide)
            have q2355 : h2347 78 1 = h2104 78 1 := by rw [← e2349]; exact x_up_k (by decide)
            have q2356 : h2104 78 1 = h2051 78 1 := jK 0 f2106 rg_78_1_0_1 (by first | decide | omega) (by first | decide | omega) (by decide)
            have m2358 := Cl.fr m2099 f2106 (by decide)
            have m2357 : Cl h2347 := by rw [← e2349]; exact Cl.oth m2358 (by decide)
            have q2359 : h2347 75 7 = (1 + (h2104 75 7)) := by rw [← e2349]; exact x_up_at
            have q2360 : h2104 75 8 = h2051 75 8 := jK 0 f2106 rg_75_8_0_1 (by first | decide | omega) (by first | decide | omega) (by decide)
            have q2361 : h2051 75 8 = h2008 75 8 := jK 0 f2053 rg_75_8_0_1 (by first | decide | omega) (by first | decide | omega) (by decide)
            have q2362 : h2008 75 8 = h1987 75 8 := jK 0 f2010 rg_75_8_0_1 (by first | decide | omega) (by first | decide | omega) (by decide)
            have q2363 : h1987 75 8 = h26 75 8 := jK 0 f1988 rg_75_8_0_1 (by first | decide | omega) (by first | decide | omega) (by decide)
            have q2364 : h26 75 8 = h15 75 8 := jK 0 f28 rg_75_8_0_1 (by first | decide | omega) (by first | decide | omega) (by decide)
            have q2365 : h15 75 8 = h11 75 8 := by rw [← e17]; exact x_up_i (by first | decide | omega)
            have q2366 : h11 75 8 = h7 75 8 := by rw [← e13]; exact x_up_i (by first | decide | omega)
            have q2367 : h7 75 8 = h3 75 8 := by rw [← e9]; exact x_up_i (by first | decide | omega)
            have q2368 : h3 75 8 = (h 75 6) := by rw [← e5]; exact x_up_at
            have m2370 := Tq.fr m2103 f2106 (by decide) (by decide)
            have z2369 := m2370.1
            have q2371 : h2104 79 u2195 = h2051 79 u2195 := jK u2195 f2106 rg_79_0_1_400 (by first | decide | omega) (by first | decide | omega) (by decide)
            have q2372 : h2051 79 u2195 = h2008 79 u2195 := jK u2195 f2053 rg_79_0_1_400 (by first | decide | omega) (by first | decide | omega) (by decide)
            have q2373 : h2008 79 u2195 = h1987 79 u2195 := jK u2195 f2010 rg_79_0_1_400 (by first | decide | omega) (by first | decide | omega) (by decide)
            have q2374 : h1987 79 u2195 = h26 79 u2195 := jK u2195 f1988 rg_79_0_1_400 (by first | decide | omega) (by first | decide | omega) (by decide)
            have q2375 : h26 79 u2195 = h15 79 u2195 := jK u2195 f28 rg_79_0_1_400 (by first | decide | omega) (by first | decide | omega) (by decide)
            have q2376 : h15 79 u2195 = h11 79 u2195 := by rw [← e17]; exact x_up_k (by decide)
            have q2377 : h11 79 u2195 = h7 79 u2195 := by rw [← e13]; exact x_up_k (by decide)
            have q2378 : h7 79 u2195 = h3 79 u2195 := by rw [← e9]; exact x_up_k (by decide)
            have q2379 : h3 79 u2195 = h 79 u2195 := by rw [← e5]; exact x_up_k (by decide)
            have z2380 := Tq.at (p := (h2104 75 7)) (u := u2195) m2370 (by first | decide | omega) (by first | decide | omega)
            have q2383 : h2008 76 0 = h1987 76 0 := jK 0 f2010 rg_76_0_0_1 (by first | decide | omega) (by first | decide | omega) (by decide)
            have q2384 : h1987 76 0 = h26 76 0 := jK 0 f1988 rg_76_0_0_1 (by first | decide | omega) (by first | decide | omega) (by decide)
            have q2385 : h26 76 0 = h15 76 0 := jK 0 f28 rg_76_0_0_1 (by first | decide | omega) (by first | decide | omega) (by decide)
            have q2386 : h15 76 0 = h11 76 0 := by rw [← e17]; exact x_up_k (by decide)
            have q2387 : h11 76 0 = h7 76 0 := by rw [← e13]; exact x_up_k (by decide)
            have q2388 : h7 76 0 = h3 76 0 := by rw [← e9]; exact x_up_k (by decide)
            have q2389 : h3 76 0 = h 76 0 := by rw [← e5]; exact x_up_k (by decide)
            have b2390 := jB (e := 0) 0 hJ rg_76_0_0_1 (by first | decide | omega) (by first | decide | omega)
            have q2391 : h2008 78 2 = h1987 78 2 := jK 0 f2010 rg_78_2_0_1 (by first | decide | omega) (by first | decide | omega) (by decide)
            have q2392 : h2008 78 3 = h1987 78 3 := jK 0 f2010 rg_78_3_0_1 (by first | decide | omega) (by first | decide | omega) (by decide)
            have q2393 : h2008 78 4 = h1987 78 4 := jK 0 f2010 rg_78_4_0_1 (by first | decide | omega) (by first | decide | omega) (by decide)
            have q2394 : h2008 78 5 = h1987 78 5 := jK 0 f2010 rg_78_5_0_1 (by first | decide | omega) (by first | decide | omega) (by decide)
            have k2382 := l9_pe (pe' := h 76 0) (l1 := h1987 78 2) (t1 := h1987 78 3) (d1 := h1987 78 4) (s1 := h1987 78 5) c2058 (by first | decide | omega) (by first | decide | omega) (by first | decide | omega) (by first | decide | omega) (by first | decide | omega)
            have q2395 : h2347 78 2 = h2104 78 2 := by rw [← e2349]; exact x_up_k (by decide)
            have q2396 : h2104 78 2 = h2051 78 2 := jK 0 f2106 rg_78_2_0_1 (by first | decide | omega) (by first | decide | omega) (by decide)
            have b2397 := jB (e := 2) 0 j2052 rg_78_2_0_1 (by first | decide | omega) (by first | decide | omega)
            have q2398 : h2347 78 3 = h2104 78 3 := by rw [← e2349]; exact x_up_k (by decide)
            have q2399 : h2104 78 3 = h2051 78 3 := jK 0 f2106 rg_78_3_0_1 (by first | decide | omega) (by first | decide | omega) (by decide)
            have b2400 := jB (e := 3) 0 j2052 rg_78_3_0_1 (by first | decide | omega) (by first | decide | omega)
            have q2401 : h2347 78 4 = h2104 78 4 := by rw [← e2349]; exact x_up_k (by decide)
            have q2402 : h2104 78 4 = h2051 78 4 := jK 0 f2106 rg_78_4_0_1 (by first | decide | omega) (by first | decide | omega) (by decide)
            have b2403 := jB (e := 4) 0 j2052 rg_78_4_0_1 (by first | decide | omega) (by first | decide | omega)
            have q2404 : h2347 78 5 = h2104 78 5 := by rw [← e2349]; exact x_up_k (by decide)
            have q2405 : h2104 78 5 = h2051 78 5 := jK 0 f2106 rg_78_5_0_1 (by first | decide | omega) (by first | decide | omega) (by decide)
            have b2406 := jB (e := 5) 0 j2052 rg_78_5_0_1 (by first | decide | omega) (by first | decide | omega)
            have m2381 : Tl tB tN (h 76 0) (h 78 2) (h 78 3) (h 78 4) (h 78 5) (2147483662 - (1 + v1985)) (h2347 78 2) (h2347 78 3) (h2347 78 4) (h2347 78 5) (sk tB tN (h2347 75 7)) := by
              rw [show h2347 78 2 = h2051 78 2 by first | decide | omega, show h2347 78 3 = h2051 78 3 by first | decide | omega, show h2347 78 4 = h2051 78 4 by first | decide | omega, show h2347 78 5 = h2051 78 5 by first | decide | omega]
              exact Tl.go (m' := 2147483662 - (1 + v1985)) m1993 (by first | decide | omega) k2382 c2015 (by first | decide | omega) (p2 := h2104 75 7) ⟨by first | decide | omega, by first | decide | omega⟩ (Eq.trans c2111 (congrArg (sk tB tN) (show h2051 75 7 = h2051 75 7 by first | decide | omega))) (q1 := sk tB tN (h2104 75 7 + 1)) rfl (congrArg (sk tB tN) (show h2104 75 7 + 1 = h2347 75 7 by first | decide | omega))
            have q2407 : h2008 78 3 = h1987 78 3 := jK 0 f2010 rg_78_3_0_1 (by first | decide | omega) (by first | decide | omega) (by decide)
            have q2408 : h2347 78 3 = h2104 78 3 := by rw [← e2349]; exact x_up_k (by decide)
            have q2409 : h2104 78 3 = h2051 78 3 := jK 0 f2106 rg_78_3_0_1 (by first | decide | omega) (by first | decide | omega) (by decide)
            have m2410 : ∀ u, u < 10 → wdr h2008 u = wdr h1987 u := fun u hu => (wdr_gr f2010 (by decide) u hu)
            have m2411 : ∀ u, u < 10 → wdr h2347 u = wdr h2051 u := fun u hu => (Eq.trans (show wdr h2347 u = wdr h2104 u by rw [← e2349]; exact wdr_k (by decide)) (wdr_gr f2106 (by decide) u hu))
            exact i1997 (1 + v1985) h2347 (by first | decide | omega) (by first | decide | omega) (by first | decide | omega) (by first | decide | omega) j2348 f2351 m2357 m2381 (Wl.trans m1994 (Wl.mp (c2059 (by first | decide | omega)) m2410 m2411 (by first | decide | omega) (by first | decide | omega)))
          have q2345 : ¬ (2147483649 ≠ 2147483648) := q2345
          exfalso; omega
        have q2129 : ¬ ((h2104 75 7) ≠ (h 75 6)) := q2129
        refine x_iload (np := 101) (x := 2) (by decide +kernel) rfl (by first | decide | omega) ?_
        refine x_const (np := 102) (x := 9223372043297226753) (a := 2147483649) (by decide +kernel) (by decide) (by decide) ?_
        refine x_iadd (np := 103) (x := 0) (v := (1 + v1985)) (by decide +kernel) (by first | decide | omega) (by decide) (by first | decide | omega) (by first | decide | omega) ?_
        have q2412 : h2104 75 6 = h2051 75 6 := jK 0 f2106 rg_75_6_0_1 (by first | decide | omega) (by first | decide | omega) (by decide)
        have q2413 : h2051 75 6 = h2008 75 6 := jK 0 f2053 rg_75_6_0_1 (by first | decide | omega) (by first | decide | omega) (by decide)
        have q2414 : h2008 75 6 = h1987 75 6 := jK 0 f2010 rg_75_6_0_1 (by first | decide | omega) (by first | decide | omega) (by decide)
        have q2415 : h1987 75 6 = h26 75 6 := jK 0 f1988 rg_75_6_0_1 (by first | decide | omega) (by first | decide | omega) (by decide)
        have q2416 : h26 75 6 = h15 75 6 := jK 0 f28 rg_75_6_0_1 (by first | decide | omega) (by first | decide | omega) (by decide)
        have q2417 : h15 75 6 = h11 75 6 := by rw [← e17]; exact x_up_i (by first | decide | omega)
        have q2418 : h11 75 6 = h7 75 6 := by rw [← e13]; exact x_up_i (by first | decide | omega)
        have q2419 : h7 75 6 = 2147483648 := by rw [← e9]; exact x_up_at
        have b2420 := jB (e := 0) 0 hJ rg_78_0_0_1 (by first | decide | omega) (by first | decide | omega)
        have q2421 : h2104 78 0 = h2051 78 0 := jK 0 f2106 rg_78_0_0_1 (by first | decide | omega) (by first | decide | omega) (by decide)
        have q2422 : h2104 78 1 = h2051 78 1 := jK 0 f2106 rg_78_1_0_1 (by first | decide | omega) (by first | decide | omega) (by decide)
        have m2423 := Cl.fr m2099 f2106 (by decide)
        have b2424 := jB (e := 2) 0 hJ rg_78_2_0_1 (by first | decide | omega) (by first | decide | omega)
        have q2425 : h2104 78 2 = h2051 78 2 := jK 0 f2106 rg_78_2_0_1 (by first | decide | omega) (by first | decide | omega) (by decide)
        have b2426 := jB (e := 2) 0 j2052 rg_78_2_0_1 (by first | decide | omega) (by first | decide | omega)
        have b2427 := jB (e := 3) 0 hJ rg_78_3_0_1 (by first | decide | omega) (by first | decide | omega)
        have q2428 : h2104 78 3 = h2051 78 3 := jK 0 f2106 rg_78_3_0_1 (by first | decide | omega) (by first | decide | omega) (by decide)
        have b2429 := jB (e := 3) 0 j2052 rg_78_3_0_1 (by first | decide | omega) (by first | decide | omega)
        have b2430 := jB (e := 4) 0 hJ rg_78_4_0_1 (by first | decide | omega) (by first | decide | omega)
        have q2431 : h2104 78 4 = h2051 78 4 := jK 0 f2106 rg_78_4_0_1 (by first | decide | omega) (by first | decide | omega) (by decide)
        have b2432 := jB (e := 4) 0 j2052 rg_78_4_0_1 (by first | decide | omega) (by first | decide | omega)
        have b2433 := jB (e := 5) 0 hJ rg_78_5_0_1 (by first | decide | omega) (by first | decide | omega)
        have q2434 : h2104 78 5 = h2051 78 5 := jK 0 f2106 rg_78_5_0_1 (by first | decide | omega) (by first | decide | omega) (by decide)
        have b2435 := jB (e := 5) 0 j2052 rg_78_5_0_1 (by first | decide | omega) (by first | decide | omega)
        have q2437 : h2008 76 0 = h1987 76 0 := jK 0 f2010 rg_76_0_0_1 (by first | decide | omega) (by first | decide | omega) (by decide)
        have q2438 : h1987 76 0 = h26 76 0 := jK 0 f1988 rg_76_0_0_1 (by first | decide | omega) (by first | decide | omega) (by decide)
        have q2439 : h26 76 0 = h15 76 0 := jK 0 f28 rg_76_0_0_1 (by first | decide | omega) (by first | decide | omega) (by decide)
        have q2440 : h15 76 0 = h11 76 0 := by rw [← e17]; exact x_up_k (by decide)
        have q2441 : h11 76 0 = h7 76 0 := by rw [← e13]; exact x_up_k (by decide)
        have q2442 : h7 76 0 = h3 76 0 := by rw [← e9]; exact x_up_k (by decide)
        have q2443 : h3 76 0 = h 76 0 := by rw [← e5]; exact x_up_k (by decide)
        have b2444 := jB (e := 0) 0 hJ rg_76_0_0_1 (by first | decide | omega) (by first | decide | omega)
        have q2445 : h2008 78 2 = h1987 78 2 := jK 0 f2010 rg_78_2_0_1 (by first | decide | omega) (by first | decide | omega) (by decide)
        have q2446 : h2008 78 3 = h1987 78 3 := jK 0 f2010 rg_78_3_0_1 (by first | decide | omega) (by first | decide | omega) (by decide)
        have q2447 : h2008 78 4 = h1987 78 4 := jK 0 f2010 rg_78_4_0_1 (by first | decide | omega) (by first | decide | omega) (by decide)
        have q2448 : h2008 78 5 = h1987 78 5 := jK 0 f2010 rg_78_5_0_1 (by first | decide | omega) (by first | decide | omega) (by decide)
        have k2436 := l9_pe (pe' := h 76 0) (l1 := h1987 78 2) (t1 := h1987 78 3) (d1 := h1987 78 4) (s1 := h1987 78 5) c2058 (by first | decide | omega) (by first | decide | omega) (by first | decide | omega) (by first | decide | omega) (by first | decide | omega)
        have q2449 : h2104 75 8 = h2051 75 8 := jK 0 f2106 rg_75_8_0_1 (by first | decide | omega) (by first | decide | omega) (by decide)
        have q2450 : h2051 75 8 = h2008 75 8 := jK 0 f2053 rg_75_8_0_1 (by first | decide | omega) (by first | decide | omega) (by decide)
        have q2451 : h2008 75 8 = h1987 75 8 := jK 0 f2010 rg_75_8_0_1 (by first | decide | omega) (by first | decide | omega) (by decide)
        have q2452 : h1987 75 8 = h26 75 8 := jK 0 f1988 rg_75_8_0_1 (by first | decide | omega) (by first | decide | omega) (by decide)
        have q2453 : h26 75 8 = h15 75 8 := jK 0 f28 rg_75_8_0_1 (by first | decide | omega) (by first | decide | omega) (by decide)
        have q2454 : h15 75 8 = h11 75 8 := by rw [← e17]; exact x_up_i (by first | decide | omega)
        have q2455 : h11 75 8 = h7 75 8 := by rw [← e13]; exact x_up_i (by first | decide | omega)
        have q2456 : h7 75 8 = h3 75 8 := by rw [← e9]; exact x_up_i (by first | decide | omega)
        have q2457 : h3 75 8 = (h 75 6) := by rw [← e5]; exact x_up_at
        have m2459 := Tq.fr m2103 f2106 (by decide) (by decide)
        have z2458 := m2459.1
        have z2460 := (Eq.trans c2111 (congrArg (sk tB tN) (show h2051 75 7 = h2051 75 7 by first | decide | omega)))
        have q2461 : h2104 78 3 = h2051 78 3 := jK 0 f2106 rg_78_3_0_1 (by first | decide | omega) (by first | decide | omega) (by decide)
        have q2462 : h2008 78 3 = h1987 78 3 := jK 0 f2010 rg_78_3_0_1 (by first | decide | omega) (by first | decide | omega) (by decide)
        have q2463 : h2104 78 3 = h2051 78 3 := jK 0 f2106 rg_78_3_0_1 (by first | decide | omega) (by first | decide | omega) (by decide)
        have m2464 : ∀ u, u < 10 → wdr h2008 u = wdr h1987 u := fun u hu => (wdr_gr f2010 (by decide) u hu)
        have m2465 : ∀ u, u < 10 → wdr h2104 u = wdr h2051 u := fun u hu => (wdr_gr f2106 (by decide) u hu)
        refine x_retI (np := 104) (x := 0) (by decide +kernel) (by first | decide | omega) (Or.inl (by decide +kernel)) ⟨_, rfl, (by first | decide | omega), ?_⟩
        exact ⟨j2105, f2112, (by first | decide | omega), (by first | decide | omega), (fun z => by first | decide | omega), (fun z => by first | decide | omega), (fun _ => m2423), (Tt.r1 (by first | decide | omega) (Tl.fin m1993 (by first | decide | omega) k2436 c2015 (by first | decide | omega) (by first | decide | omega)) (by first | decide | omega) (by first | decide | omega) (by first | decide | omega) (by first | decide | omega)), (fun _ => (Wl.trans m1994 (Wl.mp (c2059 (by first | decide | omega)) m2464 m2465 (by first | decide | omega) (by first | decide | omega))))⟩
    have b2466 := jB (e := 0) 0 hJ rg_78_0_0_1 (by first | decide | omega) (by first | decide | omega)
    have q2467 : h26 78 0 = h15 78 0 := jK 0 f28 rg_78_0_0_1 (by first | decide | omega) (by first | decide | omega) (by decide)
    have q2468 : h15 78 0 = h11 78 0 := by rw [← e17]; exact x_up_k (by decide)
    have q2469 : h11 78 0 = h7 78 0 := by rw [← e13]; exact x_up_k (by decide)
    have q2470 : h7 78 0 = h3 78 0 := by rw [← e9]; exact x_up_k (by decide)
    have q2471 : h3 78 0 = h 78 0 := by rw [← e5]; exact x_up_k (by decide)
    have q2472 : h26 78 1 = h15 78 1 := jK 0 f28 rg_78_1_0_1 (by first | decide | omega) (by first | decide | omega) (by decide)
    have q2473 : h15 78 1 = h11 78 1 := by rw [← e17]; exact x_up_k (by decide)
    have q2474 : h11 78 1 = h7 78 1 := by rw [← e13]; exact x_up_k (by decide)
    have q2475 : h7 78 1 = h3 78 1 := by rw [← e9]; exact x_up_k (by decide)
    have q2476 : h3 78 1 = h 78 1 := by rw [← e5]; exact x_up_k (by decide)
    have m2481 : Cl h3 := by rw [← e5]; exact Cl.oth hC (by decide)
    have m2480 : Cl h7 := by rw [← e9]; exact Cl.oth m2481 (by decide)
    have m2479 : Cl h11 := by rw [← e13]; exact Cl.oth m2480 (by decide)
    have m2478 : Cl h15 := by rw [← e17]; exact Cl.oth m2479 (by decide)
    have m2477 := Cl.fr m2478 f28 (by decide)
    have q2482 : h15 75 7 = h11 75 7 := by rw [← e17]; exact x_up_i (by first | decide | omega)
    have q2483 : h11 75 7 = 2147483648 := by rw [← e13]; exact x_up_at
    have q2484 : h26 75 8 = h15 75 8 := jK 0 f28 rg_75_8_0_1 (by first | decide | omega) (by first | decide | omega) (by decide)
    have q2485 : h15 75 8 = h11 75 8 := by rw [← e17]; exact x_up_i (by first | decide | omega)
    have q2486 : h11 75 8 = h7 75 8 := by rw [← e13]; exact x_up_i (by first | decide | omega)
    have q2487 : h7 75 8 = h3 75 8 := by rw [← e9]; exact x_up_i (by first | decide | omega)
    have q2488 : h3 75 8 = (h 75 6) := by rw [← e5]; exact x_up_at
    have m2490 := Tq.fr m22 f28 (by decide) (by decide)
    have z2489 := m2490.1
    have b2492 := jB (e := 2) 0 hJ rg_78_2_0_1 (by first | decide | omega) (by first | decide | omega)
    have q2493 : h26 78 2 = h15 78 2 := jK 0 f28 rg_78_2_0_1 (by first | decide | omega) (by first | decide | omega) (by decide)
    have q2494 : h15 78 2 = h11 78 2 := by rw [← e17]; exact x_up_k (by decide)
    have q2495 : h11 78 2 = h7 78 2 := by rw [← e13]; exact x_up_k (by decide)
    have q2496 : h7 78 2 = h3 78 2 := by rw [← e9]; exact x_up_k (by decide)
    have q2497 : h3 78 2 = h 78 2 := by rw [← e5]; exact x_up_k (by decide)
    have b2498 := jB (e := 3) 0 hJ rg_78_3_0_1 (by first | decide | omega) (by first | decide | omega)
    have q2499 : h26 78 3 = h15 78 3 := jK 0 f28 rg_78_3_0_1 (by first | decide | omega) (by first | decide | omega) (by decide)
    have q2500 : h15 78 3 = h11 78 3 := by rw [← e17]; exact x_up_k (by decide)
    have q2501 : h11 78 3 = h7 78 3 := by rw [← e13]; exact x_up_k (by decide)
    have q2502 : h7 78 3 = h3 78 3 := by rw [← e9]; exact x_up_k (by decide)
    have q2503 : h3 78 3 = h 78 3 := by rw [← e5]; exact x_up_k (by decide)
    have b2504 := jB (e := 4) 0 hJ rg_78_4_0_1 (by first | decide | omega) (by first | decide | omega)
    have q2505 : h26 78 4 = h15 78 4 := jK 0 f28 rg_78_4_0_1 (by first | decide | omega) (by first | decide | omega) (by decide)
    have q2506 : h15 78 4 = h11 78 4 := by rw [← e17]; exact x_up_k (by decide)
    have q2507 : h11 78 4 = h7 78 4 := by rw [← e13]; exact x_up_k (by decide)
    have q2508 : h7 78 4 = h3 78 4 := by rw [← e9]; exact x_up_k (by decide)
    have q2509 : h3 78 4 = h 78 4 := by rw [← e5]; exact x_up_k (by decide)
    have b2510 := jB (e := 5) 0 hJ rg_78_5_0_1 (by first | decide | omega) (by first | decide | omega)
    have q2511 : h26 78 5 = h15 78 5 := jK 0 f28 rg_78_5_0_1 (by first | decide | omega) (by first | decide | omega) (by decide)
    have q2512 : h15 78 5 = h11 78 5 := by rw [← e17]; exact x_up_k (by decide)
    have q2513 : h11 78 5 = h7 78 5 := by rw [← e13]; exact x_up_k (by decide)
    have q2514 : h7 78 5 = h3 78 5 := by rw [← e9]; exact x_up_k (by decide)
    have q2515 : h3 78 5 = h 78 5 := by rw [← e5]; exact x_up_k (by decide)
    have m2491 : Tl tB tN (h 76 0) (h 78 2) (h 78 3) (h 78 4) (h 78 5) (2147483662 - 2147483648) (h26 78 2) (h26 78 3) (h26 78 4) (h26 78 5) (sk tB tN (h26 75 7)) := by
      rw [show h26 78 2 = h 78 2 by first | decide | omega, show h26 78 3 = h 78 3 by first | decide | omega, show h26 78 4 = h 78 4 by first | decide | omega, show h26 78 5 = h 78 5 by first | decide | omega]
      exact Tl.zeroR ((show h26 75 7 = h26 75 7 by first | decide | omega).trans (Eq.trans c33 (congrArg (sk tB tN) (show h15 75 7 = 2147483648 by first | decide | omega)))) (by first | decide | omega) (by first | decide | omega) rfl
    have q2516 : h26 78 3 = h15 78 3 := jK 0 f28 rg_78_3_0_1 (by first | decide | omega) (by first | decide | omega) (by decide)
    have q2517 : h15 78 3 = h11 78 3 := by rw [← e17]; exact x_up_k (by decide)
    have q2518 : h11 78 3 = h7 78 3 := by rw [← e13]; exact x_up_k (by decide)
    have q2519 : h7 78 3 = h3 78 3 := by rw [← e9]; exact x_up_k (by decide)
    have q2520 : h3 78 3 = h 78 3 := by rw [← e5]; exact x_up_k (by decide)
    have m2521 : ∀ u, u < 10 → wdr h26 u = wdr h u := fun u hu => (Eq.trans (wdr_gr f28 (by decide) u hu) (Eq.trans (show wdr h15 u = wdr h11 u by rw [← e17]; exact wdr_k (by decide)) (Eq.trans (show wdr h11 u = wdr h7 u by rw [← e13]; exact wdr_k (by decide)) (Eq.trans (show wdr h7 u = wdr h3 u by rw [← e9]; exact wdr_k (by decide)) (show wdr h3 u = wdr h u by rw [← e5]; exact wdr_k (by decide))))))
    exact p1990 _ 2147483648 h26 (Nat.lt_succ_self _) (by first | decide | omega) (by first | decide | omega) (by first | decide | omega) j27 (Fr.refl _ _) m2477 m2491 (Wl.refl (by first | decide | omega) m2521)
  have q47 : ¬ ((h26 75 7) ≠ (h 75 6)) := q47
  refine x_const (np := 39) (x := 9223372039002259456) (a := 2147483648) (by decide +kernel) (by decide) (by decide) ?_
  have q2522 : h26 75 6 = h15 75 6 := jK 0 f28 rg_75_6_0_1 (by first | decide | omega) (by first | decide | omega) (by decide)
  have q2523 : h15 75 6 = h11 75 6 := by rw [← e17]; exact x_up_i (by first | decide | omega)
  have q2524 : h11 75 6 = h7 75 6 := by rw [← e13]; exact x_up_i (by first | decide | omega)
  have q2525 : h7 75 6 = 2147483648 := by rw [← e9]; exact x_up_at
  have b2526 := jB (e := 0) 0 hJ rg_78_0_0_1 (by first | decide | omega) (by first | decide | omega)
  have q2527 : h26 78 0 = h15 78 0 := jK 0 f28 rg_78_0_0_1 (by first | decide | omega) (by first | decide | omega) (by decide)
  have q2528 : h15 78 0 = h11 78 0 := by rw [← e17]; exact x_up_k (by decide)
  have q2529 : h11 78 0 = h7 78 0 := by rw [← e13]; exact x_up_k (by decide)
  have q2530 : h7 78 0 = h3 78 0 := by rw [← e9]; exact x_up_k (by decide)
  have q2531 : h3 78 0 = h 78 0 := by rw [← e5]; exact x_up_k (by decide)
  have q2532 : h26 78 1 = h15 78 1 := jK 0 f28 rg_78_1_0_1 (by first | decide | omega) (by first | decide | omega) (by decide)
  have q2533 : h15 78 1 = h11 78 1 := by rw [← e17]; exact x_up_k (by decide)
  have q2534 : h11 78 1 = h7 78 1 := by rw [← e13]; exact x_up_k (by decide)
  have q2535 : h7 78 1 = h3 78 1 := by rw [← e9]; exact x_up_k (by decide)
  have q2536 : h3 78 1 = h 78 1 := by rw [← e5]; exact x_up_k (by decide)
  have m2541 : Cl h3 := by rw [← e5]; exact Cl.oth hC (by decide)
  have m2540 : Cl h7 := by rw [← e9]; exact Cl.oth m2541 (by decide)
  have m2539 : Cl h11 := by rw [← e13]; exact Cl.oth m2540 (by decide)
  have m2538 : Cl h15 := by rw [← e17]; exact Cl.oth m2539 (by decide)
  have m2537 := Cl.fr m2538 f28 (by decide)
  have b2542 := jB (e := 2) 0 hJ rg_78_2_0_1 (by first | decide | omega) (by first | decide | omega)
  have q2543 : h26 78 2 = h15 78 2 := jK 0 f28 rg_78_2_0_1 (by first | decide | omega) (by first | decide | omega) (by decide)
  have q2544 : h15 78 2 = h11 78 2 := by rw [← e17]; exact x_up_k (by decide)
  have q2545 : h11 78 2 = h7 78 2 := by rw [← e13]; exact x_up_k (by decide)
  have q2546 : h7 78 2 = h3 78 2 := by rw [← e9]; exact x_up_k (by decide)
  have q2547 : h3 78 2 = h 78 2 := by rw [← e5]; exact x_up_k (by decide)
  have b2548 := jB (e := 3) 0 hJ rg_78_3_0_1 (by first | decide | omega) (by first | decide | omega)
  have q2549 : h26 78 3 = h15 78 3 := jK 0 f28 rg_78_3_0_1 (by first | decide | omega) (by first | decide | omega) (by decide)
  have q2550 : h15 78 3 = h11 78 3 := by rw [← e17]; exact x_up_k (by decide)
  have q2551 : h11 78 3 = h7 78 3 := by rw [← e13]; exact x_up_k (by decide)
  have q2552 : h7 78 3 = h3 78 3 := by rw [← e9]; exact x_up_k (by decide)
  have q2553 : h3 78 3 = h 78 3 := by rw [← e5]; exact x_up_k (by decide)
  have b2554 := jB (e := 4) 0 hJ rg_78_4_0_1 (by first | decide | omega) (by first | decide | omega)
  have q2555 : h26 78 4 = h15 78 4 := jK 0 f28 rg_78_4_0_1 (by first | decide | omega) (by first | decide | omega) (by decide)
  have q2556 : h15 78 4 = h11 78 4 := by rw [← e17]; exact x_up_k (by decide)
  have q2557 : h11 78 4 = h7 78 4 := by rw [← e13]; exact x_up_k (by decide)
  have q2558 : h7 78 4 = h3 78 4 := by rw [← e9]; exact x_up_k (by decide)
  have q2559 : h3 78 4 = h 78 4 := by rw [← e5]; exact x_up_k (by decide)
  have b2560 := jB (e := 5) 0 hJ rg_78_5_0_1 (by first | decide | omega) (by first | decide | omega)
  have q2561 : h26 78 5 = h15 78 5 := jK 0 f28 rg_78_5_0_1 (by first | decide | omega) (by first | decide | omega) (by decide)
  have q2562 : h15 78 5 = h11 78 5 := by rw [← e17]; exact x_up_k (by decide)
  have q2563 : h11 78 5 = h7 78 5 := by rw [← e13]; exact x_up_k (by decide)
  have q2564 : h7 78 5 = h3 78 5 := by rw [← e9]; exact x_up_k (by decide)
  have q2565 : h3 78 5 = h 78 5 := by rw [← e5]; exact x_up_k (by decide)
  have q2566 : h15 75 7 = h11 75 7 := by rw [← e17]; exact x_up_i (by first | decide | omega)
  have q2567 : h11 75 7 = 2147483648 := by rw [← e13]; exact x_up_at
  have q2568 : h26 75 8 = h15 75 8 := jK 0 f28 rg_75_8_0_1 (by first | decide | omega) (by first | decide | omega) (by decide)
  have q2569 : h15 75 8 = h11 75 8 := by rw [← e17]; exact x_up_i (by first | decide | omega)
  have q2570 : h11 75 8 = h7 75 8 := by rw [← e13]; exact x_up_i (by first | decide | omega)
  have q2571 : h7 75 8 = h3 75 8 := by rw [← e9]; exact x_up_i (by first | decide | omega)
  have q2572 : h3 75 8 = (h 75 6) := by rw [← e5]; exact x_up_at
  have m2574 := Tq.fr m22 f28 (by decide) (by decide)
  have z2573 := m2574.1
  have q2575 : h26 78 3 = h15 78 3 := jK 0 f28 rg_78_3_0_1 (by first | decide | omega) (by first | decide | omega) (by decide)
  have q2576 : h15 78 3 = h11 78 3 := by rw [← e17]; exact x_up_k (by decide)
  have q2577 : h11 78 3 = h7 78 3 := by rw [← e13]; exact x_up_k (by decide)
  have q2578 : h7 78 3 = h3 78 3 := by rw [← e9]; exact x_up_k (by decide)
  have q2579 : h3 78 3 = h 78 3 := by rw [← e5]; exact x_up_k (by decide)
  have m2580 : ∀ u, u < 10 → wdr h26 u = wdr h u := fun u hu => (Eq.trans (wdr_gr f28 (by decide) u hu) (Eq.trans (show wdr h15 u = wdr h11 u by rw [← e17]; exact wdr_k (by decide)) (Eq.trans (show wdr h11 u = wdr h7 u by rw [← e13]; exact wdr_k (by decide)) (Eq.trans (show wdr h7 u = wdr h3 u by rw [← e9]; exact wdr_k (by decide)) (show wdr h3 u = wdr h u by rw [← e5]; exact wdr_k (by decide))))))
  refine x_retI (np := 40) (x := 0) (by decide +kernel) (by decide) (Or.inl (by decide +kernel)) ⟨_, rfl, (by decide), ?_⟩
  exact ⟨j27, f34, (by first | decide | omega), (by first | decide | omega), (fun z => by first | decide | omega), (fun z => by first | decide | omega), (fun _ => m2537), (Tt.r1 (by first | decide | omega) (Tt.nil (Eq.trans c33 (congrArg (sk tB tN) (show h15 75 7 = 2147483648 by first | decide | omega))) (by first | decide | omega) rfl) (by first | decide | omega) (by first | decide | omega) (by first | decide | omega) (by first | decide | omega)), (fun _ => Wl.refl (by first | decide | omega) m2580)⟩
set_option maxHeartbeats 0 in
/-- LentNamesModel.tell()I -/
theorem c195_75 {sc : Nat × Nat} {d  : Nat} {h : xh} {tB : Nat → Nat} {tN : Nat} (hJ : J h) (hr0 : (h 76 1) ≤ 2147483658) (hW : WT 76 h) (hT : Tr tB tN h) : X sc 195 (d + 9) (xI fun r h' => J h' ∧ Fr 17801040477462069249 h h' ∧ (1 ≤ r ∧ r ≤ 2147483658) ∧ (h' 75 6 = 2147483648) ∧ WT 76 h' ∧ Tf tB tN h h' r) 0 0 0 [x_r 75, 147573952589676412928, 147573952589676412928] [] h := by
  have hF := Fr.refl 17801040477462069249 h
  refine x_aload (np := 1) (x := 0) (by decide +kernel) rfl (x_nc_le (by decide)) ?_
  refine x_const (np := 2) (x := 9223372039002259456) (a := 2147483648) (by decide +kernel) (by decide) (by decide) ?_
  refine x_putI (np := 5) (x := 704) (f := 0) (by decide +kernel) (by decide +kernel) (by decide) (Or.inl (by decide)) ?_
  have j2 := jU (e := 0) (v := 2147483648) 0 hJ rg_75_0_0_1 (by first | decide | omega) (by first | decide | omega) (by first | decide | omega)
  have f4 := jF (e := 0) (v := 2147483648) 0 hF rg_75_0_0_1 (by first | decide | omega) (by first | decide | omega) (by decide)
  generalize e3 : x_up h 75 0 2147483648 = h1 at j2 f4 ⊢
  refine x_const (np := 6) (x := 9223372039002259456) (a := 2147483648) (by decide +kernel) (by decide) (by decide) ?_
  refine x_istore (np := 7) (x := 1) (lo' := [x_r 75, iv_c 2147483648, 147573952589676412928]) (by decide +kernel) (by decide) (Nat.le_of_ble_eq_true rfl) rfl ?_
  have p366 : ∀ (n : Nat) (v361 : Nat) (h363 : xh), 4294967296 - v361 < n → (2147483648 ≤ v361 ∧ v361 ≤ 2147483938) → J h363 → Fr 17293822569371140096 h1 h363 → Clp (v361 - 2147483648) h363 → Cpa 78 76 h1 h363 (v361 - 2147483648) → X sc 195 (d + 9) (xI fun r h' => J h' ∧ Fr 17801040477462069249 h h' ∧ (1 ≤ r ∧ r ≤ 2147483658) ∧ (h' 75 6 = 2147483648) ∧ WT 76 h' ∧ Tf tB tN h h' r) 0 0 7 [x_r 75, iv_c v361, 147573952589676412928] [] h363 := by
    intro n
    induction n with
    | zero => intro v361 h363 q369; exact absurd q369 (Nat.not_lt_zero _)
    | succ n i370 =>
      intro v361 h363 q369 b362 j365 f364 m368 m367
      have f371 := Fr.trans f4 f364 (by decide)
      refine x_iload (np := 8) (x := 1) (by decide +kernel) rfl (by first | decide | omega) ?_
      refine x_const (np := 11) (x := 9223373284542775586) (a := 2147483938) (by decide +kernel) (by decide) (by decide) ?_
      refine x_icmp (k := 3) (tg := 32) (np := 14) (by decide +kernel) (by decide) (by first | decide | omega) (by decide) (fun q372 => ?_) (fun q373 => ?_)
      · have q372 : 2147483938 ≤ v361 := q372
        refine x_aload (np := 33) (x := 0) (by decide +kernel) rfl (x_nc_le (by decide)) ?_
        refine x_const (np := 34) (x := 9223372043297226753) (a := 2147483649) (by decide +kernel) (by decide) (by decide) ?_
        have m377 : Cl h363 := Clp.cl m368 (by first | decide | omega)
        have m379 : Tr tB tN h1 := by rw [← e3]; exact Tr.oth hT (by decide) (by decide)
        have m378 := Tr.fr m379 f364 (by decide) (by decide)
        refine x_cI (t := 6) (mj := 194) (n := 2) (rc := 12) (ml := 3) (nr := 0) (np := 37) (as := [x_r 75, iv_c 2147483649]) (rest := []) (lo1 := [x_r 75, iv_c 2147483649, 147573952589676412928]) (by decide +kernel) (by decide) (by decide +kernel) (x_rb_of (by decide +kernel)) rfl rfl (x_wr (by decide) (x_wi (by decide) x_wn)) x_wn (by decide) rfl (c194_75_c1 j365   m377 m378) (fun v374 h380 l375 q376 => ?_)
        obtain ⟨j381, f382, b383, c384, c385, c386, c387, c388, c389⟩ := q376
        have f390 := Fr.trans f371 f382 (by decide)
        have b391 := jB (e := 6) 0 j381 rg_75_6_0_1 (by first | decide | omega) (by first | decide | omega)
        have b392 := jB (e := 0) 0 j365 rg_78_0_0_1 (by first | decide | omega) (by first | decide | omega)
        have b393 := jB (e := 0) 0 j381 rg_78_0_0_1 (by first | decide | omega) (by first | decide | omega)
        refine x_istore (np := 38) (x := 1) (lo' := [x_r 75, iv_c v374, 147573952589676412928]) (by decide +kernel) l375 (Nat.le_of_ble_eq_true rfl) rfl ?_
        refine x_aload (np := 39) (x := 0) (by decide +kernel) rfl (x_nc_le (by decide)) ?_
        refine x_iload (np := 40) (x := 1) (by decide +kernel) rfl l375 ?_
        refine x_ifz (k := 3) (tg := 50) (np := 43) (by decide +kernel) (by decide) l375 (fun q394 => ?_) (fun q395 => ?_)
        · have q394 : 2147483648 ≤ v374 := q394
          have b396 := c385 (by first | decide | omega)
          have b397 := c386 (by first | decide | omega)
          have m398 := c387 (by first | decide | omega)
          refine x_const (np := 51) (x := 9223372034707292159) (a := 2147483647) (by decide +kernel) (by decide) (by decide) ?_
          refine x_putI (np := 54) (x := 715) (f := 11) (by decide +kernel) (by decide +kernel) (by decide) (Or.inl (by decide)) ?_
          have j400 := jU (e := 11) (v := 2147483647) 0 j381 rg_75_11_0_1 (by first | decide | omega) (by first | decide | omega) (by first | decide | omega)
          have f402 := jF (e := 11) (v := 2147483647) 0 f390 rg_75_11_0_1 (by first | decide | omega) (by first | decide | omega) (by decide)
          generalize e401 : x_up h380 75 11 2147483647 = h399 at j400 f402 ⊢
          refine x_aload (np := 55) (x := 0) (by decide +kernel) rfl (x_nc_le (by decide)) ?_
          refine x_iload (np := 56) (x := 1) (by decide +kernel) rfl l375 ?_
          refine x_ifz (k := 3) (tg := 63) (np := 59) (by decide +kernel) (by decide) l375 (fun q403 => ?_) (fun q404 => ?_)
          · have q403 : 2147483648 ≤ v374 := q403
            refine x_const (np := 64) (x := 9223372039002259456) (a := 2147483648) (by decide +kernel) (by decide) (by decide) ?_
            refine x_const (np := 65) (x := 9223372043297226753) (a := 2147483649) (by decide +kernel) (by decide) (by decide) ?_
            refine x_nI (t := 6) (mj := 152) (n := 3) (rc := 12) (ml := 3) (nr := 0) (np := 68) (as := [x_r 75, iv_c 2147483648, iv_c 2147483649]) (rest := []) (lo1 := [x_r 75, iv_c 2147483648, iv_c 2147483649]) (by decide +kernel) (by decide) (by decide +kernel) (x_rb_of (by decide +kernel)) rfl rfl (x_wr (by decide) (x_wi (by decide) (x_wi (by decide) x_wn))) x_wn (by decide) rfl ?_
            refine x_iload (np := 1) (x := 1) (by decide +kernel) rfl (by decide) ?_
            refine x_ifz (k := 0) (tg := 9) (np := 4) (by decide +kernel) (by decide) (by decide) (fun q405 => ?_) (fun q406 => ?_)
            · have q405 : 2147483648 = 2147483648 := q405
              refine x_iload (np := 10) (x := 1) (by decide +kernel) rfl (by decide) ?_
              refine x_retI (np := 11) (x := 0) (by decide +kernel) (by decide) (Or.inr ⟨by decide +kernel, by first | decide | omega, by first | decide | omega⟩) ⟨_, rfl, (by decide), ?_⟩
              refine x_ifz (k := 1) (tg := 95) (np := 71) (by decide +kernel) (by decide) (by decide) (fun q407 => ?_) (fun q408 => ?_)
              · have q407 : 2147483648 ≠ 2147483648 := q407
                exfalso; omega
              have q408 : ¬ (2147483648 ≠ 2147483648) := q408
              refine x_aload (np := 72) (x := 0) (by decide +kernel) rfl (x_nc_le (by decide)) ?_
              refine x_aload (np := 73) (x := 0) (by decide +kernel) rfl (x_nc_le (by decide)) ?_
              have q409 : h399 75 1 = 76 := by have z := jB (e := 1) 0 j400 rg_75_1_0_1 (by decide) (by decide); omega
              refine x_getR (np := 76) (x := 705) (f := 1) (q := 76) (by decide +kernel) (by decide) (by decide +kernel) q409 ?_
              refine x_const (np := 77) (x := 9223372043297226753) (a := 2147483649) (by decide +kernel) (by decide) (by decide) ?_
              have q410 : h399 76 1 = h380 76 1 := by rw [← e401]; exact x_up_k (by decide)
              have q411 : h380 76 1 = h363 76 1 := jK 0 f382 rg_76_1_0_1 (by first | decide | omega) (by first | decide | omega) (by decide)
              have q412 : h363 76 1 = h1 76 1 := jK 0 f364 rg_76_1_0_1 (by first | decide | omega) (by first | decide | omega) (by decide)
              have q413 : h1 76 1 = h 76 1 := by rw [← e3]; exact x_up_k (by decide)
              refine x_aldC (np := 78) (x := 0) (n := 1952) (i := 1) (q := (h 76 1)) (by decide +kernel) (by decide +kernel) (by first | decide | omega) (by first | decide | omega) (by decide) (((q410.trans q411).trans q412).trans q413) (fun l414 => ?_)
              refine x_const (np := 80) (x := 9223372081951932426) (a := 2147483658) (by decide +kernel) (by decide) (by decide) ?_
              refine x_icmp (k := 1) (tg := 87) (np := 83) (by decide +kernel) (by decide) l414 (by decide) (fun q415 => ?_) (fun q416 => ?_)
              · have q415 : (h 76 1) ≠ 2147483658 := q415
                refine x_const (np := 88) (x := 9223372039002259456) (a := 2147483648) (by decide +kernel) (by decide) (by decide) ?_
                refine x_const (np := 89) (x := 9223372047592194050) (a := 2147483650) (by decide +kernel) (by decide) (by decide) ?_
                refine x_nI (t := 6) (mj := 152) (n := 3) (rc := 12) (ml := 3) (nr := 0) (np := 92) (as := [x_r 75, iv_c 2147483648, iv_c 2147483650]) (rest := []) (lo1 := [x_r 75, iv_c 2147483648, iv_c 2147483650]) (by decide +kernel) (by decide) (by decide +kernel) (x_rb_of (by decide +kernel)) rfl rfl (x_wr (by decide) (x_wi (by decide) (x_wi (by decide) x_wn))) x_wn (by decide) rfl ?_
                refine x_iload (np := 1) (x := 1) (by decide +kernel) rfl (by decide) ?_
                refine x_ifz (k := 0) (tg := 9) (np := 4) (by decide +kernel) (by decide) (by decide) (fun q417 => ?_) (fun q418 => ?_)
                · have q417 : 2147483648 = 2147483648 := q417
                  refine x_iload (np := 10) (x := 1) (by decide +kernel) rfl (by decide) ?_
                  refine x_retI (np := 11) (x := 0) (by decide +kernel) (by decide) (Or.inr ⟨by decide +kernel, by first | decide | omega, by first | decide | omega⟩) ⟨_, rfl, (by decide), ?_⟩
                  refine x_ifz (k := 0) (tg := 97) (np := 95) (by decide +kernel) (by decide) (by decide) (fun q419 => ?_) (fun q420 => ?_)
                  · have q419 : 2147483648 = 2147483648 := q419
                    refine x_const (np := 98) (x := 9223372039002259456) (a := 2147483648) (by decide +kernel) (by decide) (by decide) ?_
                    refine x_istore (np := 99) (x := 2) (lo' := [x_r 75, iv_c v374, iv_c 2147483648]) (by decide +kernel) (by decide) (Nat.le_of_ble_eq_true rfl) rfl ?_
                    have p822 : ∀ (n : Nat) (v817 : Nat) (h819 : xh), 4294967296 - v817 < n → (2147483648 ≤ v817 ∧ v817 ≤ 2147483938) → J h819 → Fr 507217908066156544 h399 h819 → WT 76 h819 → Cpa 76 78 h399 h819 (v817 - 2147483648) → X sc 195 (d + 9) (xI fun r h' => J h' ∧ Fr 17801040477462069249 h h' ∧ (1 ≤ r ∧ r ≤ 2147483658) ∧ (h' 75 6 = 2147483648) ∧ WT 76 h' ∧ Tf tB tN h h' r) 0 0 99 [x_r 75, iv_c v374, iv_c v817] [] h819 := by
                      intro n
                      induction n with
                      | zero => intro v817 h819 q825; exact absurd q825 (Nat.not_lt_zero _)
                      | succ n i826 =>
                        intro v817 h819 q825 b818 j821 f820 m823 m824
                        have f827 := Fr.trans f402 f820 (by decide)
                        refine x_iload (np := 100) (x := 2) (by decide +kernel) rfl (by first | decide | omega) ?_
                        refine x_const (np := 103) (x := 9223373284542775586) (a := 2147483938) (by decide +kernel) (by decide) (by decide) ?_
                        refine x_icmp (k := 3) (tg := 124) (np := 106) (by decide +kernel) (by decide) (by first | decide | omega) (by decide) (fun q828 => ?_) (fun q829 => ?_)
                        · have q828 : 2147483938 ≤ v817 := q828
                          have q831 : h1 76 1 = h 76 1 := by rw [← e3]; exact x_up_k (by decide)
                          have z830 := m367 1 (by first | decide | omega)
                          have q833 : h399 78 1 = h380 78 1 := by rw [← e401]; exact x_up_k (by decide)
                          have z832 := m824 1 (by first | decide | omega)
                          refine x_aload (np := 125) (x := 0) (by decide +kernel) rfl (x_nc_le (by decide)) ?_
                          have q834 : h819 75 1 = 76 := by have z := jB (e := 1) 0 j821 rg_75_1_0_1 (by decide) (by decide); omega
                          refine x_getR (np := 128) (x := 705) (f := 1) (q := 76) (by decide +kernel) (by decide) (by decide +kernel) q834 ?_
                          refine x_const (np := 129) (x := 9223372043297226753) (a := 2147483649) (by decide +kernel) (by decide) (by decide) ?_
                          refine x_dup2 (np := 130) (x := 0) (by decide +kernel) (by have z := (iw_c_lt (a := 2147483649) (by decide)).1; omega) (by have z := x_nc_le (k := 76) (by decide); unfold x_r; omega) ?_
                          refine x_aldC (np := 131) (x := 0) (n := 1952) (i := 1) (q := (h819 76 1)) (by decide +kernel) (by decide +kernel) (by first | decide | omega) (by first | decide | omega) (by decide) rfl (fun l835 => ?_)
                          refine x_const (np := 132) (x := 9223372043297226753) (a := 2147483649) (by decide +kernel) (by decide) (by decide) ?_
                          refine x_iadd (np := 133) (x := 0) (v := (1 + (h819 76 1))) (by decide +kernel) l835 (by decide) (by first | decide | omega) (by first | decide | omega) ?_
                          refine x_ast (np := 134) (x := 0) (kd := 1) (n := 1952) (i := 1) (by decide +kernel) (Or.inl rfl) (by decide +kernel) (by first | decide | omega) (by first | decide | omega) (by decide) (by first | decide | omega) (fun z => absurd z (by decide)) ?_
                          have j837 := jU (e := 1) (v := (1 + (h819 76 1))) 0 j821 rg_76_1_0_1 (by first | decide | omega) (by first | decide | omega) (by first | decide | omega)
                          have f839 := jF (e := 1) (v := (1 + (h819 76 1))) 0 f827 rg_76_1_0_1 (by first | decide | omega) (by first | decide | omega) (by decide)
                          generalize e838 : x_up h819 76 1 (1 + (h819 76 1)) = h836 at j837 f839 ⊢
                          refine x_aload (np := 135) (x := 0) (by decide +kernel) rfl (x_nc_le (by decide)) ?_
                          have q840 : h836 75 1 = 76 := by have z := jB (e := 1) 0 j837 rg_75_1_0_1 (by decide) (by decide); omega
                          refine x_getR (np := 138) (x := 705) (f := 1) (q := 76) (by decide +kernel) (by decide) (by decide +kernel) q840 ?_
                          refine x_const (np := 139) (x := 9223372043297226753) (a := 2147483649) (by decide +kernel) (by decide) (by decide) ?_
                          have q841 : h836 76 1 = (1 + (h819 76 1)) := by rw [← e838]; exact x_up_at
                          refine x_aldC (np := 140) (x := 0) (n := 1952) (i := 1) (q := (1 + (h819 76 1))) (by decide +kernel) (by decide +kernel) (by first | decide | omega) (by first | decide | omega) (by decide) q841 (fun l842 => ?_)
                          have q843 : h836 75 6 = h819 75 6 := by rw [← e838]; exact x_up_k (by decide)
                          have q844 : h819 75 6 = h399 75 6 := jK 0 f820 rg_75_6_0_1 (by first | decide | omega) (by first | decide | omega) (by decide)
                          have q845 : h399 75 6 = h380 75 6 := by rw [← e401]; exact x_up_i (by first | decide | omega)
                          have m846 : WT 76 h836 := by rw [← e838]; exact WT.up m823 j821 (by first | decide | omega)
                          have q847 : h1 76 0 = h 76 0 := by rw [← e3]; exact x_up_k (by decide)
                          have b848 := jB (e := 0) 0 hJ rg_76_0_0_1 (by first | decide | omega) (by first | decide | omega)
                          have q849 : h363 76 0 = h1 76 0 := jK 0 f364 rg_76_0_0_1 (by first | decide | omega) (by first | decide | omega) (by decide)
                          have q850 : h1 76 0 = h 76 0 := by rw [← e3]; exact x_up_k (by decide)
                          have z851 := m367 0 (by first | decide | omega)
                          have q852 : h836 76 0 = h819 76 0 := by rw [← e838]; exact x_up_i (by first | decide | omega)
                          have b853 := jB (e := 0) 0 j821 rg_76_0_0_1 (by first | decide | omega) (by first | decide | omega)
                          have q854 : h1 76 1 = h 76 1 := by rw [← e3]; exact x_up_k (by decide)
                          have q855 : h363 76 1 = h1 76 1 := jK 0 f364 rg_76_1_0_1 (by first | decide | omega) (by first | decide | omega) (by decide)
                          have q856 : h1 76 1 = h 76 1 := by rw [← e3]; exact x_up_k (by decide)
                          have z857 := m367 1 (by first | decide | omega)
                          have q858 : h836 76 1 = (1 + (h819 76 1)) := by rw [← e838]; exact x_up_at
                          have b859 := jB (e := 2) 0 j365 rg_78_2_0_1 (by first | decide | omega) (by first | decide | omega)
                          have q860 : h1 76 2 = h 76 2 := by rw [← e3]; exact x_up_k (by decide)
                          have b861 := jB (e := 2) 0 hJ rg_76_2_0_1 (by first | decide | omega) (by first | decide | omega)
                          have q862 : h363 76 2 = h1 76 2 := jK 0 f364 rg_76_2_0_1 (by first | decide | omega) (by first | decide | omega) (by decide)
                          have q863 : h1 76 2 = h 76 2 := by rw [← e3]; exact x_up_k (by decide)
                          have z864 := m367 2 (by first | decide | omega)
                          have q865 : h836 76 2 = h819 76 2 := by rw [← e838]; exact x_up_i (by first | decide | omega)
                          have b866 := jB (e := 2) 0 j821 rg_76_2_0_1 (by first | decide | omega) (by first | decide | omega)
                          have b867 := jB (e := 2) 0 j381 rg_78_2_0_1 (by first | decide | omega) (by first | decide | omega)
                          have b868 := jB (e := 3) 0 j365 rg_78_3_0_1 (by first | decide | omega) (by first | decide | omega)
                          have q869 : h1 76 3 = h 76 3 := by rw [← e3]; exact x_up_k (by decide)
                          have b870 := jB (e := 3) 0 hJ rg_76_3_0_1 (by first | decide | omega) (by first | decide | omega)
                          have q871 : h363 76 3 = h1 76 3 := jK 0 f364 rg_76_3_0_1 (by first | decide | omega) (by first | decide | omega) (by decide)
                          have q872 : h1 76 3 = h 76 3 := by rw [← e3]; exact x_up_k (by decide)
                          have z873 := m367 3 (by first | decide | omega)
                          have q874 : h836 76 3 = h819 76 3 := by rw [← e838]; exact x_up_i (by first | decide | omega)
                          have b875 := jB (e := 3) 0 j821 rg_76_3_0_1 (by first | decide | omega) (by first | decide | omega)
                          have b876 := jB (e := 3) 0 j381 rg_78_3_0_1 (by first | decide | omega) (by first | decide | omega)
                          have b877 := jB (e := 4) 0 j365 rg_78_4_0_1 (by first | decide | omega) (by first | decide | omega)
                          have q878 : h1 76 4 = h 76 4 := by rw [← e3]; exact x_up_k (by decide)
                          have b879 := jB (e := 4) 0 hJ rg_76_4_0_1 (by first | decide | omega) (by first | decide | omega)
                          have q880 : h363 76 4 = h1 76 4 := jK 0 f364 rg_76_4_0_1 (by first | decide | omega) (by first | decide | omega) (by decide)
                          have q881 : h1 76 4 = h 76 4 := by rw [← e3]; exact x_up_k (by decide)
                          have z882 := m367 4 (by first | decide | omega)
                          have q883 : h836 76 4 = h819 76 4 := by rw [← e838]; exact x_up_i (by first | decide | omega)
                          have b884 := jB (e := 4) 0 j821 rg_76_4_0_1 (by first | decide | omega) (by first | decide | omega)
                          have b885 := jB (e := 4) 0 j381 rg_78_4_0_1 (by first | decide | omega) (by first | decide | omega)
                          have b886 := jB (e := 5) 0 j365 rg_78_5_0_1 (by first | decide | omega) (by first | decide | omega)
                          have q887 : h1 76 5 = h 76 5 := by rw [← e3]; exact x_up_k (by decide)
                          have b888 := jB (e := 5) 0 hJ rg_76_5_0_1 (by first | decide | omega) (by first | decide | omega)
                          have q889 : h363 76 5 = h1 76 5 := jK 0 f364 rg_76_5_0_1 (by first | decide | omega) (by first | decide | omega) (by decide)
                          have q890 : h1 76 5 = h 76 5 := by rw [← e3]; exact x_up_k (by decide)
                          have z891 := m367 5 (by first | decide | omega)
                          have q892 : h836 76 5 = h819 76 5 := by rw [← e838]; exact x_up_i (by first | decide | omega)
                          have b893 := jB (e := 5) 0 j821 rg_76_5_0_1 (by first | decide | omega) (by first | decide | omega)
                          have b894 := jB (e := 5) 0 j381 rg_78_5_0_1 (by first | decide | omega) (by first | decide | omega)
                          have q895 : h1 76 14 = h 76 14 := by rw [← e3]; exact x_up_k (by decide)
                          have q896 : h363 76 14 = h1 76 14 := jK 0 f364 rg_76_14_0_1 (by first | decide | omega) (by first | decide | omega) (by decide)
                          have q897 : h1 76 14 = h 76 14 := by rw [← e3]; exact x_up_k (by decide)
                          have z898 := m367 14 (by first | decide | omega)
                          have q899 : h836 76 14 = h819 76 14 := by rw [← e838]; exact x_up_i (by first | decide | omega)
                          have q900 : h380 78 14 = h363 78 14 := jK 0 f382 rg_78_14_0_1 (by first | decide | omega) (by first | decide | omega) (by decide)
                          have q901 : h1 76 15 = h 76 15 := by rw [← e3]; exact x_up_k (by decide)
                          have q902 : h363 76 15 = h1 76 15 := jK 0 f364 rg_76_15_0_1 (by first | decide | omega) (by first | decide | omega) (by decide)
                          have q903 : h1 76 15 = h 76 15 := by rw [← e3]; exact x_up_k (by decide)
                          have z904 := m367 15 (by first | decide | omega)
                          have q905 : h836 76 15 = h819 76 15 := by rw [← e838]; exact x_up_i (by first | decide | omega)
                          have q906 : h380 78 15 = h363 78 15 := jK 0 f382 rg_78_15_0_1 (by first | decide | omega) (by first | decide | omega) (by decide)
                          have q907 : h1 76 16 = h 76 16 := by rw [← e3]; exact x_up_k (by decide)
                          have q908 : h363 76 16 = h1 76 16 := jK 0 f364 rg_76_16_0_1 (by first | decide | omega) (by first | decide | omega) (by decide)
                          have q909 : h1 76 16 = h 76 16 := by rw [← e3]; exact x_up_k (by decide)
                          have z910 := m367 16 (by first | decide | omega)
                          have q911 : h836 76 16 = h819 76 16 := by rw [← e838]; exact x_up_i (by first | decide | omega)
                          have q912 : h380 78 16 = h363 78 16 := jK 0 f382 rg_78_16_0_1 (by first | decide | omega) (by first | decide | omega) (by decide)
                          have q913 : h1 76 17 = h 76 17 := by rw [← e3]; exact x_up_k (by decide)
                          have q914 : h363 76 17 = h1 76 17 := jK 0 f364 rg_76_17_0_1 (by first | decide | omega) (by first | decide | omega) (by decide)
                          have q915 : h1 76 17 = h 76 17 := by rw [← e3]; exact x_up_k (by decide)
                          have z916 := m367 17 (by first | decide | omega)
                          have q917 : h836 76 17 = h819 76 17 := by rw [← e838]; exact x_up_i (by first | decide | omega)
                          have q918 : h380 78 17 = h363 78 17 := jK 0 f382 rg_78_17_0_1 (by first | decide | omega) (by first | decide | omega) (by decide)
                          have q919 : h1 76 18 = h 76 18 := by rw [← e3]; exact x_up_k (by decide)
                          have q920 : h363 76 18 = h1 76 18 := jK 0 f364 rg_76_18_0_1 (by first | decide | omega) (by first | decide | omega) (by decide)
                          have q921 : h1 76 18 = h 76 18 := by rw [← e3]; exact x_up_k (by decide)
                          have z922 := m367 18 (by first | decide | omega)
                          have q923 : h836 76 18 = h819 76 18 := by rw [← e838]; exact x_up_i (by first | decide | omega)
                          have q924 : h380 78 18 = h363 78 18 := jK 0 f382 rg_78_18_0_1 (by first | decide | omega) (by first | decide | omega) (by decide)
                          have q925 : h1 76 19 = h 76 19 := by rw [← e3]; exact x_up_k (by decide)
                          have q926 : h363 76 19 = h1 76 19 := jK 0 f364 rg_76_19_0_1 (by first | decide | omega) (by first | decide | omega) (by decide)
                          have q927 : h1 76 19 = h 76 19 := by rw [← e3]; exact x_up_k (by decide)
                          have z928 := m367 19 (by first | decide | omega)
                          have q929 : h836 76 19 = h819 76 19 := by rw [← e838]; exact x_up_i (by first | decide | omega)
                          have q930 : h380 78 19 = h363 78 19 := jK 0 f382 rg_78_19_0_1 (by first | decide | omega) (by first | decide | omega) (by decide)
                          have q931 : h836 75 0 = h819 75 0 := by rw [← e838]; exact x_up_k (by decide)
                          have q932 : h819 75 0 = h399 75 0 := jK 0 f820 rg_75_0_0_1 (by first | decide | omega) (by first | decide | omega) (by decide)
                          have q933 : h399 75 0 = h380 75 0 := by rw [← e401]; exact x_up_i (by first | decide | omega)
                          have q934 : h380 75 0 = h363 75 0 := jK 0 f382 rg_75_0_0_1 (by first | decide | omega) (by first | decide | omega) (by decide)
                          have q935 : h363 75 0 = h1 75 0 := jK 0 f364 rg_75_0_0_1 (by first | decide | omega) (by first | decide | omega) (by decide)
                          have q936 : h1 75 0 = 2147483648 := by rw [← e3]; exact x_up_at
                          have c937 := Tt.cast (pe' := h 76 0) (l1 := h 76 2) (t1 := h 76 3) (d1 := h 76 4) (s1 := h 76 5) c388 (by first | decide | omega) (by first | decide | omega) (by first | decide | omega) (by first | decide | omega) (by first | decide | omega)
                          have q938 : h399 78 0 = h380 78 0 := by rw [← e401]; exact x_up_k (by decide)
                          have z939 := m824 0 (by first | decide | omega)
                          have q940 : h399 78 1 = h380 78 1 := by rw [← e401]; exact x_up_k (by decide)
                          have z941 := m824 1 (by first | decide | omega)
                          have q942 : h399 78 2 = h380 78 2 := by rw [← e401]; exact x_up_k (by decide)
                          have z943 := m824 2 (by first | decide | omega)
                          have q944 : h399 78 3 = h380 78 3 := by rw [← e401]; exact x_up_k (by decide)
                          have z945 := m824 3 (by first | decide | omega)
                          have q946 : h399 78 4 = h380 78 4 := by rw [← e401]; exact x_up_k (by decide)
                          have z947 := m824 4 (by first | decide | omega)
                          have q948 : h399 78 5 = h380 78 5 := by rw [← e401]; exact x_up_k (by decide)
                          have z949 := m824 5 (by first | decide | omega)
                          have q950 : h399 78 14 = h380 78 14 := by rw [← e401]; exact x_up_k (by decide)
                          have q951 : h380 78 14 = h363 78 14 := jK 0 f382 rg_78_14_0_1 (by first | decide | omega) (by first | decide | omega) (by decide)
                          have q952 : h380 78 14 = h363 78 14 := jK 0 f382 rg_78_14_0_1 (by first | decide | omega) (by first | decide | omega) (by decide)
                          have z953 := m824 14 (by first | decide | omega)
                          have q954 : h399 78 15 = h380 78 15 := by rw [← e401]; exact x_up_k (by decide)
                          have q955 : h380 78 15 = h363 78 15 := jK 0 f382 rg_78_15_0_1 (by first | decide | omega) (by first | decide | omega) (by decide)
                          have q956 : h380 78 15 = h363 78 15 := jK 0 f382 rg_78_15_0_1 (by first | decide | omega) (by first | decide | omega) (by decide)
                          have z957 := m824 15 (by first | decide | omega)
                          have q958 : h399 78 16 = h380 78 16 := by rw [← e401]; exact x_up_k (by decide)
                          have q959 : h380 78 16 = h363 78 16 := jK 0 f382 rg_78_16_0_1 (by first | decide | omega) (by first | decide | omega) (by decide)
                          have q960 : h380 78 16 = h363 78 16 := jK 0 f382 rg_78_16_0_1 (by first | decide | omega) (by first | decide | omega) (by decide)
                          have z961 := m824 16 (by first | decide | omega)
                          have q962 : h399 78 17 = h380 78 17 := by rw [← e401]; exact x_up_k (by decide)
                          have q963 : h380 78 17 = h363 78 17 := jK 0 f382 rg_78_17_0_1 (by first | decide | omega) (by first | decide | omega) (by decide)
                          have q964 : h380 78 17 = h363 78 17 := jK 0 f382 rg_78_17_0_1 (by first | decide | omega) (by first | decide | omega) (by decide)
                          have z965 := m824 17 (by first | decide | omega)
                          have q966 : h399 78 18 = h380 78 18 := by rw [← e401]; exact x_up_k (by decide)
                          have q967 : h380 78 18 = h363 78 18 := jK 0 f382 rg_78_18_0_1 (by first | decide | omega) (by first | decide | omega) (by decide)
                          have q968 : h380 78 18 = h363 78 18 := jK 0 f382 rg_78_18_0_1 (by first | decide | omega) (by first | decide | omega) (by decide)
                          have z969 := m824 18 (by first | decide | omega)
                          have q970 : h399 78 19 = h380 78 19 := by rw [← e401]; exact x_up_k (by decide)
                          have q971 : h380 78 19 = h363 78 19 := jK 0 f382 rg_78_19_0_1 (by first | decide | omega) (by first | decide | omega) (by decide)
                          have q972 : h380 78 19 = h363 78 19 := jK 0 f382 rg_78_19_0_1 (by first | decide | omega) (by first | decide | omega) (by decide)
                          have z973 := m824 19 (by first | decide | omega)
                          have q974 : h836 76 3 = h819 76 3 := by rw [← e838]; exact x_up_i (by first | decide | omega)
                          have m975 : ∀ u, u < 10 → ww h1 u = ww h u := fun u hu => (show ww h1 u = ww h u by rw [← e3]; exact ww_k (by decide))
                          have m976 : ∀ u, u < 10 → ww h836 u = ww h819 u := fun u hu => (show ww h836 u = ww h819 u by rw [← e838]; exact ww_i (by first | decide | omega))
                          have m977 : ∀ u, u < 10 → wdr h399 u = wdr h380 u := fun u hu => (show wdr h399 u = wdr h380 u by rw [← e401]; exact wdr_k (by decide))
                          refine x_retI (np := 141) (x := 0) (by decide +kernel) (by first | decide | omega) (Or.inl (by decide +kernel)) ⟨_, rfl, (by first | decide | omega), ?_⟩
                          exact ⟨j837, f839, (by first | decide | omega), (by first | decide | omega), m846, (Or.inl ⟨by first | decide | omega, Tt.somer c937 (by first | decide | omega) (by first | decide | omega) (by first | decide | omega) (by first | decide | omega) (by first | decide | omega), by first | decide | omega, by first | decide | omega, by first | decide | omega, by first | decide | omega, (sixp (by first | decide | omega) (by first | decide | omega) (by first | decide | omega) (by first | decide | omega) (by first | decide | omega) (by first | decide | omega)), Wl.mp (c389 (by first | decide | omega)) (fun u hu => ((fun _ _ => rfl) u hu).trans ((show wdr h363 u = ww h1 u from m367 (163 + 4 * u) (by first | decide | omega)).trans (m975 u hu))) (fun u hu => (m976 u hu).trans ((show ww h819 u = wdr h399 u from m824 (163 + 4 * u) (by first | decide | omega)).trans (m977 u hu))) (by first | decide | omega) (by first | decide | omega)⟩)⟩
                        have q829 : ¬ (2147483938 ≤ v817) := q829
                        refine x_aload (np := 107) (x := 0) (by decide +kernel) rfl (x_nc_le (by decide)) ?_
                        have q978 : h819 75 1 = 76 := by have z := jB (e := 1) 0 j821 rg_75_1_0_1 (by decide) (by decide); omega
                        refine x_getR (np := 110) (x := 705) (f := 1) (q := 76) (by decide +kernel) (by decide) (by decide +kernel) q978 ?_
                        refine x_iload (np := 111) (x := 2) (by decide +kernel) rfl (by first | decide | omega) ?_
                        refine x_aload (np := 112) (x := 0) (by decide +kernel) rfl (x_nc_le (by decide)) ?_
                        have q979 : h819 75 3 = 78 := by have z := jB (e := 3) 0 j821 rg_75_3_0_1 (by decide) (by decide); omega
                        refine x_getR (np := 115) (x := 707) (f := 3) (q := 78) (by decide +kernel) (by decide) (by decide +kernel) q979 ?_
                        refine x_iload (np := 116) (x := 2) (by decide +kernel) rfl (by first | decide | omega) ?_
                        obtain ⟨u980, q981⟩ : ∃ z, v817 = 2147483648 + z := ⟨v817 - 2147483648, by first | decide | omega⟩
                        refine x_aldC (np := 117) (x := 0) (n := 290) (i := u980) (q := (h819 78 u980)) (by decide +kernel) (by decide +kernel) (by first | decide | omega) (by first | decide | omega) (by decide) rfl (fun l982 => ?_)
                        refine x_ast (np := 118) (x := 0) (kd := 1) (n := 1952) (i := u980) (by decide +kernel) (Or.inl rfl) (by decide +kernel) (by first | decide | omega) (by first | decide | omega) (by decide) l982 (fun z => absurd z (by decide)) ?_
                        have m987 : Cl h399 := by rw [← e401]; exact Cl.oth m398 (by decide)
                        have m986 := Cl.fr m987 f820 (by decide)
                        have j984 := clJ (e := u980) (v := (h819 78 u980)) j821 m986 (by first | decide | omega) rfl
                        have f988 := clF (e := u980) (v := (h819 78 u980)) f827 (by first | decide | omega) (by decide) (by decide) (by decide) (by decide) (by decide) (by decide)
                        have f989 := clF (e := u980) (v := (h819 78 u980)) f820 (by first | decide | omega) (by decide) (by decide) (by decide) (by decide) (by decide) (by decide)
                        generalize e985 : x_up h819 76 u980 (h819 78 u980) = h983 at j984 f988 f989 ⊢
                        refine x_iinc (np := 121) (i := 2) (j := 2147483649) (v := (1 + v817)) (lo' := [x_r 75, iv_c v374, iv_c (1 + v817)]) (by decide +kernel) (by decide) (by decide) rfl (by first | decide | omega) (by first | decide | omega) (by first | decide | omega) rfl ?_
                        refine x_goto (np := 124) (x := 99) (by decide +kernel) ?_
                        have m990 : WT 76 h983 := by rw [← e985]; exact WT.up m823 j821 (by first | decide | omega)
                        have m991 : Cpa 76 78 h399 h983 ((1 + v817) - 2147483648) := by
                          have e0 : v817 - 2147483648 = u980 := by first | decide | omega
                          have e9 : (1 + v817) = 2147483648 + (u980 + 1) := by first | decide | omega
                          have e1 : (1 + v817) - 2147483648 = u980 + 1 := by rw [e9]; exact Nat.add_sub_cancel_left _ _
                          have p9 := m824
                          rw [e0] at p9
                          rw [e1, ← e985]
                          exact Cpa.step p9 (f820 78 u980 (cl_grb (by first | decide | omega) (by decide)))
                        exact i826 (1 + v817) h983 (by first | decide | omega) (by first | decide | omega) j984 f989 m990 m991
                    have m995 : WT 76 h1 := by rw [← e3]; exact WT.oth hW hJ (by decide)
                    have m994 := WT.fr m995 j2 f364 (by decide)
                    have m993 := WT.fr m994 j365 f382 (by decide)
                    have m992 : WT 76 h399 := by rw [← e401]; exact WT.oth m993 j381 (by decide)
                    exact p822 _ 2147483648 h399 (Nat.lt_succ_self _) (by first | decide | omega) j400 (Fr.refl _ _) m992 Cpa.zero
                  have q420 : ¬ (2147483648 = 2147483648) := q420
                  exfalso; omega
                have q418 : ¬ (2147483648 = 2147483648) := q418
                exfalso; omega
              have q416 : ¬ ((h 76 1) ≠ 2147483658) := q416
              refine x_const (np := 84) (x := 9223372043297226753) (a := 2147483649) (by decide +kernel) (by decide) (by decide) ?_
              refine x_goto (np := 87) (x := 88) (by decide +kernel) ?_
              refine x_const (np := 89) (x := 9223372047592194050) (a := 2147483650) (by decide +kernel) (by decide) (by decide) ?_
              refine x_nI (t := 6) (mj := 152) (n := 3) (rc := 12) (ml := 3) (nr := 0) (np := 92) (as := [x_r 75, iv_c 2147483649, iv_c 2147483650]) (rest := []) (lo1 := [x_r 75, iv_c 2147483649, iv_c 2147483650]) (by decide +kernel) (by decide) (by decide +kernel) (x_rb_of (by decide +kernel)) rfl rfl (x_wr (by decide) (x_wi (by decide) (x_wi (by decide) x_wn))) x_wn (by decide) rfl ?_
              refine x_iload (np := 1) (x := 1) (by decide +kernel) rfl (by decide) ?_
              refine x_ifz (k := 0) (tg := 9) (np := 4) (by decide +kernel) (by decide) (by decide) (fun q996 => ?_) (fun q997 => ?_)
              · have q996 : 2147483649 = 2147483648 := q996
                exfalso; omega
              have q997 : ¬ (2147483649 = 2147483648) := q997
              refine x_aload (np := 5) (x := 0) (by decide +kernel) rfl (x_nc_le (by decide)) ?_
              refine x_iload (np := 6) (x := 2) (by decide +kernel) rfl (by decide) ?_
              refine x_putI (np := 9) (x := 704) (f := 0) (by decide +kernel) (by decide +kernel) (by decide) (Or.inl (by decide)) ?_
              have j999 := jU (e := 0) (v := 2147483650) 0 j400 rg_75_0_0_1 (by first | decide | omega) (by first | decide | omega) (by first | decide | omega)
              have f1001 := jF (e := 0) (v := 2147483650) 0 f402 rg_75_0_0_1 (by first | decide | omega) (by first | decide | omega) (by decide)
              generalize e1000 : x_up h399 75 0 2147483650 = h998 at j999 f1001 ⊢
              refine x_iload (np := 10) (x := 1) (by decide +kernel) rfl (by decide) ?_
              refine x_retI (np := 11) (x := 0) (by decide +kernel) (by decide) (Or.inr ⟨by decide +kernel, by first | decide | omega, by first | decide | omega⟩) ⟨_, rfl, (by decide), ?_⟩
              refine x_ifz (k := 0) (tg := 97) (np := 95) (by decide +kernel) (by decide) (by decide) (fun q1002 => ?_) (fun q1003 => ?_)
              · have q1002 : 2147483649 = 2147483648 := q1002
                exfalso; omega
              have q1003 : ¬ (2147483649 = 2147483648) := q1003
              refine x_const (np := 96) (x := 9223372039002259456) (a := 2147483648) (by decide +kernel) (by decide) (by decide) ?_
              have q1004 : h998 75 6 = h399 75 6 := by rw [← e1000]; exact x_up_i (by first | decide | omega)
              have q1005 : h399 75 6 = h380 75 6 := by rw [← e401]; exact x_up_i (by first | decide | omega)
              have m1010 : WT 76 h1 := by rw [← e3]; exact WT.oth hW hJ (by decide)
              have m1009 := WT.fr m1010 j2 f364 (by decide)
              have m1008 := WT.fr m1009 j365 f382 (by decide)
              have m1007 : WT 76 h399 := by rw [← e401]; exact WT.oth m1008 j381 (by decide)
              have m1006 : WT 76 h998 := by rw [← e1000]; exact WT.oth m1007 j400 (by decide)
              have q1011 : h1 76 0 = h 76 0 := by rw [← e3]; exact x_up_k (by decide)
              have b1012 := jB (e := 0) 0 hJ rg_76_0_0_1 (by first | decide | omega) (by first | decide | omega)
              have q1013 : h363 76 0 = h1 76 0 := jK 0 f364 rg_76_0_0_1 (by first | decide | omega) (by first | decide | omega) (by decide)
              have q1014 : h1 76 0 = h 76 0 := by rw [← e3]; exact x_up_k (by decide)
              have z1015 := m367 0 (by first | decide | omega)
              have q1016 : h998 76 0 = h399 76 0 := by rw [← e1000]; exact x_up_k (by decide)
              have q1017 : h399 76 0 = h380 76 0 := by rw [← e401]; exact x_up_k (by decide)
              have q1018 : h380 76 0 = h363 76 0 := jK 0 f382 rg_76_0_0_1 (by first | decide | omega) (by first | decide | omega) (by decide)
              have q1019 : h363 76 0 = h1 76 0 := jK 0 f364 rg_76_0_0_1 (by first | decide | omega) (by first | decide | omega) (by decide)
              have q1020 : h1 76 0 = h 76 0 := by rw [← e3]; exact x_up_k (by decide)
              have q1021 : h1 76 1 = h 76 1 := by rw [← e3]; exact x_up_k (by decide)
              have q1022 : h363 76 1 = h1 76 1 := jK 0 f364 rg_76_1_0_1 (by first | decide | omega) (by first | decide | omega) (by decide)
              have q1023 : h1 76 1 = h 76 1 := by rw [← e3]; exact x_up_k (by decide)
              have z1024 := m367 1 (by first | decide | omega)
              have q1025 : h998 76 1 = h399 76 1 := by rw [← e1000]; exact x_up_k (by decide)
              have q1026 : h399 76 1 = h380 76 1 := by rw [← e401]; exact x_up_k (by decide)
              have q1027 : h380 76 1 = h363 76 1 := jK 0 f382 rg_76_1_0_1 (by first | decide | omega) (by first | decide | omega) (by decide)
              have q1028 : h363 76 1 = h1 76 1 := jK 0 f364 rg_76_1_0_1 (by first | decide | omega) (by first | decide | omega) (by decide)
              have q1029 : h1 76 1 = h 76 1 := by rw [← e3]; exact x_up_k (by decide)
              have b1030 := jB (e := 2) 0 j365 rg_78_2_0_1 (by first | decide | omega) (by first | decide | omega)
              have q1031 : h1 76 2 = h 76 2 := by rw [← e3]; exact x_up_k (by decide)
              have b1032 := jB (e := 2) 0 hJ rg_76_2_0_1 (by first | decide | omega) (by first | decide | omega)
              have q1033 : h363 76 2 = h1 76 2 := jK 0 f364 rg_76_2_0_1 (by first | decide | omega) (by first | decide | omega) (by decide)
              have q1034 : h1 76 2 = h 76 2 := by rw [← e3]; exact x_up_k (by decide)
              have z1035 := m367 2 (by first | decide | omega)
              have q1036 : h998 76 2 = h399 76 2 := by rw [← e1000]; exact x_up_k (by decide)
              have q1037 : h399 76 2 = h380 76 2 := by rw [← e401]; exact x_up_k (by decide)
              have q1038 : h380 76 2 = h363 76 2 := jK 0 f382 rg_76_2_0_1 (by first | decide | omega) (by first | decide | omega) (by decide)
              have q1039 : h363 76 2 = h1 76 2 := jK 0 f364 rg_76_2_0_1 (by first | decide | omega) (by first | decide | omega) (by decide)
              have q1040 : h1 76 2 = h 76 2 := by rw [← e3]; exact x_up_k (by decide)
              have b1041 := jB (e := 2) 0 j381 rg_78_2_0_1 (by first | decide | omega) (by first | decide | omega)
              have b1042 := jB (e := 3) 0 j365 rg_78_3_0_1 (by first | decide | omega) (by first | decide | omega)
              have q1043 : h1 76 3 = h 76 3 := by rw [← e3]; exact x_up_k (by decide)
              have b1044 := jB (e := 3) 0 hJ rg_76_3_0_1 (by first | decide | omega) (by first | decide | omega)
              have q1045 : h363 76 3 = h1 76 3 := jK 0 f364 rg_76_3_0_1 (by first | decide | omega) (by first | decide | omega) (by decide)
              have q1046 : h1 76 3 = h 76 3 := by rw [← e3]; exact x_up_k (by decide)
              have z1047 := m367 3 (by first | decide | omega)
              have q1048 : h998 76 3 = h399 76 3 := by rw [← e1000]; exact x_up_k (by decide)
              have q1049 : h399 76 3 = h380 76 3 := by rw [← e401]; exact x_up_k (by decide)
              have q1050 : h380 76 3 = h363 76 3 := jK 0 f382 rg_76_3_0_1 (by first | decide | omega) (by first | decide | omega) (by decide)
              have q1051 : h363 76 3 = h1 76 3 := jK 0 f364 rg_76_3_0_1 (by first | decide | omega) (by first | decide | omega) (by decide)
              have q1052 : h1 76 3 = h 76 3 := by rw [← e3]; exact x_up_k (by decide)
              have b1053 := jB (e := 3) 0 j381 rg_78_3_0_1 (by first | decide | omega) (by first | decide | omega)
              have b1054 := jB (e := 4) 0 j365 rg_78_4_0_1 (by first | decide | omega) (by first | decide | omega)
              have q1055 : h1 76 4 = h 76 4 := by rw [← e3]; exact x_up_k (by decide)
              have b1056 := jB (e := 4) 0 hJ rg_76_4_0_1 (by first | decide | omega) (by first | decide | omega)
              have q1057 : h363 76 4 = h1 76 4 := jK 0 f364 rg_76_4_0_1 (by first | decide | omega) (by first | decide | omega) (by decide)
              have q1058 : h1 76 4 = h 76 4 := by rw [← e3]; exact x_up_k (by decide)
              have z1059 := m367 4 (by first | decide | omega)
              have q1060 : h998 76 4 = h399 76 4 := by rw [← e1000]; exact x_up_k (by decide)
              have q1061 : h399 76 4 = h380 76 4 := by rw [← e401]; exact x_up_k (by decide)
              have q1062 : h380 76 4 = h363 76 4 := jK 0 f382 rg_76_4_0_1 (by first | decide | omega) (by first | decide | omega) (by decide)
              have q1063 : h363 76 4 = h1 76 4 := jK 0 f364 rg_76_4_0_1 (by first | decide | omega) (by first | decide | omega) (by decide)
              have q1064 : h1 76 4 = h 76 4 := by rw [← e3]; exact x_up_k (by decide)
              have b1065 := jB (e := 4) 0 j381 rg_78_4_0_1 (by first | decide | omega) (by first | decide | omega)
              have b1066 := jB (e := 5) 0 j365 rg_78_5_0_1 (by first | decide | omega) (by first | decide | omega)
              have q1067 : h1 76 5 = h 76 5 := by rw [← e3]; exact x_up_k (by decide)
              have b1068 := jB (e := 5) 0 hJ rg_76_5_0_1 (by first | decide | omega) (by first | decide | omega)
              have q1069 : h363 76 5 = h1 76 5 := jK 0 f364 rg_76_5_0_1 (by first | decide | omega) (by first | decide | omega) (by decide)
              have q1070 : h1 76 5 = h 76 5 := by rw [← e3]; exact x_up_k (by decide)
              have z1071 := m367 5 (by first | decide | omega)
              have q1072 : h998 76 5 = h399 76 5 := by rw [← e1000]; exact x_up_k (by decide)
              have q1073 : h399 76 5 = h380 76 5 := by rw [← e401]; exact x_up_k (by decide)
              have q1074 : h380 76 5 = h363 76 5 := jK 0 f382 rg_76_5_0_1 (by first | decide | omega) (by first | decide | omega) (by decide)
              have q1075 : h363 76 5 = h1 76 5 := jK 0 f364 rg_76_5_0_1 (by first | decide | omega) (by first | decide | omega) (by decide)
              have q1076 : h1 76 5 = h 76 5 := by rw [← e3]; exact x_up_k (by decide)
              have b1077 := jB (e := 5) 0 j381 rg_78_5_0_1 (by first | decide | omega) (by first | decide | omega)
              have q1078 : h1 76 14 = h 76 14 := by rw [← e3]; exact x_up_k (by decide)
              have q1079 : h363 76 14 = h1 76 14 := jK 0 f364 rg_76_14_0_1 (by first | decide | omega) (by first | decide | omega) (by decide)
              have q1080 : h1 76 14 = h 76 14 := by rw [← e3]; exact x_up_k (by decide)
              have z1081 := m367 14 (by first | decide | omega)
              have q1082 : h998 76 14 = h399 76 14 := by rw [← e1000]; exact x_up_k (by decide)
              have q1083 : h399 76 14 = h380 76 14 := by rw [← e401]; exact x_up_k (by decide)
              have q1084 : h380 76 14 = h363 76 14 := jK 0 f382 rg_76_14_0_1 (by first | decide | omega) (by first | decide | omega) (by decide)
              have q1085 : h363 76 14 = h1 76 14 := jK 0 f364 rg_76_14_0_1 (by first | decide | omega) (by first | decide | omega) (by decide)
              have q1086 : h1 76 14 = h 76 14 := by rw [← e3]; exact x_up_k (by decide)
              have q1087 : h380 78 14 = h363 78 14 := jK 0 f382 rg_78_14_0_1 (by first | decide | omega) (by first | decide | omega) (by decide)
              have q1088 : h1 76 15 = h 76 15 := by rw [← e3]; exact x_up_k (by decide)
              have q1089 : h363 76 15 = h1 76 15 := jK 0 f364 rg_76_15_0_1 (by first | decide | omega) (by first | decide | omega) (by decide)
              have q1090 : h1 76 15 = h 76 15 := by rw [← e3]; exact x_up_k (by decide)
              have z1091 := m367 15 (by first | decide | omega)
              have q1092 : h998 76 15 = h399 76 15 := by rw [← e1000]; exact x_up_k (by decide)
              have q1093 : h399 76 15 = h380 76 15 := by rw [← e401]; exact x_up_k (by decide)
              have q1094 : h380 76 15 = h363 76 15 := jK 0 f382 rg_76_15_0_1 (by first | decide | omega) (by first | decide | omega) (by decide)
              have q1095 : h363 76 15 = h1 76 15 := jK 0 f364 rg_76_15_0_1 (by first | decide | omega) (by first | decide | omega) (by decide)
              have q1096 : h1 76 15 = h 76 15 := by rw [← e3]; exact x_up_k (by decide)
              have q1097 : h380 78 15 = h363 78 15 := jK 0 f382 rg_78_15_0_1 (by first | decide | omega) (by first | decide | omega) (by decide)
              have q1098 : h1 76 16 = h 76 16 := by rw [← e3]; exact x_up_k (by decide)
              have q1099 : h363 76 16 = h1 76 16 := jK 0 f364 rg_76_16_0_1 (by first | decide | omega) (by first | decide | omega) (by decide)
              have q1100 : h1 76 16 = h 76 16 := by rw [← e3]; exact x_up_k (by decide)
              have z1101 := m367 16 (by first | decide | omega)
              have q1102 : h998 76 16 = h399 76 16 := by rw [← e1000]; exact x_up_k (by decide)
              have q1103 : h399 76 16 = h380 76 16 := by rw [← e401]; exact x_up_k (by decide)
              have q1104 : h380 76 16 = h363 76 16 := jK 0 f382 rg_76_16_0_1 (by first | decide | omega) (by first | decide | omega) (by decide)
              have q1105 : h363 76 16 = h1 76 16 := jK 0 f364 rg_76_16_0_1 (by first | decide | omega) (by first | decide | omega) (by decide)
              have q1106 : h1 76 16 = h 76 16 := by rw [← e3]; exact x_up_k (by decide)
              have q1107 : h380 78 16 = h363 78 16 := jK 0 f382 rg_78_16_0_1 (by first | decide | omega) (by first | decide | omega) (by decide)
              have q1108 : h1 76 17 = h 76 17 := by rw [← e3]; exact x_up_k (by decide)
              have q1109 : h363 76 17 = h1 76 17 := jK 0 f364 rg_76_17_0_1 (by first | decide | omega) (by first | decide | omega) (by decide)
              have q1110 : h1 76 17 = h 76 17 := by rw [← e3]; exact x_up_k (by decide)
              have z1111 := m367 17 (by first | decide | omega)
              have q1112 : h998 76 17 = h399 76 17 := by rw [← e1000]; exact x_up_k (by decide)
              have q1113 : h399 76 17 = h380 76 17 := by rw [← e401]; exact x_up_k (by decide)
              have q1114 : h380 76 17 = h363 76 17 := jK 0 f382 rg_76_17_0_1 (by first | decide | omega) (by first | decide | omega) (by decide)
              have q1115 : h363 76 17 = h1 76 17 := jK 0 f364 rg_76_17_0_1 (by first | decide | omega) (by first | decide | omega) (by decide)
              have q1116 : h1 76 17 = h 76 17 := by rw [← e3]; exact x_up_k (by decide)
              have q1117 : h380 78 17 = h363 78 17 := jK 0 f382 rg_78_17_0_1 (by first | decide | omega) (by first | decide | omega) (by decide)
              have q1118 : h1 76 18 = h 76 18 := by rw [← e3]; exact x_up_k (by decide)
              have q1119 : h363 76 18 = h1 76 18 := jK 0 f364 rg_76_18_0_1 (by first | decide | omega) (by first | decide | omega) (by decide)
              have q1120 : h1 76 18 = h 76 18 := by rw [← e3]; exact x_up_k (by decide)
              have z1121 := m367 18 (by first | decide | omega)
              have q1122 : h998 76 18 = h399 76 18 := by rw [← e1000]; exact x_up_k (by decide)
              have q1123 : h399 76 18 = h380 76 18 := by rw [← e401]; exact x_up_k (by decide)
              have q1124 : h380 76 18 = h363 76 18 := jK 0 f382 rg_76_18_0_1 (by first | decide | omega) (by first | decide | omega) (by decide)
              have q1125 : h363 76 18 = h1 76 18 := jK 0 f364 rg_76_18_0_1 (by first | decide | omega) (by first | decide | omega) (by decide)
              have q1126 : h1 76 18 = h 76 18 := by rw [← e3]; exact x_up_k (by decide)
              have q1127 : h380 78 18 = h363 78 18 := jK 0 f382 rg_78_18_0_1 (by first | decide | omega) (by first | decide | omega) (by decide)
              have q1128 : h1 76 19 = h 76 19 := by rw [← e3]; exact x_up_k (by decide)
              have q1129 : h363 76 19 = h1 76 19 := jK 0 f364 rg_76_19_0_1 (by first | decide | omega) (by first | decide | omega) (by decide)
              have q1130 : h1 76 19 = h 76 19 := by rw [← e3]; exact x_up_k (by decide)
              have z1131 := m367 19 (by first | decide | omega)
              have q1132 : h998 76 19 = h399 76 19 := by rw [← e1000]; exact x_up_k (by decide)
              have q1133 : h399 76 19 = h380 76 19 := by rw [← e401]; exact x_up_k (by decide)
              have q1134 : h380 76 19 = h363 76 19 := jK 0 f382 rg_76_19_0_1 (by first | decide | omega) (by first | decide | omega) (by decide)
              have q1135 : h363 76 19 = h1 76 19 := jK 0 f364 rg_76_19_0_1 (by first | decide | omega) (by first | decide | omega) (by decide)
              have q1136 : h1 76 19 = h 76 19 := by rw [← e3]; exact x_up_k (by decide)
              have q1137 : h380 78 19 = h363 78 19 := jK 0 f382 rg_78_19_0_1 (by first | decide | omega) (by first | decide | omega) (by decide)
              have q1138 : h998 75 0 = 2147483650 := by rw [← e1000]; exact x_up_at
              have c1139 := Tt.cast (pe' := h 76 0) (l1 := h 76 2) (t1 := h 76 3) (d1 := h 76 4) (s1 := h 76 5) c388 (by first | decide | omega) (by first | decide | omega) (by first | decide | omega) (by first | decide | omega) (by first | decide | omega)
              have m1140 : ∀ u, u < 10 → ww h998 u = ww h u := fun u hu => (Eq.trans (show ww h998 u = ww h399 u by rw [← e1000]; exact ww_k (by decide)) (Eq.trans (show ww h399 u = ww h380 u by rw [← e401]; exact ww_k (by decide)) (Eq.trans (ww_gr f382 (by decide) u hu) (Eq.trans (ww_gr f364 (by decide) u hu) (show ww h1 u = ww h u by rw [← e3]; exact ww_k (by decide))))))
              refine x_retI (np := 97) (x := 0) (by decide +kernel) (by decide) (Or.inl (by decide +kernel)) ⟨_, rfl, (by decide), ?_⟩
              exact ⟨j999, f1001, (by first | decide | omega), (by first | decide | omega), m1006, (Or.inr (Or.inr ⟨by first | decide | omega, ⟨_, Tt.somer c1139 (by first | decide | omega) rfl rfl rfl rfl⟩, by first | decide | omega, (six6 (by first | decide | omega) (by first | decide | omega) (by first | decide | omega) (by first | decide | omega) (by first | decide | omega) (by first | decide | omega)), (sixp (by first | decide | omega) (by first | decide | omega) (by first | decide | omega) (by first | decide | omega) (by first | decide | omega) (by first | decide | omega)), m1140⟩))⟩
            have q406 : ¬ (2147483648 = 2147483648) := q406
            exfalso; omega
          have q404 : ¬ (2147483648 ≤ v374) := q404
          exfalso; omega
        have q395 : ¬ (2147483648 ≤ v374) := q395
        refine x_aload (np := 44) (x := 0) (by decide +kernel) rfl (x_nc_le (by decide)) ?_
        have b1141 := jB (e := 9) 0 j381 rg_75_9_0_1 (by first | decide | omega) (by first | decide | omega)
        refine x_getC (np := 47) (x := 713) (f := 9) (q := (h380 75 9)) (by decide +kernel) (by decide) (by decide +kernel) rfl (fun l1142 => ?_)
        refine x_goto (np := 50) (x := 51) (by decide +kernel) ?_
        refine x_putI (np := 54) (x := 715) (f := 11) (by decide +kernel) (by decide +kernel) l1142 (Or.inl (by decide)) ?_
        have j1144 := jU (e := 11) (v := (h380 75 9)) 0 j381 rg_75_11_0_1 (by first | decide | omega) (by first | decide | omega) (by first | decide | omega)
        have f1146 := jF (e := 11) (v := (h380 75 9)) 0 f390 rg_75_11_0_1 (by first | decide | omega) (by first | decide | omega) (by decide)
        generalize e1145 : x_up h380 75 11 (h380 75 9) = h1143 at j1144 f1146 ⊢
        refine x_aload (np := 55) (x := 0) (by decide +kernel) rfl (x_nc_le (by decide)) ?_
        refine x_iload (np := 56) (x := 1) (by decide +kernel) rfl l375 ?_
        refine x_ifz (k := 3) (tg := 63) (np := 59) (by decide +kernel) (by decide) l375 (fun q1147 => ?_) (fun q1148 => ?_)
        · have q1147 : 2147483648 ≤ v374 := q1147
          exfalso; omega
        have q1148 : ¬ (2147483648 ≤ v374) := q1148
        refine x_const (np := 60) (x := 9223372043297226753) (a := 2147483649) (by decide +kernel) (by decide) (by decide) ?_
        refine x_goto (np := 63) (x := 64) (by decide +kernel) ?_
        refine x_const (np := 65) (x := 9223372043297226753) (a := 2147483649) (by decide +kernel) (by decide) (by decide) ?_
        refine x_nI (t := 6) (mj := 152) (n := 3) (rc := 12) (ml := 3) (nr := 0) (np := 68) (as := [x_r 75, iv_c 2147483649, iv_c 2147483649]) (rest := []) (lo1 := [x_r 75, iv_c 2147483649, iv_c 2147483649]) (by decide +kernel) (by decide) (by decide +kernel) (x_rb_of (by decide +kernel)) rfl rfl (x_wr (by decide) (x_wi (by decide) (x_wi (by decide) x_wn))) x_wn (by decide) rfl ?_
        refine x_iload (np := 1) (x := 1) (by decide +kernel) rfl (by decide) ?_
        refine x_ifz (k := 0) (tg := 9) (np := 4) (by decide +kernel) (by decide) (by decide) (fun q1149 => ?_) (fun q1150 => ?_)
        · have q1149 : 2147483649 = 2147483648 := q1149
          exfalso; omega
        have q1150 : ¬ (2147483649 = 2147483648) := q1150
        refine x_aload (np := 5) (x := 0) (by decide +kernel) rfl (x_nc_le (by decide)) ?_
        refine x_iload (np := 6) (x := 2) (by decide +kernel) rfl (by decide) ?_
        refine x_putI (np := 9) (x := 704) (f := 0) (by decide +kernel) (by decide +kernel) (by decide) (Or.inl (by decide)) ?_
        have j1152 := jU (e := 0) (v := 2147483649) 0 j1144 rg_75_0_0_1 (by first | decide | omega) (by first | decide | omega) (by first | decide | omega)
        have f1154 := jF (e := 0) (v := 2147483649) 0 f1146 rg_75_0_0_1 (by first | decide | omega) (by first | decide | omega) (by decide)
        generalize e1153 : x_up h1143 75 0 2147483649 = h1151 at j1152 f1154 ⊢
        refine x_iload (np := 10) (x := 1) (by decide +kernel) rfl (by decide) ?_
        refine x_retI (np := 11) (x := 0) (by decide +kernel) (by decide) (Or.inr ⟨by decide +kernel, by first | decide | omega, by first | decide | omega⟩) ⟨_, rfl, (by decide), ?_⟩
        refine x_ifz (k := 1) (tg := 95) (np := 71) (by decide +kernel) (by decide) (by decide) (fun q1155 => ?_) (fun q1156 => ?_)
        · have q1155 : 2147483649 ≠ 2147483648 := q1155
          refine x_const (np := 96) (x := 9223372039002259456) (a := 2147483648) (by decide +kernel) (by decide) (by decide) ?_
          have q1157 : h1151 75 6 = h1143 75 6 := by rw [← e1153]; exact x_up_i (by first | decide | omega)
          have q1158 : h1143 75 6 = h380 75 6 := by rw [← e1145]; exact x_up_i (by first | decide | omega)
          have m1163 : WT 76 h1 := by rw [← e3]; exact WT.oth hW hJ (by decide)
          have m1162 := WT.fr m1163 j2 f364 (by decide)
          have m1161 := WT.fr m1162 j365 f382 (by decide)
          have m1160 : WT 76 h1143 := by rw [← e1145]; exact WT.oth m1161 j381 (by decide)
          have m1159 : WT 76 h1151 := by rw [← e1153]; exact WT.oth m1160 j1144 (by decide)
          have q1164 : h1 76 0 = h 76 0 := by rw [← e3]; exact x_up_k (by decide)
          have b1165 := jB (e := 0) 0 hJ rg_76_0_0_1 (by first | decide | omega) (by first | decide | omega)
          have q1166 : h363 76 0 = h1 76 0 := jK 0 f364 rg_76_0_0_1 (by first | decide | omega) (by first | decide | omega) (by decide)
          have q1167 : h1 76 0 = h 76 0 := by rw [← e3]; exact x_up_k (by decide)
          have z1168 := m367 0 (by first | decide | omega)
          have q1169 : h1151 76 0 = h1143 76 0 := by rw [← e1153]; exact x_up_k (by decide)
          have q1170 : h1143 76 0 = h380 76 0 := by rw [← e1145]; exact x_up_k (by decide)
          have q1171 : h380 76 0 = h363 76 0 := jK 0 f382 rg_76_0_0_1 (by first | decide | omega) (by first | decide | omega) (by decide)
          have q1172 : h363 76 0 = h1 76 0 := jK 0 f364 rg_76_0_0_1 (by first | decide | omega) (by first | decide | omega) (by decide)
          have q1173 : h1 76 0 = h 76 0 := by rw [← e3]; exact x_up_k (by decide)
          have q1174 : h1 76 1 = h 76 1 := by rw [← e3]; exact x_up_k (by decide)
          have q1175 : h363 76 1 = h1 76 1 := jK 0 f364 rg_76_1_0_1 (by first | decide | omega) (by first | decide | omega) (by decide)
          have q1176 : h1 76 1 = h 76 1 := by rw [← e3]; exact x_up_k (by decide)
          have z1177 := m367 1 (by first | decide | omega)
          have q1178 : h1151 76 1 = h1143 76 1 := by rw [← e1153]; exact x_up_k (by decide)
          have q1179 : h1143 76 1 = h380 76 1 := by rw [← e1145]; exact x_up_k (by decide)
          have q1180 : h380 76 1 = h363 76 1 := jK 0 f382 rg_76_1_0_1 (by first | decide | omega) (by first | decide | omega) (by decide)
          have q1181 : h363 76 1 = h1 76 1 := jK 0 f364 rg_76_1_0_1 (by first | decide | omega) (by first | decide | omega) (by decide)
          have q1182 : h1 76 1 = h 76 1 := by rw [← e3]; exact x_up_k (by decide)
          have b1183 := jB (e := 2) 0 j365 rg_78_2_0_1 (by first | decide | omega) (by first | decide | omega)
          have q1184 : h1 76 2 = h 76 2 := by rw [← e3]; exact x_up_k (by decide)
          have b1185 := jB (e := 2) 0 hJ rg_76_2_0_1 (by first | decide | omega) (by first | decide | omega)
          have q1186 : h363 76 2 = h1 76 2 := jK 0 f364 rg_76_2_0_1 (by first | decide | omega) (by first | decide | omega) (by decide)
          have q1187 : h1 76 2 = h 76 2 := by rw [← e3]; exact x_up_k (by decide)
          have z1188 := m367 2 (by first | decide | omega)
          have q1189 : h1151 76 2 = h1143 76 2 := by rw [← e1153]; exact x_up_k (by decide)
          have q1190 : h1143 76 2 = h380 76 2 := by rw [← e1145]; exact x_up_k (by decide)
          have q1191 : h380 76 2 = h363 76 2 := jK 0 f382 rg_76_2_0_1 (by first | decide | omega) (by first | decide | omega) (by decide)
          have q1192 : h363 76 2 = h1 76 2 := jK 0 f364 rg_76_2_0_1 (by first | decide | omega) (by first | decide | omega) (by decide)
          have q1193 : h1 76 2 = h 76 2 := by rw [← e3]; exact x_up_k (by decide)
          have b1194 := jB (e := 2) 0 j381 rg_78_2_0_1 (by first | decide | omega) (by first | decide | omega)
          have b1195 := jB (e := 3) 0 j365 rg_78_3_0_1 (by first | decide | omega) (by first | decide | omega)
          have q1196 : h1 76 3 = h 76 3 := by rw [← e3]; exact x_up_k (by decide)
          have b1197 := jB (e := 3) 0 hJ rg_76_3_0_1 (by first | decide | omega) (by first | decide | omega)
          have q1198 : h363 76 3 = h1 76 3 := jK 0 f364 rg_76_3_0_1 (by first | decide | omega) (by first | decide | omega) (by decide)
          have q1199 : h1 76 3 = h 76 3 := by rw [← e3]; exact x_up_k (by decide)
          have z1200 := m367 3 (by first | decide | omega)
          have q1201 : h1151 76 3 = h1143 76 3 := by rw [← e1153]; exact x_up_k (by decide)
          have q1202 : h1143 76 3 = h380 76 3 := by rw [← e1145]; exact x_up_k (by decide)
          have q1203 : h380 76 3 = h363 76 3 := jK 0 f382 rg_76_3_0_1 (by first | decide | omega) (by first | decide | omega) (by decide)
          have q1204 : h363 76 3 = h1 76 3 := jK 0 f364 rg_76_3_0_1 (by first | decide | omega) (by first | decide | omega) (by decide)
          have q1205 : h1 76 3 = h 76 3 := by rw [← e3]; exact x_up_k (by decide)
          have b1206 := jB (e := 3) 0 j381 rg_78_3_0_1 (by first | decide | omega) (by first | decide | omega)
          have b1207 := jB (e := 4) 0 j365 rg_78_4_0_1 (by first | decide | omega) (by first | decide | omega)
          have q1208 : h1 76 4 = h 76 4 := by rw [← e3]; exact x_up_k (by decide)
          have b1209 := jB (e := 4) 0 hJ rg_76_4_0_1 (by first | decide | omega) (by first | decide | omega)
          have q1210 : h363 76 4 = h1 76 4 := jK 0 f364 rg_76_4_0_1 (by first | decide | omega) (by first | decide | omega) (by decide)
          have q1211 : h1 76 4 = h 76 4 := by rw [← e3]; exact x_up_k (by decide)
          have z1212 := m367 4 (by first | decide | omega)
          have q1213 : h1151 76 4 = h1143 76 4 := by rw [← e1153]; exact x_up_k (by decide)
          have q1214 : h1143 76 4 = h380 76 4 := by rw [← e1145]; exact x_up_k (by decide)
          have q1215 : h380 76 4 = h363 76 4 := jK 0 f382 rg_76_4_0_1 (by first | decide | omega) (by first | decide | omega) (by decide)
          have q1216 : h363 76 4 = h1 76 4 := jK 0 f364 rg_76_4_0_1 (by first | decide | omega) (by first | decide | omega) (by decide)
          have q1217 : h1 76 4 = h 76 4 := by rw [← e3]; exact x_up_k (by decide)
          have b1218 := jB (e := 4) 0 j381 rg_78_4_0_1 (by first | decide | omega) (by first | decide | omega)
          have b1219 := jB (e := 5) 0 j365 rg_78_5_0_1 (by first | decide | omega) (by first | decide | omega)
          have q1220 : h1 76 5 = h 76 5 := by rw [← e3]; exact x_up_k (by decide)
          have b1221 := jB (e := 5) 0 hJ rg_76_5_0_1 (by first | decide | omega) (by first | decide | omega)
          have q1222 : h363 76 5 = h1 76 5 := jK 0 f364 rg_76_5_0_1 (by first | decide | omega) (by first | decide | omega) (by decide)
          have q1223 : h1 76 5 = h 76 5 := by rw [← e3]; exact x_up_k (by decide)
          have z1224 := m367 5 (by first | decide | omega)
          have q1225 : h1151 76 5 = h1143 76 5 := by rw [← e1153]; exact x_up_k (by decide)
          have q1226 : h1143 76 5 = h380 76 5 := by rw [← e1145]; exact x_up_k (by decide)
          have q1227 : h380 76 5 = h363 76 5 := jK 0 f382 rg_76_5_0_1 (by first | decide | omega) (by first | decide | omega) (by decide)
          have q1228 : h363 76 5 = h1 76 5 := jK 0 f364 rg_76_5_0_1 (by first | decide | omega) (by first | decide | omega) (by decide)
          have q1229 : h1 76 5 = h 76 5 := by rw [← e3]; exact x_up_k (by decide)
          have b1230 := jB (e := 5) 0 j381 rg_78_5_0_1 (by first | decide | omega) (by first | decide | omega)
          have q1231 : h1 76 14 = h 76 14 := by rw [← e3]; exact x_up_k (by decide)
          have q1232 : h363 76 14 = h1 76 14 := jK 0 f364 rg_76_14_0_1 (by first | decide | omega) (by first | decide | omega) (by decide)
          have q1233 : h1 76 14 = h 76 14 := by rw [← e3]; exact x_up_k (by decide)
          have z1234 := m367 14 (by first | decide | omega)
          have q1235 : h1151 76 14 = h1143 76 14 := by rw [← e1153]; exact x_up_k (by decide)
          have q1236 : h1143 76 14 = h380 76 14 := by rw [← e1145]; exact x_up_k (by decide)
          have q1237 : h380 76 14 = h363 76 14 := jK 0 f382 rg_76_14_0_1 (by first | decide | omega) (by first | decide | omega) (by decide)
          have q1238 : h363 76 14 = h1 76 14 := jK 0 f364 rg_76_14_0_1 (by first | decide | omega) (by first | decide | omega) (by decide)
          have q1239 : h1 76 14 = h 76 14 := by rw [← e3]; exact x_up_k (by decide)
          have q1240 : h380 78 14 = h363 78 14 := jK 0 f382 rg_78_14_0_1 (by first | decide | omega) (by first | decide | omega) (by decide)
          have q1241 : h1 76 15 = h 76 15 := by rw [← e3]; exact x_up_k (by decide)
          have q1242 : h363 76 15 = h1 76 15 := jK 0 f364 rg_76_15_0_1 (by first | decide | omega) (by first | decide | omega) (by decide)
          have q1243 : h1 76 15 = h 76 15 := by rw [← e3]; exact x_up_k (by decide)
          have z1244 := m367 15 (by first | decide | omega)
          have q1245 : h1151 76 15 = h1143 76 15 := by rw [← e1153]; exact x_up_k (by decide)
          have q1246 : h1143 76 15 = h380 76 15 := by rw [← e1145]; exact x_up_k (by decide)
          have q1247 : h380 76 15 = h363 76 15 := jK 0 f382 rg_76_15_0_1 (by first | decide | omega) (by first | decide | omega) (by decide)
          have q1248 : h363 76 15 = h1 76 15 := jK 0 f364 rg_76_15_0_1 (by first | decide | omega) (by first | decide | omega) (by decide)
          have q1249 : h1 76 15 = h 76 15 := by rw [← e3]; exact x_up_k (by decide)
          have q1250 : h380 78 15 = h363 78 15 := jK 0 f382 rg_78_15_0_1 (by first | decide | omega) (by first | decide | omega) (by decide)
          have q1251 : h1 76 16 = h 76 16 := by rw [← e3]; exact x_up_k (by decide)
          have q1252 : h363 76 16 = h1 76 16 := jK 0 f364 rg_76_16_0_1 (by first | decide | omega) (by first | decide | omega) (by decide)
          have q1253 : h1 76 16 = h 76 16 := by rw [← e3]; exact x_up_k (by decide)
          have z1254 := m367 16 (by first | decide | omega)
          have q1255 : h1151 76 16 = h1143 76 16 := by rw [← e1153]; exact x_up_k (by decide)
          have q1256 : h1143 76 16 = h380 76 16 := by rw [← e1145]; exact x_up_k (by decide)
          have q1257 : h380 76 16 = h363 76 16 := jK 0 f382 rg_76_16_0_1 (by first | decide | omega) (by first | decide | omega) (by decide)
          have q1258 : h363 76 16 = h1 76 16 := jK 0 f364 rg_76_16_0_1 (by first | decide | omega) (by first | decide | omega) (by decide)
          have q1259 : h1 76 16 = h 76 16 := by rw [← e3]; exact x_up_k (by decide)
          have q1260 : h380 78 16 = h363 78 16 := jK 0 f382 rg_78_16_0_1 (by first | decide | omega) (by first | decide | omega) (by decide)
          have q1261 : h1 76 17 = h 76 17 := by rw [← e3]; exact x_up_k (by decide)
          have q1262 : h363 76 17 = h1 76 17 := jK 0 f364 rg_76_17_0_1 (by first | decide | omega) (by first | decide | omega) (by decide)
          have q1263 : h1 76 17 = h 76 17 := by rw [← e3]; exact x_up_k (by decide)
          have z1264 := m367 17 (by first | decide | omega)
          have q1265 : h1151 76 17 = h1143 76 17 := by rw [← e1153]; exact x_up_k (by decide)
          have q1266 : h1143 76 17 = h380 76 17 := by rw [← e1145]; exact x_up_k (by decide)
          have q1267 : h380 76 17 = h363 76 17 := jK 0 f382 rg_76_17_0_1 (by first | decide | omega) (by first | decide | omega) (by decide)
          have q1268 : h363 76 17 = h1 76 17 := jK 0 f364 rg_76_17_0_1 (by first | decide | omega) (by first | decide | omega) (by decide)
          have q1269 : h1 76 17 = h 76 17 := by rw [← e3]; exact x_up_k (by decide)
          have q1270 : h380 78 17 = h363 78 17 := jK 0 f382 rg_78_17_0_1 (by first | decide | omega) (by first | decide | omega) (by decide)
          have q1271 : h1 76 18 = h 76 18 := by rw [← e3]; exact x_up_k (by decide)
          have q1272 : h363 76 18 = h1 76 18 := jK 0 f364 rg_76_18_0_1 (by first | decide | omega) (by first | decide | omega) (by decide)
          have q1273 : h1 76 18 = h 76 18 := by rw [← e3]; exact x_up_k (by decide)
          have z1274 := m367 18 (by first | decide | omega)
          have q1275 : h1151 76 18 = h1143 76 18 := by rw [← e1153]; exact x_up_k (by decide)
          have q1276 : h1143 76 18 = h380 76 18 := by rw [← e1145]; exact x_up_k (by decide)
          have q1277 : h380 76 18 = h363 76 18 := jK 0 f382 rg_76_18_0_1 (by first | decide | omega) (by first | decide | omega) (by decide)
          have q1278 : h363 76 18 = h1 76 18 := jK 0 f364 rg_76_18_0_1 (by first | decide | omega) (by first | decide | omega) (by decide)
          have q1279 : h1 76 18 = h 76 18 := by rw [← e3]; exact x_up_k (by decide)
          have q1280 : h380 78 18 = h363 78 18 := jK 0 f382 rg_78_18_0_1 (by first | decide | omega) (by first | decide | omega) (by decide)
          have q1281 : h1 76 19 = h 76 19 := by rw [← e3]; exact x_up_k (by decide)
          have q1282 : h363 76 19 = h1 76 19 := jK 0 f364 rg_76_19_0_1 (by first | decide | omega) (by first | decide | omega) (by decide)
          have q1283 : h1 76 19 = h 76 19 := by rw [← e3]; exact x_up_k (by decide)
          have z1284 := m367 19 (by first | decide | omega)
          have q1285 : h1151 76 19 = h1143 76 19 := by rw [← e1153]; exact x_up_k (by decide)
          have q1286 : h1143 76 19 = h380 76 19 := by rw [← e1145]; exact x_up_k (by decide)
          have q1287 : h380 76 19 = h363 76 19 := jK 0 f382 rg_76_19_0_1 (by first | decide | omega) (by first | decide | omega) (by decide)
          have q1288 : h363 76 19 = h1 76 19 := jK 0 f364 rg_76_19_0_1 (by first | decide | omega) (by first | decide | omega) (by decide)
          have q1289 : h1 76 19 = h 76 19 := by rw [← e3]; exact x_up_k (by decide)
          have q1290 : h380 78 19 = h363 78 19 := jK 0 f382 rg_78_19_0_1 (by first | decide | omega) (by first | decide | omega) (by decide)
          have q1291 : h1151 75 0 = 2147483649 := by rw [← e1153]; exact x_up_at
          have c1292 := Tt.cast (pe' := h 76 0) (l1 := h 76 2) (t1 := h 76 3) (d1 := h 76 4) (s1 := h 76 5) c388 (by first | decide | omega) (by first | decide | omega) (by first | decide | omega) (by first | decide | omega) (by first | decide | omega)
          have m1293 : ∀ u, u < 10 → ww h1151 u = ww h u := fun u hu => (Eq.trans (show ww h1151 u = ww h1143 u by rw [← e1153]; exact ww_k (by decide)) (Eq.trans (show ww h1143 u = ww h380 u by rw [← e1145]; exact ww_k (by decide)) (Eq.trans (ww_gr f382 (by decide) u hu) (Eq.trans (ww_gr f364 (by decide) u hu) (show ww h1 u = ww h u by rw [← e3]; exact ww_k (by decide))))))
          refine x_retI (np := 97) (x := 0) (by decide +kernel) (by decide) (Or.inl (by decide +kernel)) ⟨_, rfl, (by decide), ?_⟩
          exact ⟨j1152, f1154, (by first | decide | omega), (by first | decide | omega), m1159, (Or.inr (Or.inl ⟨by first | decide | omega, Tt.noner c1292 (by first | decide | omega), (six6 (by first | decide | omega) (by first | decide | omega) (by first | decide | omega) (by first | decide | omega) (by first | decide | omega) (by first | decide | omega)), (sixp (by first | decide | omega) (by first | decide | omega) (by first | decide | omega) (by first | decide | omega) (by first | decide | omega) (by first | decide | omega)), m1293⟩))⟩
        have q1156 : ¬ (2147483649 ≠ 2147483648) := q1156
        exfalso; omega
      have q373 : ¬ (2147483938 ≤ v361) := q373
      refine x_aload (np := 15) (x := 0) (by decide +kernel) rfl (x_nc_le (by decide)) ?_
      have q1294 : h363 75 3 = 78 := by have z := jB (e := 3) 0 j365 rg_75_3_0_1 (by decide) (by decide); omega
      refine x_getR (np := 18) (x := 707) (f := 3) (q := 78) (by decide +kernel) (by decide) (by decide +kernel) q1294 ?_
      refine x_iload (np := 19) (x := 1) (by decide +kernel) rfl (by first | decide | omega) ?_
      refine x_aload (np := 20) (x := 0) (by decide +kernel) rfl (x_nc_le (by decide)) ?_
      have q1295 : h363 75 1 = 76 := by have z := jB (e := 1) 0 j365 rg_75_1_0_1 (by decide) (by decide); omega
      refine x_getR (np := 23) (x := 705) (f := 1) (q := 76) (by decide +kernel) (by decide) (by decide +kernel) q1295 ?_
      refine x_iload (np := 24) (x := 1) (by decide +kernel) rfl (by first | decide | omega) ?_
      obtain ⟨u1296, q1297⟩ : ∃ z, v361 = 2147483648 + z := ⟨v361 - 2147483648, by first | decide | omega⟩
      refine x_aldC (np := 25) (x := 0) (n := 1952) (i := u1296) (q := (h363 76 u1296)) (by decide +kernel) (by decide +kernel) (by first | decide | omega) (by first | decide | omega) (by decide) rfl (fun l1298 => ?_)
      refine x_ast (np := 26) (x := 0) (kd := 1) (n := 290) (i := u1296) (by decide +kernel) (Or.inl rfl) (by decide +kernel) (by first | decide | omega) (by first | decide | omega) (by decide) l1298 (fun z => absurd z (by decide)) ?_
      have j1300 := cwmJ (e := u1296) (v := (h363 76 u1296)) u1296 j365 j365 cm_78_0_76_0_290 (by first | decide | omega) (by first | decide | omega) (by first | rfl | (congr 1; omega))
      have f1302 := dUp (e := u1296) (v := (h363 76 u1296)) f371 (by first | decide | omega) (by decide)
      have f1303 := dUp (e := u1296) (v := (h363 76 u1296)) f364 (by first | decide | omega) (by decide)
      generalize e1301 : x_up h363 78 u1296 (h363 76 u1296) = h1299 at j1300 f1302 f1303 ⊢
      refine x_iinc (np := 29) (i := 1) (j := 2147483649) (v := (1 + v361)) (lo' := [x_r 75, iv_c (1 + v361), 147573952589676412928]) (by decide +kernel) (by decide) (by decide) rfl (by first | decide | omega) (by first | decide | omega) (by first | decide | omega) rfl ?_
      refine x_goto (np := 32) (x := 7) (by decide +kernel) ?_
      have m1304 : Clp ((1 + v361) - 2147483648) h1299 := by
        have e0 : v361 - 2147483648 = u1296 := by first | decide | omega
        have e9 : (1 + v361) = 2147483648 + (u1296 + 1) := by first | decide | omega
        have e1 : (1 + v361) - 2147483648 = u1296 + 1 := by rw [e9]; exact Nat.add_sub_cancel_left _ _
        have p9 := m368
        rw [e0] at p9
        rw [e1, ← e1301]
        exact Clp.step p9 j365 (by first | decide | omega)
      have m1305 : Cpa 78 76 h1 h1299 ((1 + v361) - 2147483648) := by
        have e0 : v361 - 2147483648 = u1296 := by first | decide | omega
        have e9 : (1 + v361) = 2147483648 + (u1296 + 1) := by first | decide | omega
        have e1 : (1 + v361) - 2147483648 = u1296 + 1 := by rw [e9]; exact Nat.add_sub_cancel_left _ _
        have p9 := m367
        rw [e0] at p9
        rw [e1, ← e1301]
        exact Cpa.step p9 (f364 76 u1296 (gr_76b (by first | decide | omega) (by decide) (by decide) (by decide) (by decide) (by decide) (by decide)))
      exact i370 (1 + v361) h1299 (by first | decide | omega) (by first | decide | omega) j1300 f1303 m1304 m1305
  exact p366 _ 2147483648 h1 (Nat.lt_succ_self _) (by first | decide | omega) j2 (Fr.refl _ _) Clp.zero Cpa.zero
set_option maxHeartbeats 0 in
/-- LentNamesModel.sign(I)Z -/
theorem c173_75 {sc : Nat × Nat} {d a1 : Nat} {h : xh} {tB : Nat → Nat} {tN : Nat} (hJ : J h) (ba1 : 2147483648 ≤ a1 ∧ a1 ≤ 2147483775) (hT : Tq tB tN h) : X sc 173 (d + 2) (xI fun r h' => J h' ∧ Fr 5242881 h h' ∧ (2147483648 ≤ r ∧ r ≤ 2147483649) ∧ (h 75 7 + 0 ≤ h' 75 7) ∧ (r = 2147483649 → h 75 7 + 1 ≤ h' 75 7) ∧ Tk (Sg tB tN a1 (sk tB tN (h 75 7))) tB tN (sk tB tN (h 75 7)) 1 r (sk tB tN (h' 75 7))) 0 0 0 [x_r 75, iv_c a1] [] h := by
  have la1 : a1 < 4294967296 := by first | decide | omega
  have hF := Fr.refl 5242881 h
  refine x_aload (np := 1) (x := 0) (by decide +kernel) rfl (x_nc_le (by decide)) ?_
  refine x_cV (t := 6) (mj := 168) (n := 1) (rc := 12) (ml := 1) (nr := 0) (np := 4) (as := [x_r 75]) (rest := []) (lo1 := [x_r 75]) (by decide +kernel) (by decide) (by decide +kernel) (x_rb_of (by decide +kernel)) rfl rfl (x_wr (by decide) x_wn) x_wn (by decide) rfl (c168_75 hJ  hT) (fun h4 q3 => ?_)
  obtain ⟨j5, f6, c9, c10, c11⟩ := q3
  have f12 := Fr.trans hF f6 (by decide)
  have b13 := jB (e := 7) 0 hJ rg_75_7_0_1 (by first | decide | omega) (by first | decide | omega)
  have b14 := jB (e := 7) 0 j5 rg_75_7_0_1 (by first | decide | omega) (by first | decide | omega)
  have b15 := jB (e := 9) 0 j5 rg_75_9_0_1 (by first | decide | omega) (by first | decide | omega)
  refine x_aload (np := 5) (x := 0) (by decide +kernel) rfl (x_nc_le (by decide)) ?_
  refine x_iload (np := 6) (x := 1) (by decide +kernel) rfl la1 ?_
  refine x_iload (np := 7) (x := 1) (by decide +kernel) rfl la1 ?_
  refine x_nI (t := 6) (mj := 167) (n := 3) (rc := 12) (ml := 3) (nr := 0) (np := 10) (as := [x_r 75, iv_c a1, iv_c a1]) (rest := []) (lo1 := [x_r 75, iv_c a1, iv_c a1]) (by decide +kernel) (by decide) (by decide +kernel) (x_rb_of (by decide +kernel)) rfl rfl (x_wr (by decide) (x_wi la1 (x_wi la1 x_wn))) x_wn (by decide) rfl ?_
  refine x_aload (np := 1) (x := 0) (by decide +kernel) rfl (x_nc_le (by decide)) ?_
  refine x_getC (np := 4) (x := 711) (f := 7) (q := (h4 75 7)) (by decide +kernel) (by decide) (by decide +kernel) rfl (fun l16 => ?_)
  refine x_aload (np := 5) (x := 0) (by decide +kernel) rfl (x_nc_le (by decide)) ?_
  have q17 : h4 75 8 = h 75 8 := jK 0 f6 rg_75_8_0_1 (by first | decide | omega) (by first | decide | omega) (by decide)
  have b18 := jB (e := 8) 0 hJ rg_75_8_0_1 (by first | decide | omega) (by first | decide | omega)
  refine x_getC (np := 8) (x := 712) (f := 8) (q := (h 75 8)) (by decide +kernel) (by decide) (by decide +kernel) q17 (fun l19 => ?_)
  refine x_icmp (k := 3) (tg := 41) (np := 11) (by decide +kernel) (by decide) l16 l19 (fun q20 => ?_) (fun q21 => ?_)
  · have q20 : (h 75 8) ≤ (h4 75 7) := q20
    refine x_const (np := 42) (x := 9223372039002259456) (a := 2147483648) (by decide +kernel) (by decide) (by decide) ?_
    refine x_retI (np := 43) (x := 0) (by decide +kernel) (by decide) (Or.inr ⟨by decide +kernel, by first | decide | omega, by first | decide | omega⟩) ⟨_, rfl, (by decide), ?_⟩
    refine x_ifz (k := 1) (tg := 15) (np := 13) (by decide +kernel) (by decide) (by decide) (fun q22 => ?_) (fun q23 => ?_)
    · have q22 : 2147483648 ≠ 2147483648 := q22
      exfalso; omega
    have q23 : ¬ (2147483648 ≠ 2147483648) := q23
    refine x_const (np := 14) (x := 9223372039002259456) (a := 2147483648) (by decide +kernel) (by decide) (by decide) ?_
    have q24 : h4 75 8 = h 75 8 := jK 0 f6 rg_75_8_0_1 (by first | decide | omega) (by first | decide | omega) (by decide)
    have m26 := Tq.fr hT f6 (by decide) (by decide)
    have z25 := m26.1
    refine x_retI (np := 15) (x := 0) (by decide +kernel) (by decide) (Or.inr ⟨by decide +kernel, by first | decide | omega, by first | decide | omega⟩) ⟨_, rfl, (by decide), ?_⟩
    exact ⟨j5, f12, (by first | decide | omega), (by first | decide | omega), (fun z => by first | decide | omega), (sg0 c11 (fun z => by have z1 := z.1; have z2 := z.2; omega) (by first | decide | omega) (by first | decide | omega))⟩
  have q21 : ¬ ((h 75 8) ≤ (h4 75 7)) := q21
  refine x_aload (np := 12) (x := 0) (by decide +kernel) rfl (x_nc_le (by decide)) ?_
  have q27 : h4 75 5 = 79 := by have z := jB (e := 5) 0 j5 rg_75_5_0_1 (by decide) (by decide); omega
  refine x_getR (np := 15) (x := 709) (f := 5) (q := 79) (by decide +kernel) (by decide) (by decide +kernel) q27 ?_
  refine x_aload (np := 16) (x := 0) (by decide +kernel) rfl (x_nc_le (by decide)) ?_
  refine x_getC (np := 19) (x := 711) (f := 7) (q := (h4 75 7)) (by decide +kernel) (by decide) (by decide +kernel) rfl (fun l28 => ?_)
  obtain ⟨u29, q30⟩ : ∃ z, (h4 75 7) = 2147483648 + z := ⟨(h4 75 7) - 2147483648, by first | decide | omega⟩
  have q31 : h4 79 u29 = h 79 u29 := jK u29 f6 rg_79_0_1_400 (by first | decide | omega) (by first | decide | omega) (by decide)
  have b32 := jB (e := u29) u29 hJ rg_79_0_1_400 (by first | decide | omega) (by first | decide | omega)
  refine x_baldC (np := 20) (x := 0) (n := 400) (i := u29) (q := (h 79 u29)) (by decide +kernel) (by decide +kernel) (by first | decide | omega) (by first | decide | omega) (by decide) q31 (fun l33 => ?_)
  refine x_iload (np := 21) (x := 1) (by decide +kernel) rfl la1 ?_
  refine x_icmp (k := 2) (tg := 41) (np := 24) (by decide +kernel) (by decide) l33 la1 (fun q34 => ?_) (fun q35 => ?_)
  · have q34 : (h 79 u29) < a1 := q34
    refine x_const (np := 42) (x := 9223372039002259456) (a := 2147483648) (by decide +kernel) (by decide) (by decide) ?_
    refine x_retI (np := 43) (x := 0) (by decide +kernel) (by decide) (Or.inr ⟨by decide +kernel, by first | decide | omega, by first | decide | omega⟩) ⟨_, rfl, (by decide), ?_⟩
    refine x_ifz (k := 1) (tg := 15) (np := 13) (by decide +kernel) (by decide) (by decide) (fun q36 => ?_) (fun q37 => ?_)
    · have q36 : 2147483648 ≠ 2147483648 := q36
      exfalso; omega
    have q37 : ¬ (2147483648 ≠ 2147483648) := q37
    refine x_const (np := 14) (x := 9223372039002259456) (a := 2147483648) (by decide +kernel) (by decide) (by decide) ?_
    have q38 : h4 75 8 = h 75 8 := jK 0 f6 rg_75_8_0_1 (by first | decide | omega) (by first | decide | omega) (by decide)
    have m40 := Tq.fr hT f6 (by decide) (by decide)
    have z39 := m40.1
    have q41 : h4 79 u29 = h 79 u29 := jK u29 f6 rg_79_0_1_400 (by first | decide | omega) (by first | decide | omega) (by decide)
    have z42 := Tq.at (p := (h4 75 7)) (u := u29) m40 (by first | decide | omega) (by first | decide | omega)
    refine x_retI (np := 15) (x := 0) (by decide +kernel) (by decide) (Or.inr ⟨by decide +kernel, by first | decide | omega, by first | decide | omega⟩) ⟨_, rfl, (by decide), ?_⟩
    exact ⟨j5, f12, (by first | decide | omega), (by first | decide | omega), (fun z => by first | decide | omega), (sg0 c11 (fun z => by have z1 := z.1; have z2 := z.2; omega) (by first | decide | omega) (by first | decide | omega))⟩
  have q35 : ¬ ((h 79 u29) < a1) := q35
  refine x_aload (np := 25) (x := 0) (by decide +kernel) rfl (x_nc_le (by decide)) ?_
  have q43 : h4 75 5 = 79 := by have z := jB (e := 5) 0 j5 rg_75_5_0_1 (by decide) (by decide); omega
  refine x_getR (np := 28) (x := 709) (f := 5) (q := 79) (by decide +kernel) (by decide) (by decide +kernel) q43 ?_
  refine x_aload (np := 29) (x := 0) (by decide +kernel) rfl (x_nc_le (by decide)) ?_
  refine x_getC (np := 32) (x := 711) (f := 7) (q := (h4 75 7)) (by decide +kernel) (by decide) (by decide +kernel) rfl (fun l44 => ?_)
  have q45 : h4 79 u29 = h 79 u29 := jK u29 f6 rg_79_0_1_400 (by first | decide | omega) (by first | decide | omega) (by decide)
  refine x_baldC (np := 33) (x := 0) (n := 400) (i := u29) (q := (h 79 u29)) (by decide +kernel) (by decide +kernel) (by first | decide | omega) (by first | decide | omega) (by decide) q45 (fun l46 => ?_)
  refine x_iload (np := 34) (x := 2) (by decide +kernel) rfl la1 ?_
  refine x_icmp (k := 4) (tg := 41) (np := 37) (by decide +kernel) (by decide) l33 la1 (fun q47 => ?_) (fun q48 => ?_)
  · have q47 : a1 < (h 79 u29) := q47
    refine x_const (np := 42) (x := 9223372039002259456) (a := 2147483648) (by decide +kernel) (by decide) (by decide) ?_
    refine x_retI (np := 43) (x := 0) (by decide +kernel) (by decide) (Or.inr ⟨by decide +kernel, by first | decide | omega, by first | decide | omega⟩) ⟨_, rfl, (by decide), ?_⟩
    refine x_ifz (k := 1) (tg := 15) (np := 13) (by decide +kernel) (by decide) (by decide) (fun q49 => ?_) (fun q50 => ?_)
    · have q49 : 2147483648 ≠ 2147483648 := q49
      exfalso; omega
    have q50 : ¬ (2147483648 ≠ 2147483648) := q50
    refine x_const (np := 14) (x := 9223372039002259456) (a := 2147483648) (by decide +kernel) (by decide) (by decide) ?_
    have q51 : h4 75 8 = h 75 8 := jK 0 f6 rg_75_8_0_1 (by first | decide | omega) (by first | decide | omega) (by decide)
    have m53 := Tq.fr hT f6 (by decide) (by decide)
    have z52 := m53.1
    have q54 : h4 79 u29 = h 79 u29 := jK u29 f6 rg_79_0_1_400 (by first | decide | omega) (by first | decide | omega) (by decide)
    have z55 := Tq.at (p := (h4 75 7)) (u := u29) m53 (by first | decide | omega) (by first | decide | omega)
    refine x_retI (np := 15) (x := 0) (by decide +kernel) (by decide) (Or.inr ⟨by decide +kernel, by first | decide | omega, by first | decide | omega⟩) ⟨_, rfl, (by decide), ?_⟩
    exact ⟨j5, f12, (by first | decide | omega), (by first | decide | omega), (fun z => by first | decide | omega), (sg0 c11 (fun z => by have z1 := z.1; have z2 := z.2; omega) (by first | decide | omega) (by first | decide | omega))⟩
  have q48 : ¬ (a1 < (h 79 u29)) := q48
  refine x_const (np := 38) (x := 9223372043297226753) (a := 2147483649) (by decide +kernel) (by decide) (by decide) ?_
  refine x_goto (np := 41) (x := 42) (by decide +kernel) ?_
  refine x_retI (np := 43) (x := 0) (by decide +kernel) (by decide) (Or.inr ⟨by decide +kernel, by first | decide | omega, by first | decide | omega⟩) ⟨_, rfl, (by decide), ?_⟩
  refine x_ifz (k := 1) (tg := 15) (np := 13) (by decide +kernel) (by decide) (by decide) (fun q56 => ?_) (fun q57 => ?_)
  · have q56 : 2147483649 ≠ 2147483648 := q56
    refine x_aload (np := 16) (x := 0) (by decide +kernel) rfl (x_nc_le (by decide)) ?_
    refine x_dup (np := 17) (x := 0) (by decide +kernel) (by have z := x_nc_le (k := 75) (by decide); unfold x_r; omega) ?_
    refine x_getC (np := 20) (x := 711) (f := 7) (q := (h4 75 7)) (by decide +kernel) (by decide) (by decide +kernel) rfl (fun l58 => ?_)
    refine x_const (np := 21) (x := 9223372043297226753) (a := 2147483649) (by decide +kernel) (by decide) (by decide) ?_
    refine x_iadd (np := 22) (x := 0) (v := (1 + (h4 75 7))) (by decide +kernel) l16 (by decide) (by first | decide | omega) (by first | decide | omega) ?_
    refine x_putI (np := 25) (x := 711) (f := 7) (by decide +kernel) (by decide +kernel) (by first | decide | omega) (Or.inl (by decide)) ?_
    have j60 := jU (e := 7) (v := (1 + (h4 75 7))) 0 j5 rg_75_7_0_1 (by first | decide | omega) (by first | decide | omega) (by first | decide | omega)
    have f62 := jF (e := 7) (v := (1 + (h4 75 7))) 0 f12 rg_75_7_0_1 (by first | decide | omega) (by first | decide | omega) (by decide)
    generalize e61 : x_up h4 75 7 (1 + (h4 75 7)) = h59 at j60 f62 ⊢
    refine x_const (np := 26) (x := 9223372043297226753) (a := 2147483649) (by decide +kernel) (by decide) (by decide) ?_
    have q63 : h59 75 7 = (1 + (h4 75 7)) := by rw [← e61]; exact x_up_at
    have q64 : h59 75 7 = (1 + (h4 75 7)) := by rw [← e61]; exact x_up_at
    have q65 : h59 75 7 = (1 + (h4 75 7)) := by rw [← e61]; exact x_up_at
    have q66 : h4 75 8 = h 75 8 := jK 0 f6 rg_75_8_0_1 (by first | decide | omega) (by first | decide | omega) (by decide)
    have m68 := Tq.fr hT f6 (by decide) (by decide)
    have z67 := m68.1
    have q69 : h4 79 u29 = h 79 u29 := jK u29 f6 rg_79_0_1_400 (by first | decide | omega) (by first | decide | omega) (by decide)
    have z70 := Tq.at (p := (h4 75 7)) (u := u29) m68 (by first | decide | omega) (by first | decide | omega)
    refine x_retI (np := 27) (x := 0) (by decide +kernel) (by decide) (Or.inr ⟨by decide +kernel, by first | decide | omega, by first | decide | omega⟩) ⟨_, rfl, (by decide), ?_⟩
    exact ⟨j60, f62, (by first | decide | omega), (by first | decide | omega), (fun z => by first | decide | omega), (sg1 c11 ⟨by first | decide | omega, by first | decide | omega⟩ (by first | decide | omega) (by first | decide | omega))⟩
  have q57 : ¬ (2147483649 ≠ 2147483648) := q57
  exfalso; omega
set_option maxHeartbeats 0 in
/-- LentNamesModel.readPart()Z -/
theorem c188_75 {sc : Nat × Nat} {d  : Nat} {h : xh} {tB : Nat → Nat} {tN : Nat} (hJ : J h) (hr0 : (h 75 13) + 5 ≤ (h 75 7)) (hT : Tq tB tN h) : X sc 188 (d + 5) (xI fun r h' => J h' ∧ Fr 89128961 h h' ∧ (2147483648 ≤ r ∧ r ≤ 2147483649) ∧ (r = 2147483649 → h' 75 13 + h 75 7 ≤ h' 75 7 + h 75 13) ∧ (r = 2147483649 → h 75 7 + 0 ≤ h' 75 7) ∧ (r = 2147483649 → h 75 13 ≤ h' 75 13) ∧ Kp h h' (h 75 13 - 2147483648) ∧ (r = 2147483649 → Seg (sg h') (h 75 13 - 2147483648) (h' 75 13 - 2147483648)) ∧ (∀ l, G tB tN Kd.part l (sk tB tN (h 75 7)) (rs r (sk tB tN (h' 75 7))))) 0 0 0 [x_r 75, 147573952589676412928] [] h := by
  have hF := Fr.refl 89128961 h
  have b1 := jB (e := 13) 0 hJ rg_75_13_0_1 (by first | decide | omega) (by first | decide | omega)
  have b2 := jB (e := 7) 0 hJ rg_75_7_0_1 (by first | decide | omega) (by first | decide | omega)
  refine x_aload (np := 1) (x := 0) (by decide +kernel) rfl (x_nc_le (by decide)) ?_
  refine x_cV (t := 6) (mj := 169) (n := 1) (rc := 12) (ml := 1) (nr := 0) (np := 4) (as := [x_r 75]) (rest := []) (lo1 := [x_r 75]) (by decide +kernel) (by decide) (by decide +kernel) (x_rb_of (by decide +kernel)) rfl rfl (x_wr (by decide) x_wn) x_wn (by decide) rfl (c169_75 hJ  hT) (fun h6 q5 => ?_)
  obtain ⟨j7, f8, c11, c12, c13, c14⟩ := q5
  have f15 := Fr.trans hF f8 (by decide)
  have b16 := jB (e := 9) 0 j7 rg_75_9_0_1 (by first | decide | omega) (by first | decide | omega)
  have b17 := jB (e := 7) 0 j7 rg_75_7_0_1 (by first | decide | omega) (by first | decide | omega)
  refine x_aload (np := 5) (x := 0) (by decide +kernel) rfl (x_nc_le (by decide)) ?_
  refine x_getC (np := 8) (x := 711) (f := 7) (q := (h6 75 7)) (by decide +kernel) (by decide) (by decide +kernel) rfl (fun l18 => ?_)
  refine x_aload (np := 9) (x := 0) (by decide +kernel) rfl (x_nc_le (by decide)) ?_
  refine x_getC (np := 12) (x := 713) (f := 9) (q := (h6 75 9)) (by decide +kernel) (by decide) (by decide +kernel) rfl (fun l19 => ?_)
  refine x_icmp (k := 1) (tg := 34) (np := 15) (by decide +kernel) (by decide) l18 l19 (fun q20 => ?_) (fun q21 => ?_)
  · have q20 : (h6 75 7) ≠ (h6 75 9) := q20
    refine x_aload (np := 35) (x := 0) (by decide +kernel) rfl (x_nc_le (by decide)) ?_
    refine x_ldcB (i := 2) (idx := 147) (tx := "day") (by rw [tb_y188]; exact List.mem_of_getElem? (i := 37) rfl) (by decide) (by rw [tb_b188]; decide +kernel) ?_
    have m25 := Tq.fr hT f8 (by decide) (by decide)
    refine x_cP (t := 6) (mj := 170) (n := 2) (rc := 12) (ml := 4) (nr := 0) (np := 40) (as := [x_r 75, x_b (2 + 1)]) (rest := []) (lo1 := [x_r 75, x_b (2 + 1), 147573952589676412928, 147573952589676412928]) (by decide +kernel) (by decide) (by decide +kernel) (x_rb_of (by decide +kernel)) rfl rfl (x_wr (by decide) (x_wB (by decide) x_wn)) x_wn (by decide) rfl (c170_75_S0 j7  (by decide) m25) (fun v22 l23 q24 => ?_)
    obtain ⟨b28, c26, c27⟩ := q24
    have b29 : iv_tl 2 = 3 := by decide
    refine x_ifz (k := 0) (tg := 47) (np := 43) (by decide +kernel) (by decide) l23 (fun q30 => ?_) (fun q31 => ?_)
    · have q30 : v22 = 2147483648 := q30
      refine x_aload (np := 48) (x := 0) (by decide +kernel) rfl (x_nc_le (by decide)) ?_
      refine x_ldcB (i := 27) (idx := 226) (tx := "days") (by rw [tb_y188]; exact List.mem_of_getElem? (i := 62) rfl) (by decide) (by rw [tb_b188]; decide +kernel) ?_
      refine x_cP (t := 6) (mj := 170) (n := 2) (rc := 12) (ml := 4) (nr := 0) (np := 53) (as := [x_r 75, x_b (27 + 1)]) (rest := []) (lo1 := [x_r 75, x_b (27 + 1), 147573952589676412928, 147573952589676412928]) (by decide +kernel) (by decide) (by decide +kernel) (x_rb_of (by decide +kernel)) rfl rfl (x_wr (by decide) (x_wB (by decide) x_wn)) x_wn (by decide) rfl (c170_75_S0 j7  (by decide) m25) (fun v32 l33 q34 => ?_)
      obtain ⟨b37, c35, c36⟩ := q34
      have b38 : iv_tl 27 = 4 := by decide
      refine x_ifz (k := 0) (tg := 60) (np := 56) (by decide +kernel) (by decide) l33 (fun q39 => ?_) (fun q40 => ?_)
      · have q39 : v32 = 2147483648 := q39
        refine x_aload (np := 61) (x := 0) (by decide +kernel) rfl (x_nc_le (by decide)) ?_
        refine x_ldcB (i := 5) (idx := 158) (tx := "pledge") (by rw [tb_y188]; exact List.mem_of_getElem? (i := 40) rfl) (by decide) (by rw [tb_b188]; decide +kernel) ?_
        refine x_cP (t := 6) (mj := 170) (n := 2) (rc := 12) (ml := 4) (nr := 0) (np := 66) (as := [x_r 75, x_b (5 + 1)]) (rest := []) (lo1 := [x_r 75, x_b (5 + 1), 147573952589676412928, 147573952589676412928]) (by decide +kernel) (by decide) (by decide +kernel) (x_rb_of (by decide +kernel)) rfl rfl (x_wr (by decide) (x_wB (by decide) x_wn)) x_wn (by decide) rfl (c170_75_S0 j7  (by decide) m25) (fun v41 l42 q43 => ?_)
        obtain ⟨b46, c44, c45⟩ := q43
        have b47 : iv_tl 5 = 6 := by decide
        refine x_ifz (k := 0) (tg := 73) (np := 69) (by decide +kernel) (by decide) l42 (fun q48 => ?_) (fun q49 => ?_)
        · have q48 : v41 = 2147483648 := q48
          refine x_aload (np := 74) (x := 0) (by decide +kernel) rfl (x_nc_le (by decide)) ?_
          refine x_ldcB (i := 28) (idx := 228) (tx := "deep") (by rw [tb_y188]; exact List.mem_of_getElem? (i := 63) rfl) (by decide) (by rw [tb_b188]; decide +kernel) ?_
          refine x_cP (t := 6) (mj := 170) (n := 2) (rc := 12) (ml := 4) (nr := 0) (np := 79) (as := [x_r 75, x_b (28 + 1)]) (rest := []) (lo1 := [x_r 75, x_b (28 + 1), 147573952589676412928, 147573952589676412928]) (by decide +kernel) (by decide) (by decide +kernel) (x_rb_of (by decide +kernel)) rfl rfl (x_wr (by decide) (x_wB (by decide) x_wn)) x_wn (by decide) rfl (c170_75_S0 j7  (by decide) m25) (fun v50 l51 q52 => ?_)
          obtain ⟨b55, c53, c54⟩ := q52
          have b56 : iv_tl 28 = 4 := by decide
          refine x_ifz (k := 0) (tg := 86) (np := 82) (by decide +kernel) (by decide) l51 (fun q57 => ?_) (fun q58 => ?_)
          · have q57 : v50 = 2147483648 := q57
            refine x_aload (np := 87) (x := 0) (by decide +kernel) rfl (x_nc_le (by decide)) ?_
            refine x_ldcB (i := 29) (idx := 230) (tx := "gives") (by rw [tb_y188]; exact List.mem_of_getElem? (i := 64) rfl) (by decide) (by rw [tb_b188]; decide +kernel) ?_
            refine x_cP (t := 6) (mj := 170) (n := 2) (rc := 12) (ml := 4) (nr := 0) (np := 92) (as := [x_r 75, x_b (29 + 1)]) (rest := []) (lo1 := [x_r 75, x_b (29 + 1), 147573952589676412928, 147573952589676412928]) (by decide +kernel) (by decide) (by decide +kernel) (x_rb_of (by decide +kernel)) rfl rfl (x_wr (by decide) (x_wB (by decide) x_wn)) x_wn (by decide) rfl (c170_75_S0 j7  (by decide) m25) (fun v59 l60 q61 => ?_)
            obtain ⟨b64, c62, c63⟩ := q61
            have b65 : iv_tl 29 = 5 := by decide
            refine x_ifz (k := 0) (tg := 99) (np := 95) (by decide +kernel) (by decide) l60 (fun q66 => ?_) (fun q67 => ?_)
            · have q66 : v59 = 2147483648 := q66
              refine x_aload (np := 100) (x := 0) (by decide +kernel) rfl (x_nc_le (by decide)) ?_
              refine x_ldcB (i := 30) (idx := 232) (tx := "takes") (by rw [tb_y188]; exact List.mem_of_getElem? (i := 65) rfl) (by decide) (by rw [tb_b188]; decide +kernel) ?_
              refine x_cP (t := 6) (mj := 170) (n := 2) (rc := 12) (ml := 4) (nr := 0) (np := 105) (as := [x_r 75, x_b (30 + 1)]) (rest := []) (lo1 := [x_r 75, x_b (30 + 1), 147573952589676412928, 147573952589676412928]) (by decide +kernel) (by decide) (by decide +kernel) (x_rb_of (by decide +kernel)) rfl rfl (x_wr (by decide) (x_wB (by decide) x_wn)) x_wn (by decide) rfl (c170_75_S0 j7  (by decide) m25) (fun v68 l69 q70 => ?_)
              obtain ⟨b73, c71, c72⟩ := q70
              have b74 : iv_tl 30 = 5 := by decide
              refine x_ifz (k := 0) (tg := 112) (np := 108) (by decide +kernel) (by decide) l69 (fun q75 => ?_) (fun q76 => ?_)
              · have q75 : v68 = 2147483648 := q75
                refine x_const (np := 113) (x := 9223372034707292159) (a := 2147483647) (by decide +kernel) (by decide) (by decide) ?_
                refine x_istore (np := 114) (x := 1) (lo' := [x_r 75, iv_c 2147483647]) (by decide +kernel) (by decide) (Nat.le_of_ble_eq_true rfl) rfl ?_
                refine x_aload (np := 115) (x := 0) (by decide +kernel) rfl (x_nc_le (by decide)) ?_
                refine x_iload (np := 116) (x := 1) (by decide +kernel) rfl (by decide) ?_
                refine x_const (np := 117) (x := 9223372039002259456) (a := 2147483648) (by decide +kernel) (by decide) (by decide) ?_
                refine x_nV (t := 6) (mj := 187) (n := 3) (rc := 12) (ml := 3) (nr := 0) (np := 120) (as := [x_r 75, iv_c 2147483647, iv_c 2147483648]) (rest := []) (lo1 := [x_r 75, iv_c 2147483647, iv_c 2147483648]) (by decide +kernel) (by decide) (by decide +kernel) (x_rb_of (by decide +kernel)) rfl rfl (x_wr (by decide) (x_wi (by decide) (x_wi (by decide) x_wn))) x_wn (by decide) rfl ?_
                refine x_aload (np := 1) (x := 0) (by decide +kernel) rfl (x_nc_le (by decide)) ?_
                have q77 : h6 75 1 = 76 := by have z := jB (e := 1) 0 j7 rg_75_1_0_1 (by decide) (by decide); omega
                refine x_getR (np := 4) (x := 705) (f := 1) (q := 76) (by decide +kernel) (by decide) (by decide +kernel) q77 ?_
                refine x_const (np := 7) (x := 9223376986804585600) (a := 2147484800) (by decide +kernel) (by decide) (by decide) ?_
                refine x_const (np := 8) (x := 9223372047592194050) (a := 2147483650) (by decide +kernel) (by decide) (by decide) ?_
                refine x_aload (np := 9) (x := 0) (by decide +kernel) rfl (x_nc_le (by decide)) ?_
                have q78 : h6 75 13 = h 75 13 := jK 0 f8 rg_75_13_0_1 (by first | decide | omega) (by first | decide | omega) (by decide)
                refine x_getC (np := 12) (x := 717) (f := 13) (q := (h 75 13)) (by decide +kernel) (by decide) (by decide +kernel) q78 (fun l79 => ?_)
                obtain ⟨u80, q81⟩ : ∃ z, (h 75 13) = 2147483648 + z := ⟨(h 75 13) - 2147483648, by first | decide | omega⟩
                refine x_imul (np := 13) (x := 0) (i := 2) (j := u80) (v := (2147483648 + 2 * u80)) (by decide +kernel) (by first | decide | omega) (by first | decide | omega) (by first | decide | omega) (by first | decide | omega) (by decide) l79 ?_
                refine x_iadd (np := 14) (x := 0) (v := (2147484800 + 2 * u80)) (by decide +kernel) (by decide) (by first | decide | omega) (by first | decide | omega) (by first | decide | omega) ?_
                refine x_iload (np := 15) (x := 1) (by decide +kernel) rfl (by decide) ?_
                refine x_ast (np := 16) (x := 0) (kd := 1) (n := 1952) (i := (1152 + 2 * u80)) (by decide +kernel) (Or.inl rfl) (by decide +kernel) (by first | decide | omega) (by first | decide | omega) (by decide) (by decide) (fun z => absurd z (by decide)) ?_
                have j84 := jU (e := (1152 + 2 * u80)) (v := 2147483647) u80 j7 rg_76_1152_2_395 (by first | decide | omega) (by first | decide | omega) (by first | decide | omega)
                have f86 := jF (e := (1152 + 2 * u80)) (v := 2147483647) u80 f15 rg_76_1152_2_395 (by first | decide | omega) (by first | decide | omega) (by decide)
                generalize e85 : x_up h6 76 (1152 + 2 * u80) 2147483647 = h83 at j84 f86 ⊢
                refine x_aload (np := 17) (x := 0) (by decide +kernel) rfl (x_nc_le (by decide)) ?_
                have q87 : h83 75 1 = 76 := by have z := jB (e := 1) 0 j84 rg_75_1_0_1 (by decide) (by decide); omega
                refine x_getR (np := 20) (x := 705) (f := 1) (q := 76) (by decide +kernel) (by decide) (by decide +kernel) q87 ?_
                refine x_const (np := 23) (x := 9223376986804585600) (a := 2147484800) (by decide +kernel) (by decide) (by decide) ?_
                refine x_const (np := 24) (x := 9223372047592194050) (a := 2147483650) (by decide +kernel) (by decide) (by decide) ?_
                refine x_aload (np := 25) (x := 0) (by decide +kernel) rfl (x_nc_le (by decide)) ?_
                have q88 : h83 75 13 = h6 75 13 := by rw [← e85]; exact x_up_k (by decide)
                have q89 : h6 75 13 = h 75 13 := jK 0 f8 rg_75_13_0_1 (by first | decide | omega) (by first | decide | omega) (by decide)
                refine x_getC (np := 28) (x := 717) (f := 13) (q := (h 75 13)) (by decide +kernel) (by decide) (by decide +kernel) (q88.trans q89) (fun l90 => ?_)
                refine x_imul (np := 29) (x := 0) (i := 2) (j := u80) (v := (2147483648 + 2 * u80)) (by decide +kernel) (by first | decide | omega) (by first | decide | omega) (by first | decide | omega) (by first | decide | omega) (by decide) l79 ?_
                refine x_iadd (np := 30) (x := 0) (v := (2147484800 + 2 * u80)) (by decide +kernel) (by decide) (by first | decide | omega) (by first | decide | omega) (by first | decide | omega) ?_
                refine x_const (np := 31) (x := 9223372043297226753) (a := 2147483649) (by decide +kernel) (by decide) (by decide) ?_
                refine x_iadd (np := 32) (x := 0) (v := (2147484801 + 2 * u80)) (by decide +kernel) (by first | decide | omega) (by decide) (by first | decide | omega) (by first | decide | omega) ?_
                refine x_iload (np := 33) (x := 2) (by decide +kernel) rfl (by decide) ?_
                refine x_ast (np := 34) (x := 0) (kd := 1) (n := 1952) (i := (1153 + 2 * u80)) (by decide +kernel) (Or.inl rfl) (by decide +kernel) (by first | decide | omega) (by first | decide | omega) (by decide) (by decide) (fun z => absurd z (by decide)) ?_
                have j93 := jU (e := (1153 + 2 * u80)) (v := 2147483648) u80 j84 rg_76_1153_2_395 (by first | decide | omega) (by first | decide | omega) (by first | decide | omega)
                have f95 := jF (e := (1153 + 2 * u80)) (v := 2147483648) u80 f86 rg_76_1153_2_395 (by first | decide | omega) (by first | decide | omega) (by decide)
                generalize e94 : x_up h83 76 (1153 + 2 * u80) 2147483648 = h92 at j93 f95 ⊢
                refine x_aload (np := 35) (x := 0) (by decide +kernel) rfl (x_nc_le (by decide)) ?_
                refine x_dup (np := 36) (x := 0) (by decide +kernel) (by have z := x_nc_le (k := 75) (by decide); unfold x_r; omega) ?_
                have q96 : h92 75 13 = h83 75 13 := by rw [← e94]; exact x_up_k (by decide)
                have q97 : h83 75 13 = h6 75 13 := by rw [← e85]; exact x_up_k (by decide)
                have q98 : h6 75 13 = h 75 13 := jK 0 f8 rg_75_13_0_1 (by first | decide | omega) (by first | decide | omega) (by decide)
                refine x_getC (np := 39) (x := 717) (f := 13) (q := (h 75 13)) (by decide +kernel) (by decide) (by decide +kernel) ((q96.trans q97).trans q98) (fun l99 => ?_)
                refine x_const (np := 40) (x := 9223372043297226753) (a := 2147483649) (by decide +kernel) (by decide) (by decide) ?_
                refine x_iadd (np := 41) (x := 0) (v := (1 + (h 75 13))) (by decide +kernel) l79 (by decide) (by first | decide | omega) (by first | decide | omega) ?_
                refine x_putI (np := 44) (x := 717) (f := 13) (by decide +kernel) (by decide +kernel) (by first | decide | omega) (Or.inl (by decide)) ?_
                have j101 := jU (e := 13) (v := (1 + (h 75 13))) 0 j93 rg_75_13_0_1 (by first | decide | omega) (by first | decide | omega) (by first | decide | omega)
                have f103 := jF (e := 13) (v := (1 + (h 75 13))) 0 f95 rg_75_13_0_1 (by first | decide | omega) (by first | decide | omega) (by decide)
                generalize e102 : x_up h92 75 13 (1 + (h 75 13)) = h100 at j101 f103 ⊢
                refine x_retV (np := 45) (x := 0) (by decide +kernel) (by decide +kernel) ⟨rfl, ?_⟩
                have q104 : h100 75 13 = (1 + (h 75 13)) := by rw [← e102]; exact x_up_at
                refine x_iload (np := 121) (x := 1) (by decide +kernel) rfl (by decide) ?_
                refine x_ifz (k := 2) (tg := 128) (np := 124) (by decide +kernel) (by decide) (by decide) (fun q105 => ?_) (fun q106 => ?_)
                · have q105 : 2147483647 < 2147483648 := q105
                  refine x_const (np := 129) (x := 9223372039002259456) (a := 2147483648) (by decide +kernel) (by decide) (by decide) ?_
                  have q107 : h100 75 13 = (1 + (h 75 13)) := by rw [← e102]; exact x_up_at
                  have q108 : h100 75 7 = h92 75 7 := by rw [← e102]; exact x_up_i (by first | decide | omega)
                  have q109 : h92 75 7 = h83 75 7 := by rw [← e94]; exact x_up_k (by decide)
                  have q110 : h83 75 7 = h6 75 7 := by rw [← e85]; exact x_up_k (by decide)
                  have q111 : h100 75 7 = h92 75 7 := by rw [← e102]; exact x_up_i (by first | decide | omega)
                  have q112 : h92 75 7 = h83 75 7 := by rw [← e94]; exact x_up_k (by decide)
                  have q113 : h83 75 7 = h6 75 7 := by rw [← e85]; exact x_up_k (by decide)
                  have q114 : h100 75 13 = (1 + (h 75 13)) := by rw [← e102]; exact x_up_at
                  have k118 : Kp h h6 (h 75 13 - 2147483648) := Kp.fr Kp.refl f8 (by first | decide | omega) (by decide)
                  have k117 : Kp h h83 (h 75 13 - 2147483648) := by rw [← e85]; exact Kp.up k118 (by first | decide | omega) (fun i hi => by first | decide | omega)
                  have k116 : Kp h h92 (h 75 13 - 2147483648) := by rw [← e94]; exact Kp.up k117 (by first | decide | omega) (fun i hi => by first | decide | omega)
                  have k115 : Kp h h100 (h 75 13 - 2147483648) := by rw [← e102]; exact Kp.oth k116 (by decide)
                  have w119 : ¬ Wd tB tN 2 (sk tB tN (h 75 7)) := by rw [← c13]; exact Wd.no (by decide) (Is.no c27 (by first | decide | omega)) c14
                  have w120 : ¬ Wd tB tN 27 (sk tB tN (h 75 7)) := by rw [← c13]; exact Wd.no (by decide) (Is.no c36 (by first | decide | omega)) c14
                  have w121 : ¬ Wd tB tN 5 (sk tB tN (h 75 7)) := by rw [← c13]; exact Wd.no (by decide) (Is.no c45 (by first | decide | omega)) c14
                  have w122 : ¬ Wd tB tN 28 (sk tB tN (h 75 7)) := by rw [← c13]; exact Wd.no (by decide) (Is.no c54 (by first | decide | omega)) c14
                  have w123 : ¬ Wd tB tN 29 (sk tB tN (h 75 7)) := by rw [← c13]; exact Wd.no (by decide) (Is.no c63 (by first | decide | omega)) c14
                  have w124 : ¬ Wd tB tN 30 (sk tB tN (h 75 7)) := by rw [← c13]; exact Wd.no (by decide) (Is.no c72 (by first | decide | omega)) c14
                  have n125 : Ltr tB tN (sk tB tN (h 75 7)) := by rw [← c13]; exact ltr_of (by rw [← c14]; omega)
                  refine x_retI (np := 130) (x := 0) (by decide +kernel) (by decide) (Or.inr ⟨by decide +kernel, by first | decide | omega, by first | decide | omega⟩) ⟨_, rfl, (by decide), ?_⟩
                  exact ⟨j101, f103, (by first | decide | omega), (fun z => by first | decide | omega), (fun z => by first | decide | omega), (fun z => by first | decide | omega), k115, (fun z => absurd z (by first | decide | omega)), (fun l => gP_no (ltr_nb n125) w119 w120 w121 w122 w123 w124 (by first | decide | omega))⟩
                have q106 : ¬ (2147483647 < 2147483648) := q106
                exfalso; omega
              have q76 : ¬ (v68 = 2147483648) := q76
              have b126 := c71 (by first | decide | omega)
              refine x_const (np := 109) (x := 9223372060477095941) (a := 2147483653) (by decide +kernel) (by decide) (by decide) ?_
              refine x_goto (np := 112) (x := 113) (by decide +kernel) ?_
              refine x_istore (np := 114) (x := 1) (lo' := [x_r 75, iv_c 2147483653]) (by decide +kernel) (by decide) (Nat.le_of_ble_eq_true rfl) rfl ?_
              refine x_aload (np := 115) (x := 0) (by decide +kernel) rfl (x_nc_le (by decide)) ?_
              refine x_iload (np := 116) (x := 1) (by decide +kernel) rfl (by decide) ?_
              refine x_const (np := 117) (x := 9223372039002259456) (a := 2147483648) (by decide +kernel) (by decide) (by decide) ?_
              refine x_nV (t := 6) (mj := 187) (n := 3) (rc := 12) (ml := 3) (nr := 0) (np := 120) (as := [x_r 75, iv_c 2147483653, iv_c 2147483648]) (rest := []) (lo1 := [x_r 75, iv_c 2147483653, iv_c 2147483648]) (by decide +kernel) (by decide) (by decide +kernel) (x_rb_of (by decide +kernel)) rfl rfl (x_wr (by decide) (x_wi (by decide) (x_wi (by decide) x_wn))) x_wn (by decide) rfl ?_
              refine x_aload (np := 1) (x := 0) (by decide +kernel) rfl (x_nc_le (by decide)) ?_
              have q127 : h6 75 1 = 76 := by have z := jB (e := 1) 0 j7 rg_75_1_0_1 (by decide) (by decide); omega
              refine x_getR (np := 4) (x := 705) (f := 1) (q := 76) (by decide +kernel) (by decide) (by decide +kernel) q127 ?_
              refine x_const (np := 7) (x := 9223376986804585600) (a := 2147484800) (by decide +kernel) (by decide) (by decide) ?_
              refine x_const (np := 8) (x := 9223372047592194050) (a := 2147483650) (by decide +kernel) (by decide) (by decide) ?_
              refine x_aload (np := 9) (x := 0) (by decide +kernel) rfl (x_nc_le (by decide)) ?_
              have q128 : h6 75 13 = h 75 13 := jK 0 f8 rg_75_13_0_1 (by first | decide | omega) (by first | decide | omega) (by decide)
              refine x_getC (np := 12) (x := 717) (f := 13) (q := (h 75 13)) (by decide +kernel) (by decide) (by decide +kernel) q128 (fun l129 => ?_)
              obtain ⟨u130, q131⟩ : ∃ z, (h 75 13) = 2147483648 + z := ⟨(h 75 13) - 2147483648, by first | decide | omega⟩
              refine x_imul (np := 13) (x := 0) (i := 2) (j := u130) (v := (2147483648 + 2 * u130)) (by decide +kernel) (by first | decide | omega) (by first | decide | omega) (by first | decide | omega) (by first | decide | omega) (by decide) l129 ?_
              refine x_iadd (np := 14) (x := 0) (v := (2147484800 + 2 * u130)) (by decide +kernel) (by decide) (by first | decide | omega) (by first | decide | omega) (by first | decide | omega) ?_
              refine x_iload (np := 15) (x := 1) (by decide +kernel) rfl (by decide) ?_
              refine x_ast (np := 16) (x := 0) (kd := 1) (n := 1952) (i := (1152 + 2 * u130)) (by decide +kernel) (Or.inl rfl) (by decide +kernel) (by first | decide | omega) (by first | decide | omega) (by decide) (by decide) (fun z => absurd z (by decide)) ?_
              have j134 := jU (e := (1152 + 2 * u130)) (v := 2147483653) u130 j7 rg_76_1152_2_391 (by first | decide | omega) (by first | decide | omega) (by first | decide | omega)
              have f136 := jF (e := (1152 + 2 * u130)) (v := 2147483653) u130 f15 rg_76_1152_2_391 (by first | decide | omega) (by first | decide | omega) (by decide)
              generalize e135 : x_up h6 76 (1152 + 2 * u130) 2147483653 = h133 at j134 f136 ⊢
              refine x_aload (np := 17) (x := 0) (by decide +kernel) rfl (x_nc_le (by decide)) ?_
              have q137 : h133 75 1 = 76 := by have z := jB (e := 1) 0 j134 rg_75_1_0_1 (by decide) (by decide); omega
              refine x_getR (np := 20) (x := 705) (f := 1) (q := 76) (by decide +kernel) (by decide) (by decide +kernel) q137 ?_
              refine x_const (np := 23) (x := 9223376986804585600) (a := 2147484800) (by decide +kernel) (by decide) (by decide) ?_
              refine x_const (np := 24) (x := 9223372047592194050) (a := 2147483650) (by decide +kernel) (by decide) (by decide) ?_
              refine x_aload (np := 25) (x := 0) (by decide +kernel) rfl (x_nc_le (by decide)) ?_
              have q138 : h133 75 13 = h6 75 13 := by rw [← e135]; exact x_up_k (by decide)
              have q139 : h6 75 13 = h 75 13 := jK 0 f8 rg_75_13_0_1 (by first | decide | omega) (by first | decide | omega) (by decide)
              refine x_getC (np := 28) (x := 717) (f := 13) (q := (h 75 13)) (by decide +kernel) (by decide) (by decide +kernel) (q138.trans q139) (fun l140 => ?_)
              refine x_imul (np := 29) (x := 0) (i := 2) (j := u130) (v := (2147483648 + 2 * u130)) (by decide +kernel) (by first | decide | omega) (by first | decide | omega) (by first | decide | omega) (by first | decide | omega) (by decide) l129 ?_
              refine x_iadd (np := 30) (x := 0) (v := (2147484800 + 2 * u130)) (by decide +kernel) (by decide) (by first | decide | omega) (by first | decide | omega) (by first | decide | omega) ?_
              refine x_const (np := 31) (x := 9223372043297226753) (a := 2147483649) (by decide +kernel) (by decide) (by decide) ?_
              refine x_iadd (np := 32) (x := 0) (v := (2147484801 + 2 * u130)) (by decide +kernel) (by first | decide | omega) (by decide) (by first | decide | omega) (by first | decide | omega) ?_
              refine x_iload (np := 33) (x := 2) (by decide +kernel) rfl (by decide) ?_
              refine x_ast (np := 34) (x := 0) (kd := 1) (n := 1952) (i := (1153 + 2 * u130)) (by decide +kernel) (Or.inl rfl) (by decide +kernel) (by first | decide | omega) (by first | decide | omega) (by decide) (by decide) (fun z => absurd z (by decide)) ?_
              have j143 := jU (e := (1153 + 2 * u130)) (v := 2147483648) u130 j134 rg_76_1153_2_391 (by first | decide | omega) (by first | decide | omega) (by first | decide | omega)
              have f145 := jF (e := (1153 + 2 * u130)) (v := 2147483648) u130 f136 rg_76_1153_2_391 (by first | decide | omega) (by first | decide | omega) (by decide)
              generalize e144 : x_up h133 76 (1153 + 2 * u130) 2147483648 = h142 at j143 f145 ⊢
              refine x_aload (np := 35) (x := 0) (by decide +kernel) rfl (x_nc_le (by decide)) ?_
              refine x_dup (np := 36) (x := 0) (by decide +kernel) (by have z := x_nc_le (k := 75) (by decide); unfold x_r; omega) ?_
              have q146 : h142 75 13 = h133 75 13 := by rw [← e144]; exact x_up_k (by decide)
              have q147 : h133 75 13 = h6 75 13 := by rw [← e135]; exact x_up_k (by decide)
              have q148 : h6 75 13 = h 75 13 := jK 0 f8 rg_75_13_0_1 (by first | decide | omega) (by first | decide | omega) (by decide)
              refine x_getC (np := 39) (x := 717) (f := 13) (q := (h 75 13)) (by decide +kernel) (by decide) (by decide +kernel) ((q146.trans q147).trans q148) (fun l149 => ?_)
              refine x_const (np := 40) (x := 9223372043297226753) (a := 2147483649) (by decide +kernel) (by decide) (by decide) ?_
              refine x_iadd (np := 41) (x := 0) (v := (1 + (h 75 13))) (by decide +kernel) l129 (by decide) (by first | decide | omega) (by first | decide | omega) ?_
              refine x_putI (np := 44) (x := 717) (f := 13) (by decide +kernel) (by decide +kernel) (by first | decide | omega) (Or.inl (by decide)) ?_
              have j151 := jU (e := 13) (v := (1 + (h 75 13))) 0 j143 rg_75_13_0_1 (by first | decide | omega) (by first | decide | omega) (by first | decide | omega)
              have f153 := jF (e := 13) (v := (1 + (h 75 13))) 0 f145 rg_75_13_0_1 (by first | decide | omega) (by first | decide | omega) (by decide)
              generalize e152 : x_up h142 75 13 (1 + (h 75 13)) = h150 at j151 f153 ⊢
              refine x_retV (np := 45) (x := 0) (by decide +kernel) (by decide +kernel) ⟨rfl, ?_⟩
              have q154 : h150 75 13 = (1 + (h 75 13)) := by rw [← e152]; exact x_up_at
              refine x_iload (np := 121) (x := 1) (by decide +kernel) rfl (by decide) ?_
              refine x_ifz (k := 2) (tg := 128) (np := 124) (by decide +kernel) (by decide) (by decide) (fun q155 => ?_) (fun q156 => ?_)
              · have q155 : 2147483653 < 2147483648 := q155
                exfalso; omega
              have q156 : ¬ (2147483653 < 2147483648) := q156
              refine x_const (np := 125) (x := 9223372043297226753) (a := 2147483649) (by decide +kernel) (by decide) (by decide) ?_
              refine x_goto (np := 128) (x := 129) (by decide +kernel) ?_
              have q157 : h150 75 13 = (1 + (h 75 13)) := by rw [← e152]; exact x_up_at
              have q158 : h150 75 7 = h142 75 7 := by rw [← e152]; exact x_up_i (by first | decide | omega)
              have q159 : h142 75 7 = h133 75 7 := by rw [← e144]; exact x_up_k (by decide)
              have q160 : h133 75 7 = h6 75 7 := by rw [← e135]; exact x_up_k (by decide)
              have q161 : h150 75 7 = h142 75 7 := by rw [← e152]; exact x_up_i (by first | decide | omega)
              have q162 : h142 75 7 = h133 75 7 := by rw [← e144]; exact x_up_k (by decide)
              have q163 : h133 75 7 = h6 75 7 := by rw [← e135]; exact x_up_k (by decide)
              have q164 : h150 75 13 = (1 + (h 75 13)) := by rw [← e152]; exact x_up_at
              have k168 : Kp h h6 (h 75 13 - 2147483648) := Kp.fr Kp.refl f8 (by first | decide | omega) (by decide)
              have k167 : Kp h h133 (h 75 13 - 2147483648) := by rw [← e135]; exact Kp.up k168 (by first | decide | omega) (fun i hi => by first | decide | omega)
              have k166 : Kp h h142 (h 75 13 - 2147483648) := by rw [← e144]; exact Kp.up k167 (by first | decide | omega) (fun i hi => by first | decide | omega)
              have k165 : Kp h h150 (h 75 13 - 2147483648) := by rw [← e152]; exact Kp.oth k166 (by decide)
              have q169 : h150 75 13 = (1 + (h 75 13)) := by rw [← e152]; exact x_up_at
              have q171 : h150 76 (1152 + 2 * u130) = h142 76 (1152 + 2 * u130) := by rw [← e152]; exact x_up_k (by decide)
              have q172 : h142 76 (1152 + 2 * u130) = h133 76 (1152 + 2 * u130) := by rw [← e144]; exact x_up_i (by first | decide | omega)
              have q173 : h133 76 (1152 + 2 * u130) = 2147483653 := by rw [← e135]; exact x_up_at
              have s170 : Seg (sg h150) u130 (u130 + 1) := Seg.push (show 2147483648 ≤ h150 76 (1152 + 2 * u130) by first | decide | omega) (show h150 76 (1152 + 2 * u130) ≤ 2147483656 by first | decide | omega)
              have s174 : Seg (sg h150) (h 75 13 - 2147483648) (h150 75 13 - 2147483648) := Seg.cast (Seg.kp s170 Kp.refl) (by first | decide | omega) (by first | decide | omega)
              have w175 : ¬ Wd tB tN 2 (sk tB tN (h 75 7)) := by rw [← c13]; exact Wd.no (by decide) (Is.no c27 (by first | decide | omega)) c14
              have w176 : ¬ Wd tB tN 27 (sk tB tN (h 75 7)) := by rw [← c13]; exact Wd.no (by decide) (Is.no c36 (by first | decide | omega)) c14
              have w177 : ¬ Wd tB tN 5 (sk tB tN (h 75 7)) := by rw [← c13]; exact Wd.no (by decide) (Is.no c45 (by first | decide | omega)) c14
              have w178 : ¬ Wd tB tN 28 (sk tB tN (h 75 7)) := by rw [← c13]; exact Wd.no (by decide) (Is.no c54 (by first | decide | omega)) c14
              have w179 : ¬ Wd tB tN 29 (sk tB tN (h 75 7)) := by rw [← c13]; exact Wd.no (by decide) (Is.no c63 (by first | decide | omega)) c14
              have y180 := Is.yes c72 (by first | decide | omega)
              have w181 : Wd tB tN 30 (sk tB tN (h 75 7)) := by rw [← c13]; exact Wd.of' (by decide) y180 c14
              have q183 : h150 75 7 = h142 75 7 := by rw [← e152]; exact x_up_i (by first | decide | omega)
              have q184 : h142 75 7 = h133 75 7 := by rw [← e144]; exact x_up_k (by decide)
              have q185 : h133 75 7 = h6 75 7 := by rw [← e135]; exact x_up_k (by decide)
              have e182 : sk tB tN (h6 75 7) = sk tB tN (sk tB tN (h 75 7) + iv_tl 30) := by rw [← c13, ← y180.1]
              have q186 : h150 75 7 = h142 75 7 := by rw [← e152]; exact x_up_i (by first | decide | omega)
              have q187 : h142 75 7 = h133 75 7 := by rw [← e144]; exact x_up_k (by decide)
              have q188 : h133 75 7 = h6 75 7 := by rw [← e135]; exact x_up_k (by decide)
              refine x_retI (np := 130) (x := 0) (by decide +kernel) (by decide) (Or.inr ⟨by decide +kernel, by first | decide | omega, by first | decide | omega⟩) ⟨_, rfl, (by decide), ?_⟩
              exact ⟨j151, f153, (by first | decide | omega), (fun z => by first | decide | omega), (fun z => by first | decide | omega), (fun z => by first | decide | omega), k165, (fun _ => s174), (fun l => gP_wd (i := 30) (by unfold six; decide) w181 rfl e182 (by first | decide | omega) (congrArg (sk tB tN) (show h6 75 7 = h150 75 7 by first | decide | omega)))⟩
            have q67 : ¬ (v59 = 2147483648) := q67
            have b189 := c62 (by first | decide | omega)
            refine x_const (np := 96) (x := 9223372056182128644) (a := 2147483652) (by decide +kernel) (by decide) (by decide) ?_
            refine x_goto (np := 99) (x := 113) (by decide +kernel) ?_
            refine x_istore (np := 114) (x := 1) (lo' := [x_r 75, iv_c 2147483652]) (by decide +kernel) (by decide) (Nat.le_of_ble_eq_true rfl) rfl ?_
            refine x_aload (np := 115) (x := 0) (by decide +kernel) rfl (x_nc_le (by decide)) ?_
            refine x_iload (np := 116) (x := 1) (by decide +kernel) rfl (by decide) ?_
            refine x_const (np := 117) (x := 9223372039002259456) (a := 2147483648) (by decide +kernel) (by decide) (by decide) ?_
            refine x_nV (t := 6) (mj := 187) (n := 3) (rc := 12) (ml := 3) (nr := 0) (np := 120) (as := [x_r 75, iv_c 2147483652, iv_c 2147483648]) (rest := []) (lo1 := [x_r 75, iv_c 2147483652, iv_c 2147483648]) (by decide +kernel) (by decide) (by decide +kernel) (x_rb_of (by decide +kernel)) rfl rfl (x_wr (by decide) (x_wi (by decide) (x_wi (by decide) x_wn))) x_wn (by decide) rfl ?_
            refine x_aload (np := 1) (x := 0) (by decide +kernel) rfl (x_nc_le (by decide)) ?_
            have q190 : h6 75 1 = 76 := by have z := jB (e := 1) 0 j7 rg_75_1_0_1 (by decide) (by decide); omega
            refine x_getR (np := 4) (x := 705) (f := 1) (q := 76) (by decide +kernel) (by decide) (by decide +kernel) q190 ?_
            refine x_const (np := 7) (x := 9223376986804585600) (a := 2147484800) (by decide +kernel) (by decide) (by decide) ?_
            refine x_const (np := 8) (x := 9223372047592194050) (a := 2147483650) (by decide +kernel) (by decide) (by decide) ?_
            refine x_aload (np := 9) (x := 0) (by decide +kernel) rfl (x_nc_le (by decide)) ?_
            have q191 : h6 75 13 = h 75 13 := jK 0 f8 rg_75_13_0_1 (by first | decide | omega) (by first | decide | omega) (by decide)
            refine x_getC (np := 12) (x := 717) (f := 13) (q := (h 75 13)) (by decide +kernel) (by decide) (by decide +kernel) q191 (fun l192 => ?_)
            obtain ⟨u193, q194⟩ : ∃ z, (h 75 13) = 2147483648 + z := ⟨(h 75 13) - 2147483648, by first | decide | omega⟩
            refine x_imul (np := 13) (x := 0) (i := 2) (j := u193) (v := (2147483648 + 2 * u193)) (by decide +kernel) (by first | decide | omega) (by first | decide | omega) (by first | decide | omega) (by first | decide | omega) (by decide) l192 ?_
            refine x_iadd (np := 14) (x := 0) (v := (2147484800 + 2 * u193)) (by decide +kernel) (by decide) (by first | decide | omega) (by first | decide | omega) (by first | decide | omega) ?_
            refine x_iload (np := 15) (x := 1) (by decide +kernel) rfl (by decide) ?_
            refine x_ast (np := 16) (x := 0) (kd := 1) (n := 1952) (i := (1152 + 2 * u193)) (by decide +kernel) (Or.inl rfl) (by decide +kernel) (by first | decide | omega) (by first | decide | omega) (by decide) (by decide) (fun z => absurd z (by decide)) ?_
            have j197 := jU (e := (1152 + 2 * u193)) (v := 2147483652) u193 j7 rg_76_1152_2_391 (by first | decide | omega) (by first | decide | omega) (by first | decide | omega)
            have f199 := jF (e := (1152 + 2 * u193)) (v := 2147483652) u193 f15 rg_76_1152_2_391 (by first | decide | omega) (by first | decide | omega) (by decide)
            generalize e198 : x_up h6 76 (1152 + 2 * u193) 2147483652 = h196 at j197 f199 ⊢
            refine x_aload (np := 17) (x := 0) (by decide +kernel) rfl (x_nc_le (by decide)) ?_
            have q200 : h196 75 1 = 76 := by have z := jB (e := 1) 0 j197 rg_75_1_0_1 (by decide) (by decide); omega
            refine x_getR (np := 20) (x := 705) (f := 1) (q := 76) (by decide +kernel) (by decide) (by decide +kernel) q200 ?_
            refine x_const (np := 23) (x := 9223376986804585600) (a := 2147484800) (by decide +kernel) (by decide) (by decide) ?_
            refine x_const (np := 24) (x := 9223372047592194050) (a := 2147483650) (by decide +kernel) (by decide) (by decide) ?_
            refine x_aload (np := 25) (x := 0) (by decide +kernel) rfl (x_nc_le (by decide)) ?_
            have q201 : h196 75 13 = h6 75 13 := by rw [← e198]; exact x_up_k (by decide)
            have q202 : h6 75 13 = h 75 13 := jK 0 f8 rg_75_13_0_1 (by first | decide | omega) (by first | decide | omega) (by decide)
            refine x_getC (np := 28) (x := 717) (f := 13) (q := (h 75 13)) (by decide +kernel) (by decide) (by decide +kernel) (q201.trans q202) (fun l203 => ?_)
            refine x_imul (np := 29) (x := 0) (i := 2) (j := u193) (v := (2147483648 + 2 * u193)) (by decide +kernel) (by first | decide | omega) (by first | decide | omega) (by first | decide | omega) (by first | decide | omega) (by decide) l192 ?_
            refine x_iadd (np := 30) (x := 0) (v := (2147484800 + 2 * u193)) (by decide +kernel) (by decide) (by first | decide | omega) (by first | decide | omega) (by first | decide | omega) ?_
            refine x_const (np := 31) (x := 9223372043297226753) (a := 2147483649) (by decide +kernel) (by decide) (by decide) ?_
            refine x_iadd (np := 32) (x := 0) (v := (2147484801 + 2 * u193)) (by decide +kernel) (by first | decide | omega) (by decide) (by first | decide | omega) (by first | decide | omega) ?_
            refine x_iload (np := 33) (x := 2) (by decide +kernel) rfl (by decide) ?_
            refine x_ast (np := 34) (x := 0) (kd := 1) (n := 1952) (i := (1153 + 2 * u193)) (by decide +kernel) (Or.inl rfl) (by decide +kernel) (by first | decide | omega) (by first | decide | omega) (by decide) (by decide) (fun z => absurd z (by decide)) ?_
            have j206 := jU (e := (1153 + 2 * u193)) (v := 2147483648) u193 j197 rg_76_1153_2_391 (by first | decide | omega) (by first | decide | omega) (by first | decide | omega)
            have f208 := jF (e := (1153 + 2 * u193)) (v := 2147483648) u193 f199 rg_76_1153_2_391 (by first | decide | omega) (by first | decide | omega) (by decide)
            generalize e207 : x_up h196 76 (1153 + 2 * u193) 2147483648 = h205 at j206 f208 ⊢
            refine x_aload (np := 35) (x := 0) (by decide +kernel) rfl (x_nc_le (by decide)) ?_
            refine x_dup (np := 36) (x := 0) (by decide +kernel) (by have z := x_nc_le (k := 75) (by decide); unfold x_r; omega) ?_
            have q209 : h205 75 13 = h196 75 13 := by rw [← e207]; exact x_up_k (by decide)
            have q210 : h196 75 13 = h6 75 13 := by rw [← e198]; exact x_up_k (by decide)
            have q211 : h6 75 13 = h 75 13 := jK 0 f8 rg_75_13_0_1 (by first | decide | omega) (by first | decide | omega) (by decide)
            refine x_getC (np := 39) (x := 717) (f := 13) (q := (h 75 13)) (by decide +kernel) (by decide) (by decide +kernel) ((q209.trans q210).trans q211) (fun l212 => ?_)
            refine x_const (np := 40) (x := 9223372043297226753) (a := 2147483649) (by decide +kernel) (by decide) (by decide) ?_
            refine x_iadd (np := 41) (x := 0) (v := (1 + (h 75 13))) (by decide +kernel) l192 (by decide) (by first | decide | omega) (by first | decide | omega) ?_
            refine x_putI (np := 44) (x := 717) (f := 13) (by decide +kernel) (by decide +kernel) (by first | decide | omega) (Or.inl (by decide)) ?_
            have j214 := jU (e := 13) (v := (1 + (h 75 13))) 0 j206 rg_75_13_0_1 (by first | decide | omega) (by first | decide | omega) (by first | decide | omega)
            have f216 := jF (e := 13) (v := (1 + (h 75 13))) 0 f208 rg_75_13_0_1 (by first | decide | omega) (by first | decide | omega) (by decide)
            generalize e215 : x_up h205 75 13 (1 + (h 75 13)) = h213 at j214 f216 ⊢
            refine x_retV (np := 45) (x := 0) (by decide +kernel) (by decide +kernel) ⟨rfl, ?_⟩
            have q217 : h213 75 13 = (1 + (h 75 13)) := by rw [← e215]; exact x_up_at
            refine x_iload (np := 121) (x := 1) (by decide +kernel) rfl (by decide) ?_
            refine x_ifz (k := 2) (tg := 128) (np := 124) (by decide +kernel) (by decide) (by decide) (fun q218 => ?_) (fun q219 => ?_)
            · have q218 : 2147483652 < 2147483648 := q218
              exfalso; omega
            have q219 : ¬ (2147483652 < 2147483648) := q219
            refine x_const (np := 125) (x := 9223372043297226753) (a := 2147483649) (by decide +kernel) (by decide) (by decide) ?_
            refine x_goto (np := 128) (x := 129) (by decide +kernel) ?_
            have q220 : h213 75 13 = (1 + (h 75 13)) := by rw [← e215]; exact x_up_at
            have q221 : h213 75 7 = h205 75 7 := by rw [← e215]; exact x_up_i (by first | decide | omega)
            have q222 : h205 75 7 = h196 75 7 := by rw [← e207]; exact x_up_k (by decide)
            have q223 : h196 75 7 = h6 75 7 := by rw [← e198]; exact x_up_k (by decide)
            have q224 : h213 75 7 = h205 75 7 := by rw [← e215]; exact x_up_i (by first | decide | omega)
            have q225 : h205 75 7 = h196 75 7 := by rw [← e207]; exact x_up_k (by decide)
            have q226 : h196 75 7 = h6 75 7 := by rw [← e198]; exact x_up_k (by decide)
            have q227 : h213 75 13 = (1 + (h 75 13)) := by rw [← e215]; exact x_up_at
            have k231 : Kp h h6 (h 75 13 - 2147483648) := Kp.fr Kp.refl f8 (by first | decide | omega) (by decide)
            have k230 : Kp h h196 (h 75 13 - 2147483648) := by rw [← e198]; exact Kp.up k231 (by first | decide | omega) (fun i hi => by first | decide | omega)
            have k229 : Kp h h205 (h 75 13 - 2147483648) := by rw [← e207]; exact Kp.up k230 (by first | decide | omega) (fun i hi => by first | decide | omega)
            have k228 : Kp h h213 (h 75 13 - 2147483648) := by rw [← e215]; exact Kp.oth k229 (by decide)
            have q232 : h213 75 13 = (1 + (h 75 13)) := by rw [← e215]; exact x_up_at
            have q234 : h213 76 (1152 + 2 * u193) = h205 76 (1152 + 2 * u193) := by rw [← e215]; exact x_up_k (by decide)
            have q235 : h205 76 (1152 + 2 * u193) = h196 76 (1152 + 2 * u193) := by rw [← e207]; exact x_up_i (by first | decide | omega)
            have q236 : h196 76 (1152 + 2 * u193) = 2147483652 := by rw [← e198]; exact x_up_at
            have s233 : Seg (sg h213) u193 (u193 + 1) := Seg.push (show 2147483648 ≤ h213 76 (1152 + 2 * u193) by first | decide | omega) (show h213 76 (1152 + 2 * u193) ≤ 2147483656 by first | decide | omega)
            have s237 : Seg (sg h213) (h 75 13 - 2147483648) (h213 75 13 - 2147483648) := Seg.cast (Seg.kp s233 Kp.refl) (by first | decide | omega) (by first | decide | omega)
            have w238 : ¬ Wd tB tN 2 (sk tB tN (h 75 7)) := by rw [← c13]; exact Wd.no (by decide) (Is.no c27 (by first | decide | omega)) c14
            have w239 : ¬ Wd tB tN 27 (sk tB tN (h 75 7)) := by rw [← c13]; exact Wd.no (by decide) (Is.no c36 (by first | decide | omega)) c14
            have w240 : ¬ Wd tB tN 5 (sk tB tN (h 75 7)) := by rw [← c13]; exact Wd.no (by decide) (Is.no c45 (by first | decide | omega)) c14
            have w241 : ¬ Wd tB tN 28 (sk tB tN (h 75 7)) := by rw [← c13]; exact Wd.no (by decide) (Is.no c54 (by first | decide | omega)) c14
            have y242 := Is.yes c63 (by first | decide | omega)
            have w243 : Wd tB tN 29 (sk tB tN (h 75 7)) := by rw [← c13]; exact Wd.of' (by decide) y242 c14
            have q245 : h213 75 7 = h205 75 7 := by rw [← e215]; exact x_up_i (by first | decide | omega)
            have q246 : h205 75 7 = h196 75 7 := by rw [← e207]; exact x_up_k (by decide)
            have q247 : h196 75 7 = h6 75 7 := by rw [← e198]; exact x_up_k (by decide)
            have e244 : sk tB tN (h6 75 7) = sk tB tN (sk tB tN (h 75 7) + iv_tl 29) := by rw [← c13, ← y242.1]
            have q248 : h213 75 7 = h205 75 7 := by rw [← e215]; exact x_up_i (by first | decide | omega)
            have q249 : h205 75 7 = h196 75 7 := by rw [← e207]; exact x_up_k (by decide)
            have q250 : h196 75 7 = h6 75 7 := by rw [← e198]; exact x_up_k (by decide)
            refine x_retI (np := 130) (x := 0) (by decide +kernel) (by decide) (Or.inr ⟨by decide +kernel, by first | decide | omega, by first | decide | omega⟩) ⟨_, rfl, (by decide), ?_⟩
            exact ⟨j214, f216, (by first | decide | omega), (fun z => by first | decide | omega), (fun z => by first | decide | omega), (fun z => by first | decide | omega), k228, (fun _ => s237), (fun l => gP_wd (i := 29) (by unfold six; decide) w243 rfl e244 (by first | decide | omega) (congrArg (sk tB tN) (show h6 75 7 = h213 75 7 by first | decide | omega)))⟩
          have q58 : ¬ (v50 = 2147483648) := q58
          have b251 := c53 (by first | decide | omega)
          refine x_const (np := 83) (x := 9223372051887161347) (a := 2147483651) (by decide +kernel) (by decide) (by decide) ?_
          refine x_goto (np := 86) (x := 113) (by decide +kernel) ?_
          refine x_istore (np := 114) (x := 1) (lo' := [x_r 75, iv_c 2147483651]) (by decide +kernel) (by decide) (Nat.le_of_ble_eq_true rfl) rfl ?_
          refine x_aload (np := 115) (x := 0) (by decide +kernel) rfl (x_nc_le (by decide)) ?_
          refine x_iload (np := 116) (x := 1) (by decide +kernel) rfl (by decide) ?_
          refine x_const (np := 117) (x := 9223372039002259456) (a := 2147483648) (by decide +kernel) (by decide) (by decide) ?_
          refine x_nV (t := 6) (mj := 187) (n := 3) (rc := 12) (ml := 3) (nr := 0) (np := 120) (as := [x_r 75, iv_c 2147483651, iv_c 2147483648]) (rest := []) (lo1 := [x_r 75, iv_c 2147483651, iv_c 2147483648]) (by decide +kernel) (by decide) (by decide +kernel) (x_rb_of (by decide +kernel)) rfl rfl (x_wr (by decide) (x_wi (by decide) (x_wi (by decide) x_wn))) x_wn (by decide) rfl ?_
          refine x_aload (np := 1) (x := 0) (by decide +kernel) rfl (x_nc_le (by decide)) ?_
          have q252 : h6 75 1 = 76 := by have z := jB (e := 1) 0 j7 rg_75_1_0_1 (by decide) (by decide); omega
          refine x_getR (np := 4) (x := 705) (f := 1) (q := 76) (by decide +kernel) (by decide) (by decide +kernel) q252 ?_
          refine x_const (np := 7) (x := 9223376986804585600) (a := 2147484800) (by decide +kernel) (by decide) (by decide) ?_
          refine x_const (np := 8) (x := 9223372047592194050) (a := 2147483650) (by decide +kernel) (by decide) (by decide) ?_
          refine x_aload (np := 9) (x := 0) (by decide +kernel) rfl (x_nc_le (by decide)) ?_
          have q253 : h6 75 13 = h 75 13 := jK 0 f8 rg_75_13_0_1 (by first | decide | omega) (by first | decide | omega) (by decide)
          refine x_getC (np := 12) (x := 717) (f := 13) (q := (h 75 13)) (by decide +kernel) (by decide) (by decide +kernel) q253 (fun l254 => ?_)
          obtain ⟨u255, q256⟩ : ∃ z, (h 75 13) = 2147483648 + z := ⟨(h 75 13) - 2147483648, by first | decide | omega⟩
          refine x_imul (np := 13) (x := 0) (i := 2) (j := u255) (v := (2147483648 + 2 * u255)) (by decide +kernel) (by first | decide | omega) (by first | decide | omega) (by first | decide | omega) (by first | decide | omega) (by decide) l254 ?_
          refine x_iadd (np := 14) (x := 0) (v := (2147484800 + 2 * u255)) (by decide +kernel) (by decide) (by first | decide | omega) (by first | decide | omega) (by first | decide | omega) ?_
          refine x_iload (np := 15) (x := 1) (by decide +kernel) rfl (by decide) ?_
          refine x_ast (np := 16) (x := 0) (kd := 1) (n := 1952) (i := (1152 + 2 * u255)) (by decide +kernel) (Or.inl rfl) (by decide +kernel) (by first | decide | omega) (by first | decide | omega) (by decide) (by decide) (fun z => absurd z (by decide)) ?_
          have j259 := jU (e := (1152 + 2 * u255)) (v := 2147483651) u255 j7 rg_76_1152_2_392 (by first | decide | omega) (by first | decide | omega) (by first | decide | omega)
          have f261 := jF (e := (1152 + 2 * u255)) (v := 2147483651) u255 f15 rg_76_1152_2_392 (by first | decide | omega) (by first | decide | omega) (by decide)
          generalize e260 : x_up h6 76 (1152 + 2 * u255) 2147483651 = h258 at j259 f261 ⊢
          refine x_aload (np := 17) (x := 0) (by decide +kernel) rfl (x_nc_le (by decide)) ?_
          have q262 : h258 75 1 = 76 := by have z := jB (e := 1) 0 j259 rg_75_1_0_1 (by decide) (by decide); omega
          refine x_getR (np := 20) (x := 705) (f := 1) (q := 76) (by decide +kernel) (by decide) (by decide +kernel) q262 ?_
          refine x_const (np := 23) (x := 9223376986804585600) (a := 2147484800) (by decide +kernel) (by decide) (by decide) ?_
          refine x_const (np := 24) (x := 9223372047592194050) (a := 2147483650) (by decide +kernel) (by decide) (by decide) ?_
          refine x_aload (np := 25) (x := 0) (by decide +kernel) rfl (x_nc_le (by decide)) ?_
          have q263 : h258 75 13 = h6 75 13 := by rw [← e260]; exact x_up_k (by decide)
          have q264 : h6 75 13 = h 75 13 := jK 0 f8 rg_75_13_0_1 (by first | decide | omega) (by first | decide | omega) (by decide)
          refine x_getC (np := 28) (x := 717) (f := 13) (q := (h 75 13)) (by decide +kernel) (by decide) (by decide +kernel) (q263.trans q264) (fun l265 => ?_)
          refine x_imul (np := 29) (x := 0) (i := 2) (j := u255) (v := (2147483648 + 2 * u255)) (by decide +kernel) (by first | decide | omega) (by first | decide | omega) (by first | decide | omega) (by first | decide | omega) (by decide) l254 ?_
          refine x_iadd (np := 30) (x := 0) (v := (2147484800 + 2 * u255)) (by decide +kernel) (by decide) (by first | decide | omega) (by first | decide | omega) (by first | decide | omega) ?_
          refine x_const (np := 31) (x := 9223372043297226753) (a := 2147483649) (by decide +kernel) (by decide) (by decide) ?_
          refine x_iadd (np := 32) (x := 0) (v := (2147484801 + 2 * u255)) (by decide +kernel) (by first | decide | omega) (by decide) (by first | decide | omega) (by first | decide | omega) ?_
          refine x_iload (np := 33) (x := 2) (by decide +kernel) rfl (by decide) ?_
          refine x_ast (np := 34) (x := 0) (kd := 1) (n := 1952) (i := (1153 + 2 * u255)) (by decide +kernel) (Or.inl rfl) (by decide +kernel) (by first | decide | omega) (by first | decide | omega) (by decide) (by decide) (fun z => absurd z (by decide)) ?_
          have j268 := jU (e := (1153 + 2 * u255)) (v := 2147483648) u255 j259 rg_76_1153_2_392 (by first | decide | omega) (by first | decide | omega) (by first | decide | omega)
          have f270 := jF (e := (1153 + 2 * u255)) (v := 2147483648) u255 f261 rg_76_1153_2_392 (by first | decide | omega) (by first | decide | omega) (by decide)
          generalize e269 : x_up h258 76 (1153 + 2 * u255) 2147483648 = h267 at j268 f270 ⊢
          refine x_aload (np := 35) (x := 0) (by decide +kernel) rfl (x_nc_le (by decide)) ?_
          refine x_dup (np := 36) (x := 0) (by decide +kernel) (by have z := x_nc_le (k := 75) (by decide); unfold x_r; omega) ?_
          have q271 : h267 75 13 = h258 75 13 := by rw [← e269]; exact x_up_k (by decide)
          have q272 : h258 75 13 = h6 75 13 := by rw [← e260]; exact x_up_k (by decide)
          have q273 : h6 75 13 = h 75 13 := jK 0 f8 rg_75_13_0_1 (by first | decide | omega) (by first | decide | omega) (by decide)
          refine x_getC (np := 39) (x := 717) (f := 13) (q := (h 75 13)) (by decide +kernel) (by decide) (by decide +kernel) ((q271.trans q272).trans q273) (fun l274 => ?_)
          refine x_const (np := 40) (x := 9223372043297226753) (a := 2147483649) (by decide +kernel) (by decide) (by decide) ?_
          refine x_iadd (np := 41) (x := 0) (v := (1 + (h 75 13))) (by decide +kernel) l254 (by decide) (by first | decide | omega) (by first | decide | omega) ?_
          refine x_putI (np := 44) (x := 717) (f := 13) (by decide +kernel) (by decide +kernel) (by first | decide | omega) (Or.inl (by decide)) ?_
          have j276 := jU (e := 13) (v := (1 + (h 75 13))) 0 j268 rg_75_13_0_1 (by first | decide | omega) (by first | decide | omega) (by first | decide | omega)
          have f278 := jF (e := 13) (v := (1 + (h 75 13))) 0 f270 rg_75_13_0_1 (by first | decide | omega) (by first | decide | omega) (by decide)
          generalize e277 : x_up h267 75 13 (1 + (h 75 13)) = h275 at j276 f278 ⊢
          refine x_retV (np := 45) (x := 0) (by decide +kernel) (by decide +kernel) ⟨rfl, ?_⟩
          have q279 : h275 75 13 = (1 + (h 75 13)) := by rw [← e277]; exact x_up_at
          refine x_iload (np := 121) (x := 1) (by decide +kernel) rfl (by decide) ?_
          refine x_ifz (k := 2) (tg := 128) (np := 124) (by decide +kernel) (by decide) (by decide) (fun q280 => ?_) (fun q281 => ?_)
          · have q280 : 2147483651 < 2147483648 := q280
            exfalso; omega
          have q281 : ¬ (2147483651 < 2147483648) := q281
          refine x_const (np := 125) (x := 9223372043297226753) (a := 2147483649) (by decide +kernel) (by decide) (by decide) ?_
          refine x_goto (np := 128) (x := 129) (by decide +kernel) ?_
          have q282 : h275 75 13 = (1 + (h 75 13)) := by rw [← e277]; exact x_up_at
          have q283 : h275 75 7 = h267 75 7 := by rw [← e277]; exact x_up_i (by first | decide | omega)
          have q284 : h267 75 7 = h258 75 7 := by rw [← e269]; exact x_up_k (by decide)
          have q285 : h258 75 7 = h6 75 7 := by rw [← e260]; exact x_up_k (by decide)
          have q286 : h275 75 7 = h267 75 7 := by rw [← e277]; exact x_up_i (by first | decide | omega)
          have q287 : h267 75 7 = h258 75 7 := by rw [← e269]; exact x_up_k (by decide)
          have q288 : h258 75 7 = h6 75 7 := by rw [← e260]; exact x_up_k (by decide)
          have q289 : h275 75 13 = (1 + (h 75 13)) := by rw [← e277]; exact x_up_at
          have k293 : Kp h h6 (h 75 13 - 2147483648) := Kp.fr Kp.refl f8 (by first | decide | omega) (by decide)
          have k292 : Kp h h258 (h 75 13 - 2147483648) := by rw [← e260]; exact Kp.up k293 (by first | decide | omega) (fun i hi => by first | decide | omega)
          have k291 : Kp h h267 (h 75 13 - 2147483648) := by rw [← e269]; exact Kp.up k292 (by first | decide | omega) (fun i hi => by first | decide | omega)
          have k290 : Kp h h275 (h 75 13 - 2147483648) := by rw [← e277]; exact Kp.oth k291 (by decide)
          have q294 : h275 75 13 = (1 + (h 75 13)) := by rw [← e277]; exact x_up_at
          have q296 : h275 76 (1152 + 2 * u255) = h267 76 (1152 + 2 * u255) := by rw [← e277]; exact x_up_k (by decide)
          have q297 : h267 76 (1152 + 2 * u255) = h258 76 (1152 + 2 * u255) := by rw [← e269]; exact x_up_i (by first | decide | omega)
          have q298 : h258 76 (1152 + 2 * u255) = 2147483651 := by rw [← e260]; exact x_up_at
          have s295 : Seg (sg h275) u255 (u255 + 1) := Seg.push (show 2147483648 ≤ h275 76 (1152 + 2 * u255) by first | decide | omega) (show h275 76 (1152 + 2 * u255) ≤ 2147483656 by first | decide | omega)
          have s299 : Seg (sg h275) (h 75 13 - 2147483648) (h275 75 13 - 2147483648) := Seg.cast (Seg.kp s295 Kp.refl) (by first | decide | omega) (by first | decide | omega)
          have w300 : ¬ Wd tB tN 2 (sk tB tN (h 75 7)) := by rw [← c13]; exact Wd.no (by decide) (Is.no c27 (by first | decide | omega)) c14
          have w301 : ¬ Wd tB tN 27 (sk tB tN (h 75 7)) := by rw [← c13]; exact Wd.no (by decide) (Is.no c36 (by first | decide | omega)) c14
          have w302 : ¬ Wd tB tN 5 (sk tB tN (h 75 7)) := by rw [← c13]; exact Wd.no (by decide) (Is.no c45 (by first | decide | omega)) c14
          have y303 := Is.yes c54 (by first | decide | omega)
          have w304 : Wd tB tN 28 (sk tB tN (h 75 7)) := by rw [← c13]; exact Wd.of' (by decide) y303 c14
          have q306 : h275 75 7 = h267 75 7 := by rw [← e277]; exact x_up_i (by first | decide | omega)
          have q307 : h267 75 7 = h258 75 7 := by rw [← e269]; exact x_up_k (by decide)
          have q308 : h258 75 7 = h6 75 7 := by rw [← e260]; exact x_up_k (by decide)
          have e305 : sk tB tN (h6 75 7) = sk tB tN (sk tB tN (h 75 7) + iv_tl 28) := by rw [← c13, ← y303.1]
          have q309 : h275 75 7 = h267 75 7 := by rw [← e277]; exact x_up_i (by first | decide | omega)
          have q310 : h267 75 7 = h258 75 7 := by rw [← e269]; exact x_up_k (by decide)
          have q311 : h258 75 7 = h6 75 7 := by rw [← e260]; exact x_up_k (by decide)
          refine x_retI (np := 130) (x := 0) (by decide +kernel) (by decide) (Or.inr ⟨by decide +kernel, by first | decide | omega, by first | decide | omega⟩) ⟨_, rfl, (by decide), ?_⟩
          exact ⟨j276, f278, (by first | decide | omega), (fun z => by first | decide | omega), (fun z => by first | decide | omega), (fun z => by first | decide | omega), k290, (fun _ => s299), (fun l => gP_wd (i := 28) (by unfold six; decide) w304 rfl e305 (by first | decide | omega) (congrArg (sk tB tN) (show h6 75 7 = h275 75 7 by first | decide | omega)))⟩
        have q49 : ¬ (v41 = 2147483648) := q49
        have b312 := c44 (by first | decide | omega)
        refine x_const (np := 70) (x := 9223372047592194050) (a := 2147483650) (by decide +kernel) (by decide) (by decide) ?_
        refine x_goto (np := 73) (x := 113) (by decide +kernel) ?_
        refine x_istore (np := 114) (x := 1) (lo' := [x_r 75, iv_c 2147483650]) (by decide +kernel) (by decide) (Nat.le_of_ble_eq_true rfl) rfl ?_
        refine x_aload (np := 115) (x := 0) (by decide +kernel) rfl (x_nc_le (by decide)) ?_
        refine x_iload (np := 116) (x := 1) (by decide +kernel) rfl (by decide) ?_
        refine x_const (np := 117) (x := 9223372039002259456) (a := 2147483648) (by decide +kernel) (by decide) (by decide) ?_
        refine x_nV (t := 6) (mj := 187) (n := 3) (rc := 12) (ml := 3) (nr := 0) (np := 120) (as := [x_r 75, iv_c 2147483650, iv_c 2147483648]) (rest := []) (lo1 := [x_r 75, iv_c 2147483650, iv_c 2147483648]) (by decide +kernel) (by decide) (by decide +kernel) (x_rb_of (by decide +kernel)) rfl rfl (x_wr (by decide) (x_wi (by decide) (x_wi (by decide) x_wn))) x_wn (by decide) rfl ?_
        refine x_aload (np := 1) (x := 0) (by decide +kernel) rfl (x_nc_le (by decide)) ?_
        have q313 : h6 75 1 = 76 := by have z := jB (e := 1) 0 j7 rg_75_1_0_1 (by decide) (by decide); omega
        refine x_getR (np := 4) (x := 705) (f := 1) (q := 76) (by decide +kernel) (by decide) (by decide +kernel) q313 ?_
        refine x_const (np := 7) (x := 9223376986804585600) (a := 2147484800) (by decide +kernel) (by decide) (by decide) ?_
        refine x_const (np := 8) (x := 9223372047592194050) (a := 2147483650) (by decide +kernel) (by decide) (by decide) ?_
        refine x_aload (np := 9) (x := 0) (by decide +kernel) rfl (x_nc_le (by decide)) ?_
        have q314 : h6 75 13 = h 75 13 := jK 0 f8 rg_75_13_0_1 (by first | decide | omega) (by first | decide | omega) (by decide)
        refine x_getC (np := 12) (x := 717) (f := 13) (q := (h 75 13)) (by decide +kernel) (by decide) (by decide +kernel) q314 (fun l315 => ?_)
        obtain ⟨u316, q317⟩ : ∃ z, (h 75 13) = 2147483648 + z := ⟨(h 75 13) - 2147483648, by first | decide | omega⟩
        refine x_imul (np := 13) (x := 0) (i := 2) (j := u316) (v := (2147483648 + 2 * u316)) (by decide +kernel) (by first | decide | omega) (by first | decide | omega) (by first | decide | omega) (by first | decide | omega) (by decide) l315 ?_
        refine x_iadd (np := 14) (x := 0) (v := (2147484800 + 2 * u316)) (by decide +kernel) (by decide) (by first | decide | omega) (by first | decide | omega) (by first | decide | omega) ?_
        refine x_iload (np := 15) (x := 1) (by decide +kernel) rfl (by decide) ?_
        refine x_ast (np := 16) (x := 0) (kd := 1) (n := 1952) (i := (1152 + 2 * u316)) (by decide +kernel) (Or.inl rfl) (by decide +kernel) (by first | decide | omega) (by first | decide | omega) (by decide) (by decide) (fun z => absurd z (by decide)) ?_
        have j320 := jU (e := (1152 + 2 * u316)) (v := 2147483650) u316 j7 rg_76_1152_2_390 (by first | decide | omega) (by first | decide | omega) (by first | decide | omega)
        have f322 := jF (e := (1152 + 2 * u316)) (v := 2147483650) u316 f15 rg_76_1152_2_390 (by first | decide | omega) (by first | decide | omega) (by decide)
        generalize e321 : x_up h6 76 (1152 + 2 * u316) 2147483650 = h319 at j320 f322 ⊢
        refine x_aload (np := 17) (x := 0) (by decide +kernel) rfl (x_nc_le (by decide)) ?_
        have q323 : h319 75 1 = 76 := by have z := jB (e := 1) 0 j320 rg_75_1_0_1 (by decide) (by decide); omega
        refine x_getR (np := 20) (x := 705) (f := 1) (q := 76) (by decide +kernel) (by decide) (by decide +kernel) q323 ?_
        refine x_const (np := 23) (x := 9223376986804585600) (a := 2147484800) (by decide +kernel) (by decide) (by decide) ?_
        refine x_const (np := 24) (x := 9223372047592194050) (a := 2147483650) (by decide +kernel) (by decide) (by decide) ?_
        refine x_aload (np := 25) (x := 0) (by decide +kernel) rfl (x_nc_le (by decide)) ?_
        have q324 : h319 75 13 = h6 75 13 := by rw [← e321]; exact x_up_k (by decide)
        have q325 : h6 75 13 = h 75 13 := jK 0 f8 rg_75_13_0_1 (by first | decide | omega) (by first | decide | omega) (by decide)
        refine x_getC (np := 28) (x := 717) (f := 13) (q := (h 75 13)) (by decide +kernel) (by decide) (by decide +kernel) (q324.trans q325) (fun l326 => ?_)
        refine x_imul (np := 29) (x := 0) (i := 2) (j := u316) (v := (2147483648 + 2 * u316)) (by decide +kernel) (by first | decide | omega) (by first | decide | omega) (by first | decide | omega) (by first | decide | omega) (by decide) l315 ?_
        refine x_iadd (np := 30) (x := 0) (v := (2147484800 + 2 * u316)) (by decide +kernel) (by decide) (by first | decide | omega) (by first | decide | omega) (by first | decide | omega) ?_
        refine x_const (np := 31) (x := 9223372043297226753) (a := 2147483649) (by decide +kernel) (by decide) (by decide) ?_
        refine x_iadd (np := 32) (x := 0) (v := (2147484801 + 2 * u316)) (by decide +kernel) (by first | decide | omega) (by decide) (by first | decide | omega) (by first | decide | omega) ?_
        refine x_iload (np := 33) (x := 2) (by decide +kernel) rfl (by decide) ?_
        refine x_ast (np := 34) (x := 0) (kd := 1) (n := 1952) (i := (1153 + 2 * u316)) (by decide +kernel) (Or.inl rfl) (by decide +kernel) (by first | decide | omega) (by first | decide | omega) (by decide) (by decide) (fun z => absurd z (by decide)) ?_
        have j329 := jU (e := (1153 + 2 * u316)) (v := 2147483648) u316 j320 rg_76_1153_2_390 (by first | decide | omega) (by first | decide | omega) (by first | decide | omega)
        have f331 := jF (e := (1153 + 2 * u316)) (v := 2147483648) u316 f322 rg_76_1153_2_390 (by first | decide | omega) (by first | decide | omega) (by decide)
        generalize e330 : x_up h319 76 (1153 + 2 * u316) 2147483648 = h328 at j329 f331 ⊢
        refine x_aload (np := 35) (x := 0) (by decide +kernel) rfl (x_nc_le (by decide)) ?_
        refine x_dup (np := 36) (x := 0) (by decide +kernel) (by have z := x_nc_le (k := 75) (by decide); unfold x_r; omega) ?_
        have q332 : h328 75 13 = h319 75 13 := by rw [← e330]; exact x_up_k (by decide)
        have q333 : h319 75 13 = h6 75 13 := by rw [← e321]; exact x_up_k (by decide)
        have q334 : h6 75 13 = h 75 13 := jK 0 f8 rg_75_13_0_1 (by first | decide | omega) (by first | decide | omega) (by decide)
        refine x_getC (np := 39) (x := 717) (f := 13) (q := (h 75 13)) (by decide +kernel) (by decide) (by decide +kernel) ((q332.trans q333).trans q334) (fun l335 => ?_)
        refine x_const (np := 40) (x := 9223372043297226753) (a := 2147483649) (by decide +kernel) (by decide) (by decide) ?_
        refine x_iadd (np := 41) (x := 0) (v := (1 + (h 75 13))) (by decide +kernel) l315 (by decide) (by first | decide | omega) (by first | decide | omega) ?_
        refine x_putI (np := 44) (x := 717) (f := 13) (by decide +kernel) (by decide +kernel) (by first | decide | omega) (Or.inl (by decide)) ?_
        have j337 := jU (e := 13) (v := (1 + (h 75 13))) 0 j329 rg_75_13_0_1 (by first | decide | omega) (by first | decide | omega) (by first | decide | omega)
        have f339 := jF (e := 13) (v := (1 + (h 75 13))) 0 f331 rg_75_13_0_1 (by first | decide | omega) (by first | decide | omega) (by decide)
        generalize e338 : x_up h328 75 13 (1 + (h 75 13)) = h336 at j337 f339 ⊢
        refine x_retV (np := 45) (x := 0) (by decide +kernel) (by decide +kernel) ⟨rfl, ?_⟩
        have q340 : h336 75 13 = (1 + (h 75 13)) := by rw [← e338]; exact x_up_at
        refine x_iload (np := 121) (x := 1) (by decide +kernel) rfl (by decide) ?_
        refine x_ifz (k := 2) (tg := 128) (np := 124) (by decide +kernel) (by decide) (by decide) (fun q341 => ?_) (fun q342 => ?_)
        · have q341 : 2147483650 < 2147483648 := q341
          exfalso; omega
        have q342 : ¬ (2147483650 < 2147483648) := q342
        refine x_const (np := 125) (x := 9223372043297226753) (a := 2147483649) (by decide +kernel) (by decide) (by decide) ?_
        refine x_goto (np := 128) (x := 129) (by decide +kernel) ?_
        have q343 : h336 75 13 = (1 + (h 75 13)) := by rw [← e338]; exact x_up_at
        have q344 : h336 75 7 = h328 75 7 := by rw [← e338]; exact x_up_i (by first | decide | omega)
        have q345 : h328 75 7 = h319 75 7 := by rw [← e330]; exact x_up_k (by decide)
        have q346 : h319 75 7 = h6 75 7 := by rw [← e321]; exact x_up_k (by decide)
        have q347 : h336 75 7 = h328 75 7 := by rw [← e338]; exact x_up_i (by first | decide | omega)
        have q348 : h328 75 7 = h319 75 7 := by rw [← e330]; exact x_up_k (by decide)
        have q349 : h319 75 7 = h6 75 7 := by rw [← e321]; exact x_up_k (by decide)
        have q350 : h336 75 13 = (1 + (h 75 13)) := by rw [← e338]; exact x_up_at
        have k354 : Kp h h6 (h 75 13 - 2147483648) := Kp.fr Kp.refl f8 (by first | decide | omega) (by decide)
        have k353 : Kp h h319 (h 75 13 - 2147483648) := by rw [← e321]; exact Kp.up k354 (by first | decide | omega) (fun i hi => by first | decide | omega)
        have k352 : Kp h h328 (h 75 13 - 2147483648) := by rw [← e330]; exact Kp.up k353 (by first | decide | omega) (fun i hi => by first | decide | omega)
        have k351 : Kp h h336 (h 75 13 - 2147483648) := by rw [← e338]; exact Kp.oth k352 (by decide)
        have q355 : h336 75 13 = (1 + (h 75 13)) := by rw [← e338]; exact x_up_at
        have q357 : h336 76 (1152 + 2 * u316) = h328 76 (1152 + 2 * u316) := by rw [← e338]; exact x_up_k (by decide)
        have q358 : h328 76 (1152 + 2 * u316) = h319 76 (1152 + 2 * u316) := by rw [← e330]; exact x_up_i (by first | decide | omega)
        have q359 : h319 76 (1152 + 2 * u316) = 2147483650 := by rw [← e321]; exact x_up_at
        have s356 : Seg (sg h336) u316 (u316 + 1) := Seg.push (show 2147483648 ≤ h336 76 (1152 + 2 * u316) by first | decide | omega) (show h336 76 (1152 + 2 * u316) ≤ 2147483656 by first | decide | omega)
        have s360 : Seg (sg h336) (h 75 13 - 2147483648) (h336 75 13 - 2147483648) := Seg.cast (Seg.kp s356 Kp.refl) (by first | decide | omega) (by first | decide | omega)
        have w361 : ¬ Wd tB tN 2 (sk tB tN (h 75 7)) := by rw [← c13]; exact Wd.no (by decide) (Is.no c27 (by first | decide | omega)) c14
        have w362 : ¬ Wd tB tN 27 (sk tB tN (h 75 7)) := by rw [← c13]; exact Wd.no (by decide) (Is.no c36 (by first | decide | omega)) c14
        have y363 := Is.yes c45 (by first | decide | omega)
        have w364 : Wd tB tN 5 (sk tB tN (h 75 7)) := by rw [← c13]; exact Wd.of' (by decide) y363 c14
        have q366 : h336 75 7 = h328 75 7 := by rw [← e338]; exact x_up_i (by first | decide | omega)
        have q367 : h328 75 7 = h319 75 7 := by rw [← e330]; exact x_up_k (by decide)
        have q368 : h319 75 7 = h6 75 7 := by rw [← e321]; exact x_up_k (by decide)
        have e365 : sk tB tN (h6 75 7) = sk tB tN (sk tB tN (h 75 7) + iv_tl 5) := by rw [← c13, ← y363.1]
        have q369 : h336 75 7 = h328 75 7 := by rw [← e338]; exact x_up_i (by first | decide | omega)
        have q370 : h328 75 7 = h319 75 7 := by rw [← e330]; exact x_up_k (by decide)
        have q371 : h319 75 7 = h6 75 7 := by rw [← e321]; exact x_up_k (by decide)
        refine x_retI (np := 130) (x := 0) (by decide +kernel) (by decide) (Or.inr ⟨by decide +kernel, by first | decide | omega, by first | decide | omega⟩) ⟨_, rfl, (by decide), ?_⟩
        exact ⟨j337, f339, (by first | decide | omega), (fun z => by first | decide | omega), (fun z => by first | decide | omega), (fun z => by first | decide | omega), k351, (fun _ => s360), (fun l => gP_wd (i := 5) (by unfold six; decide) w364 rfl e365 (by first | decide | omega) (congrArg (sk tB tN) (show h6 75 7 = h336 75 7 by first | decide | omega)))⟩
      have q40 : ¬ (v32 = 2147483648) := q40
      have b372 := c35 (by first | decide | omega)
      refine x_const (np := 57) (x := 9223372043297226753) (a := 2147483649) (by decide +kernel) (by decide) (by decide) ?_
      refine x_goto (np := 60) (x := 113) (by decide +kernel) ?_
      refine x_istore (np := 114) (x := 1) (lo' := [x_r 75, iv_c 2147483649]) (by decide +kernel) (by decide) (Nat.le_of_ble_eq_true rfl) rfl ?_
      refine x_aload (np := 115) (x := 0) (by decide +kernel) rfl (x_nc_le (by decide)) ?_
      refine x_iload (np := 116) (x := 1) (by decide +kernel) rfl (by decide) ?_
      refine x_const (np := 117) (x := 9223372039002259456) (a := 2147483648) (by decide +kernel) (by decide) (by decide) ?_
      refine x_nV (t := 6) (mj := 187) (n := 3) (rc := 12) (ml := 3) (nr := 0) (np := 120) (as := [x_r 75, iv_c 2147483649, iv_c 2147483648]) (rest := []) (lo1 := [x_r 75, iv_c 2147483649, iv_c 2147483648]) (by decide +kernel) (by decide) (by decide +kernel) (x_rb_of (by decide +kernel)) rfl rfl (x_wr (by decide) (x_wi (by decide) (x_wi (by decide) x_wn))) x_wn (by decide) rfl ?_
      refine x_aload (np := 1) (x := 0) (by decide +kernel) rfl (x_nc_le (by decide)) ?_
      have q373 : h6 75 1 = 76 := by have z := jB (e := 1) 0 j7 rg_75_1_0_1 (by decide) (by decide); omega
      refine x_getR (np := 4) (x := 705) (f := 1) (q := 76) (by decide +kernel) (by decide) (by decide +kernel) q373 ?_
      refine x_const (np := 7) (x := 9223376986804585600) (a := 2147484800) (by decide +kernel) (by decide) (by decide) ?_
      refine x_const (np := 8) (x := 9223372047592194050) (a := 2147483650) (by decide +kernel) (by decide) (by decide) ?_
      refine x_aload (np := 9) (x := 0) (by decide +kernel) rfl (x_nc_le (by decide)) ?_
      have q374 : h6 75 13 = h 75 13 := jK 0 f8 rg_75_13_0_1 (by first | decide | omega) (by first | decide | omega) (by decide)
      refine x_getC (np := 12) (x := 717) (f := 13) (q := (h 75 13)) (by decide +kernel) (by decide) (by decide +kernel) q374 (fun l375 => ?_)
      obtain ⟨u376, q377⟩ : ∃ z, (h 75 13) = 2147483648 + z := ⟨(h 75 13) - 2147483648, by first | decide | omega⟩
      refine x_imul (np := 13) (x := 0) (i := 2) (j := u376) (v := (2147483648 + 2 * u376)) (by decide +kernel) (by first | decide | omega) (by first | decide | omega) (by first | decide | omega) (by first | decide | omega) (by decide) l375 ?_
      refine x_iadd (np := 14) (x := 0) (v := (2147484800 + 2 * u376)) (by decide +kernel) (by decide) (by first | decide | omega) (by first | decide | omega) (by first | decide | omega) ?_
      refine x_iload (np := 15) (x := 1) (by decide +kernel) rfl (by decide) ?_
      refine x_ast (np := 16) (x := 0) (kd := 1) (n := 1952) (i := (1152 + 2 * u376)) (by decide +kernel) (Or.inl rfl) (by decide +kernel) (by first | decide | omega) (by first | decide | omega) (by decide) (by decide) (fun z => absurd z (by decide)) ?_
      have j380 := jU (e := (1152 + 2 * u376)) (v := 2147483649) u376 j7 rg_76_1152_2_392 (by first | decide | omega) (by first | decide | omega) (by first | decide | omega)
      have f382 := jF (e := (1152 + 2 * u376)) (v := 2147483649) u376 f15 rg_76_1152_2_392 (by first | decide | omega) (by first | decide | omega) (by decide)
      generalize e381 : x_up h6 76 (1152 + 2 * u376) 2147483649 = h379 at j380 f382 ⊢
      refine x_aload (np := 17) (x := 0) (by decide +kernel) rfl (x_nc_le (by decide)) ?_
      have q383 : h379 75 1 = 76 := by have z := jB (e := 1) 0 j380 rg_75_1_0_1 (by decide) (by decide); omega
      refine x_getR (np := 20) (x := 705) (f := 1) (q := 76) (by decide +kernel) (by decide) (by decide +kernel) q383 ?_
      refine x_const (np := 23) (x := 9223376986804585600) (a := 2147484800) (by decide +kernel) (by decide) (by decide) ?_
      refine x_const (np := 24) (x := 9223372047592194050) (a := 2147483650) (by decide +kernel) (by decide) (by decide) ?_
      refine x_aload (np := 25) (x := 0) (by decide +kernel) rfl (x_nc_le (by decide)) ?_
      have q384 : h379 75 13 = h6 75 13 := by rw [← e381]; exact x_up_k (by decide)
      have q385 : h6 75 13 = h 75 13 := jK 0 f8 rg_75_13_0_1 (by first | decide | omega) (by first | decide | omega) (by decide)
      refine x_getC (np := 28) (x := 717) (f := 13) (q := (h 75 13)) (by decide +kernel) (by decide) (by decide +kernel) (q384.trans q385) (fun l386 => ?_)
      refine x_imul (np := 29) (x := 0) (i := 2) (j := u376) (v := (2147483648 + 2 * u376)) (by decide +kernel) (by first | decide | omega) (by first | decide | omega) (by first | decide | omega) (by first | decide | omega) (by decide) l375 ?_
      refine x_iadd (np := 30) (x := 0) (v := (2147484800 + 2 * u376)) (by decide +kernel) (by decide) (by first | decide | omega) (by first | decide | omega) (by first | decide | omega) ?_
      refine x_const (np := 31) (x := 9223372043297226753) (a := 2147483649) (by decide +kernel) (by decide) (by decide) ?_
      refine x_iadd (np := 32) (x := 0) (v := (2147484801 + 2 * u376)) (by decide +kernel) (by first | decide | omega) (by decide) (by first | decide | omega) (by first | decide | omega) ?_
      refine x_iload (np := 33) (x := 2) (by decide +kernel) rfl (by decide) ?_
      refine x_ast (np := 34) (x := 0) (kd := 1) (n := 1952) (i := (1153 + 2 * u376)) (by decide +kernel) (Or.inl rfl) (by decide +kernel) (by first | decide | omega) (by first | decide | omega) (by decide) (by decide) (fun z => absurd z (by decide)) ?_
      have j389 := jU (e := (1153 + 2 * u376)) (v := 2147483648) u376 j380 rg_76_1153_2_392 (by first | decide | omega) (by first | decide | omega) (by first | decide | omega)
      have f391 := jF (e := (1153 + 2 * u376)) (v := 2147483648) u376 f382 rg_76_1153_2_392 (by first | decide | omega) (by first | decide | omega) (by decide)
      generalize e390 : x_up h379 76 (1153 + 2 * u376) 2147483648 = h388 at j389 f391 ⊢
      refine x_aload (np := 35) (x := 0) (by decide +kernel) rfl (x_nc_le (by decide)) ?_
      refine x_dup (np := 36) (x := 0) (by decide +kernel) (by have z := x_nc_le (k := 75) (by decide); unfold x_r; omega) ?_
      have q392 : h388 75 13 = h379 75 13 := by rw [← e390]; exact x_up_k (by decide)
      have q393 : h379 75 13 = h6 75 13 := by rw [← e381]; exact x_up_k (by decide)
      have q394 : h6 75 13 = h 75 13 := jK 0 f8 rg_75_13_0_1 (by first | decide | omega) (by first | decide | omega) (by decide)
      refine x_getC (np := 39) (x := 717) (f := 13) (q := (h 75 13)) (by decide +kernel) (by decide) (by decide +kernel) ((q392.trans q393).trans q394) (fun l395 => ?_)
      refine x_const (np := 40) (x := 9223372043297226753) (a := 2147483649) (by decide +kernel) (by decide) (by decide) ?_
      refine x_iadd (np := 41) (x := 0) (v := (1 + (h 75 13))) (by decide +kernel) l375 (by decide) (by first | decide | omega) (by first | decide | omega) ?_
      refine x_putI (np := 44) (x := 717) (f := 13) (by decide +kernel) (by decide +kernel) (by first | decide | omega) (Or.inl (by decide)) ?_
      have j397 := jU (e := 13) (v := (1 + (h 75 13))) 0 j389 rg_75_13_0_1 (by first | decide | omega) (by first | decide | omega) (by first | decide | omega)
      have f399 := jF (e := 13) (v := (1 + (h 75 13))) 0 f391 rg_75_13_0_1 (by first | decide | omega) (by first | decide | omega) (by decide)
      generalize e398 : x_up h388 75 13 (1 + (h 75 13)) = h396 at j397 f399 ⊢
      refine x_retV (np := 45) (x := 0) (by decide +kernel) (by decide +kernel) ⟨rfl, ?_⟩
      have q400 : h396 75 13 = (1 + (h 75 13)) := by rw [← e398]; exact x_up_at
      refine x_iload (np := 121) (x := 1) (by decide +kernel) rfl (by decide) ?_
      refine x_ifz (k := 2) (tg := 128) (np := 124) (by decide +kernel) (by decide) (by decide) (fun q401 => ?_) (fun q402 => ?_)
      · have q401 : 2147483649 < 2147483648 := q401
        exfalso; omega
      have q402 : ¬ (2147483649 < 2147483648) := q402
      refine x_const (np := 125) (x := 9223372043297226753) (a := 2147483649) (by decide +kernel) (by decide) (by decide) ?_
      refine x_goto (np := 128) (x := 129) (by decide +kernel) ?_
      have q403 : h396 75 13 = (1 + (h 75 13)) := by rw [← e398]; exact x_up_at
      have q404 : h396 75 7 = h388 75 7 := by rw [← e398]; exact x_up_i (by first | decide | omega)
      have q405 : h388 75 7 = h379 75 7 := by rw [← e390]; exact x_up_k (by decide)
      have q406 : h379 75 7 = h6 75 7 := by rw [← e381]; exact x_up_k (by decide)
      have q407 : h396 75 7 = h388 75 7 := by rw [← e398]; exact x_up_i (by first | decide | omega)
      have q408 : h388 75 7 = h379 75 7 := by rw [← e390]; exact x_up_k (by decide)
      have q409 : h379 75 7 = h6 75 7 := by rw [← e381]; exact x_up_k (by decide)
      have q410 : h396 75 13 = (1 + (h 75 13)) := by rw [← e398]; exact x_up_at
      have k414 : Kp h h6 (h 75 13 - 2147483648) := Kp.fr Kp.refl f8 (by first | decide | omega) (by decide)
      have k413 : Kp h h379 (h 75 13 - 2147483648) := by rw [← e381]; exact Kp.up k414 (by first | decide | omega) (fun i hi => by first | decide | omega)
      have k412 : Kp h h388 (h 75 13 - 2147483648) := by rw [← e390]; exact Kp.up k413 (by first | decide | omega) (fun i hi => by first | decide | omega)
      have k411 : Kp h h396 (h 75 13 - 2147483648) := by rw [← e398]; exact Kp.oth k412 (by decide)
      have q415 : h396 75 13 = (1 + (h 75 13)) := by rw [← e398]; exact x_up_at
      have q417 : h396 76 (1152 + 2 * u376) = h388 76 (1152 + 2 * u376) := by rw [← e398]; exact x_up_k (by decide)
      have q418 : h388 76 (1152 + 2 * u376) = h379 76 (1152 + 2 * u376) := by rw [← e390]; exact x_up_i (by first | decide | omega)
      have q419 : h379 76 (1152 + 2 * u376) = 2147483649 := by rw [← e381]; exact x_up_at
      have s416 : Seg (sg h396) u376 (u376 + 1) := Seg.push (show 2147483648 ≤ h396 76 (1152 + 2 * u376) by first | decide | omega) (show h396 76 (1152 + 2 * u376) ≤ 2147483656 by first | decide | omega)
      have s420 : Seg (sg h396) (h 75 13 - 2147483648) (h396 75 13 - 2147483648) := Seg.cast (Seg.kp s416 Kp.refl) (by first | decide | omega) (by first | decide | omega)
      have w421 : ¬ Wd tB tN 2 (sk tB tN (h 75 7)) := by rw [← c13]; exact Wd.no (by decide) (Is.no c27 (by first | decide | omega)) c14
      have y422 := Is.yes c36 (by first | decide | omega)
      have w423 : Wd tB tN 27 (sk tB tN (h 75 7)) := by rw [← c13]; exact Wd.of' (by decide) y422 c14
      have q425 : h396 75 7 = h388 75 7 := by rw [← e398]; exact x_up_i (by first | decide | omega)
      have q426 : h388 75 7 = h379 75 7 := by rw [← e390]; exact x_up_k (by decide)
      have q427 : h379 75 7 = h6 75 7 := by rw [← e381]; exact x_up_k (by decide)
      have e424 : sk tB tN (h6 75 7) = sk tB tN (sk tB tN (h 75 7) + iv_tl 27) := by rw [← c13, ← y422.1]
      have q428 : h396 75 7 = h388 75 7 := by rw [← e398]; exact x_up_i (by first | decide | omega)
      have q429 : h388 75 7 = h379 75 7 := by rw [← e390]; exact x_up_k (by decide)
      have q430 : h379 75 7 = h6 75 7 := by rw [← e381]; exact x_up_k (by decide)
      refine x_retI (np := 130) (x := 0) (by decide +kernel) (by decide) (Or.inr ⟨by decide +kernel, by first | decide | omega, by first | decide | omega⟩) ⟨_, rfl, (by decide), ?_⟩
      exact ⟨j397, f399, (by first | decide | omega), (fun z => by first | decide | omega), (fun z => by first | decide | omega), (fun z => by first | decide | omega), k411, (fun _ => s420), (fun l => gP_wd (i := 27) (by unfold six; decide) w423 rfl e424 (by first | decide | omega) (congrArg (sk tB tN) (show h6 75 7 = h396 75 7 by first | decide | omega)))⟩
    have q31 : ¬ (v22 = 2147483648) := q31
    have b431 := c26 (by first | decide | omega)
    refine x_const (np := 44) (x := 9223372039002259456) (a := 2147483648) (by decide +kernel) (by decide) (by decide) ?_
    refine x_goto (np := 47) (x := 113) (by decide +kernel) ?_
    refine x_istore (np := 114) (x := 1) (lo' := [x_r 75, iv_c 2147483648]) (by decide +kernel) (by decide) (Nat.le_of_ble_eq_true rfl) rfl ?_
    refine x_aload (np := 115) (x := 0) (by decide +kernel) rfl (x_nc_le (by decide)) ?_
    refine x_iload (np := 116) (x := 1) (by decide +kernel) rfl (by decide) ?_
    refine x_const (np := 117) (x := 9223372039002259456) (a := 2147483648) (by decide +kernel) (by decide) (by decide) ?_
    refine x_nV (t := 6) (mj := 187) (n := 3) (rc := 12) (ml := 3) (nr := 0) (np := 120) (as := [x_r 75, iv_c 2147483648, iv_c 2147483648]) (rest := []) (lo1 := [x_r 75, iv_c 2147483648, iv_c 2147483648]) (by decide +kernel) (by decide) (by decide +kernel) (x_rb_of (by decide +kernel)) rfl rfl (x_wr (by decide) (x_wi (by decide) (x_wi (by decide) x_wn))) x_wn (by decide) rfl ?_
    refine x_aload (np := 1) (x := 0) (by decide +kernel) rfl (x_nc_le (by decide)) ?_
    have q432 : h6 75 1 = 76 := by have z := jB (e := 1) 0 j7 rg_75_1_0_1 (by decide) (by decide); omega
    refine x_getR (np := 4) (x := 705) (f := 1) (q := 76) (by decide +kernel) (by decide) (by decide +kernel) q432 ?_
    refine x_const (np := 7) (x := 9223376986804585600) (a := 2147484800) (by decide +kernel) (by decide) (by decide) ?_
    refine x_const (np := 8) (x := 9223372047592194050) (a := 2147483650) (by decide +kernel) (by decide) (by decide) ?_
    refine x_aload (np := 9) (x := 0) (by decide +kernel) rfl (x_nc_le (by decide)) ?_
    have q433 : h6 75 13 = h 75 13 := jK 0 f8 rg_75_13_0_1 (by first | decide | omega) (by first | decide | omega) (by decide)
    refine x_getC (np := 12) (x := 717) (f := 13) (q := (h 75 13)) (by decide +kernel) (by decide) (by decide +kernel) q433 (fun l434 => ?_)
    obtain ⟨u435, q436⟩ : ∃ z, (h 75 13) = 2147483648 + z := ⟨(h 75 13) - 2147483648, by first | decide | omega⟩
    refine x_imul (np := 13) (x := 0) (i := 2) (j := u435) (v := (2147483648 + 2 * u435)) (by decide +kernel) (by first | decide | omega) (by first | decide | omega) (by first | decide | omega) (by first | decide | omega) (by decide) l434 ?_
    refine x_iadd (np := 14) (x := 0) (v := (2147484800 + 2 * u435)) (by decide +kernel) (by decide) (by first | decide | omega) (by first | decide | omega) (by first | decide | omega) ?_
    refine x_iload (np := 15) (x := 1) (by decide +kernel) rfl (by decide) ?_
    refine x_ast (np := 16) (x := 0) (kd := 1) (n := 1952) (i := (1152 + 2 * u435)) (by decide +kernel) (Or.inl rfl) (by decide +kernel) (by first | decide | omega) (by first | decide | omega) (by decide) (by decide) (fun z => absurd z (by decide)) ?_
    have j439 := jU (e := (1152 + 2 * u435)) (v := 2147483648) u435 j7 rg_76_1152_2_393 (by first | decide | omega) (by first | decide | omega) (by first | decide | omega)
    have f441 := jF (e := (1152 + 2 * u435)) (v := 2147483648) u435 f15 rg_76_1152_2_393 (by first | decide | omega) (by first | decide | omega) (by decide)
    generalize e440 : x_up h6 76 (1152 + 2 * u435) 2147483648 = h438 at j439 f441 ⊢
    refine x_aload (np := 17) (x := 0) (by decide +kernel) rfl (x_nc_le (by decide)) ?_
    have q442 : h438 75 1 = 76 := by have z := jB (e := 1) 0 j439 rg_75_1_0_1 (by decide) (by decide); omega
    refine x_getR (np := 20) (x := 705) (f := 1) (q := 76) (by decide +kernel) (by decide) (by decide +kernel) q442 ?_
    refine x_const (np := 23) (x := 9223376986804585600) (a := 2147484800) (by decide +kernel) (by decide) (by decide) ?_
    refine x_const (np := 24) (x := 9223372047592194050) (a := 2147483650) (by decide +kernel) (by decide) (by decide) ?_
    refine x_aload (np := 25) (x := 0) (by decide +kernel) rfl (x_nc_le (by decide)) ?_
    have q443 : h438 75 13 = h6 75 13 := by rw [← e440]; exact x_up_k (by decide)
    have q444 : h6 75 13 = h 75 13 := jK 0 f8 rg_75_13_0_1 (by first | decide | omega) (by first | decide | omega) (by decide)
    refine x_getC (np := 28) (x := 717) (f := 13) (q := (h 75 13)) (by decide +kernel) (by decide) (by decide +kernel) (q443.trans q444) (fun l445 => ?_)
    refine x_imul (np := 29) (x := 0) (i := 2) (j := u435) (v := (2147483648 + 2 * u435)) (by decide +kernel) (by first | decide | omega) (by first | decide | omega) (by first | decide | omega) (by first | decide | omega) (by decide) l434 ?_
    refine x_iadd (np := 30) (x := 0) (v := (2147484800 + 2 * u435)) (by decide +kernel) (by decide) (by first | decide | omega) (by first | decide | omega) (by first | decide | omega) ?_
    refine x_const (np := 31) (x := 9223372043297226753) (a := 2147483649) (by decide +kernel) (by decide) (by decide) ?_
    refine x_iadd (np := 32) (x := 0) (v := (2147484801 + 2 * u435)) (by decide +kernel) (by first | decide | omega) (by decide) (by first | decide | omega) (by first | decide | omega) ?_
    refine x_iload (np := 33) (x := 2) (by decide +kernel) rfl (by decide) ?_
    refine x_ast (np := 34) (x := 0) (kd := 1) (n := 1952) (i := (1153 + 2 * u435)) (by decide +kernel) (Or.inl rfl) (by decide +kernel) (by first | decide | omega) (by first | decide | omega) (by decide) (by decide) (fun z => absurd z (by decide)) ?_
    have j448 := jU (e := (1153 + 2 * u435)) (v := 2147483648) u435 j439 rg_76_1153_2_393 (by first | decide | omega) (by first | decide | omega) (by first | decide | omega)
    have f450 := jF (e := (1153 + 2 * u435)) (v := 2147483648) u435 f441 rg_76_1153_2_393 (by first | decide | omega) (by first | decide | omega) (by decide)
    generalize e449 : x_up h438 76 (1153 + 2 * u435) 2147483648 = h447 at j448 f450 ⊢
    refine x_aload (np := 35) (x := 0) (by decide +kernel) rfl (x_nc_le (by decide)) ?_
    refine x_dup (np := 36) (x := 0) (by decide +kernel) (by have z := x_nc_le (k := 75) (by decide); unfold x_r; omega) ?_
    have q451 : h447 75 13 = h438 75 13 := by rw [← e449]; exact x_up_k (by decide)
    have q452 : h438 75 13 = h6 75 13 := by rw [← e440]; exact x_up_k (by decide)
    have q453 : h6 75 13 = h 75 13 := jK 0 f8 rg_75_13_0_1 (by first | decide | omega) (by first | decide | omega) (by decide)
    refine x_getC (np := 39) (x := 717) (f := 13) (q := (h 75 13)) (by decide +kernel) (by decide) (by decide +kernel) ((q451.trans q452).trans q453) (fun l454 => ?_)
    refine x_const (np := 40) (x := 9223372043297226753) (a := 2147483649) (by decide +kernel) (by decide) (by decide) ?_
    refine x_iadd (np := 41) (x := 0) (v := (1 + (h 75 13))) (by decide +kernel) l434 (by decide) (by first | decide | omega) (by first | decide | omega) ?_
    refine x_putI (np := 44) (x := 717) (f := 13) (by decide +kernel) (by decide +kernel) (by first | decide | omega) (Or.inl (by decide)) ?_
    have j456 := jU (e := 13) (v := (1 + (h 75 13))) 0 j448 rg_75_13_0_1 (by first | decide | omega) (by first | decide | omega) (by first | decide | omega)
    have f458 := jF (e := 13) (v := (1 + (h 75 13))) 0 f450 rg_75_13_0_1 (by first | decide | omega) (by first | decide | omega) (by decide)
    generalize e457 : x_up h447 75 13 (1 + (h 75 13)) = h455 at j456 f458 ⊢
    refine x_retV (np := 45) (x := 0) (by decide +kernel) (by decide +kernel) ⟨rfl, ?_⟩
    have q459 : h455 75 13 = (1 + (h 75 13)) := by rw [← e457]; exact x_up_at
    refine x_iload (np := 121) (x := 1) (by decide +kernel) rfl (by decide) ?_
    refine x_ifz (k := 2) (tg := 128) (np := 124) (by decide +kernel) (by decide) (by decide) (fun q460 => ?_) (fun q461 => ?_)
    · have q460 : 2147483648 < 2147483648 := q460
      exfalso; omega
    have q461 : ¬ (2147483648 < 2147483648) := q461
    refine x_const (np := 125) (x := 9223372043297226753) (a := 2147483649) (by decide +kernel) (by decide) (by decide) ?_
    refine x_goto (np := 128) (x := 129) (by decide +kernel) ?_
    have q462 : h455 75 13 = (1 + (h 75 13)) := by rw [← e457]; exact x_up_at
    have q463 : h455 75 7 = h447 75 7 := by rw [← e457]; exact x_up_i (by first | decide | omega)
    have q464 : h447 75 7 = h438 75 7 := by rw [← e449]; exact x_up_k (by decide)
    have q465 : h438 75 7 = h6 75 7 := by rw [← e440]; exact x_up_k (by decide)
    have q466 : h455 75 7 = h447 75 7 := by rw [← e457]; exact x_up_i (by first | decide | omega)
    have q467 : h447 75 7 = h438 75 7 := by rw [← e449]; exact x_up_k (by decide)
    have q468 : h438 75 7 = h6 75 7 := by rw [← e440]; exact x_up_k (by decide)
    have q469 : h455 75 13 = (1 + (h 75 13)) := by rw [← e457]; exact x_up_at
    have k473 : Kp h h6 (h 75 13 - 2147483648) := Kp.fr Kp.refl f8 (by first | decide | omega) (by decide)
    have k472 : Kp h h438 (h 75 13 - 2147483648) := by rw [← e440]; exact Kp.up k473 (by first | decide | omega) (fun i hi => by first | decide | omega)
    have k471 : Kp h h447 (h 75 13 - 2147483648) := by rw [← e449]; exact Kp.up k472 (by first | decide | omega) (fun i hi => by first | decide | omega)
    have k470 : Kp h h455 (h 75 13 - 2147483648) := by rw [← e457]; exact Kp.oth k471 (by decide)
    have q474 : h455 75 13 = (1 + (h 75 13)) := by rw [← e457]; exact x_up_at
    have q476 : h455 76 (1152 + 2 * u435) = h447 76 (1152 + 2 * u435) := by rw [← e457]; exact x_up_k (by decide)
    have q477 : h447 76 (1152 + 2 * u435) = h438 76 (1152 + 2 * u435) := by rw [← e449]; exact x_up_i (by first | decide | omega)
    have q478 : h438 76 (1152 + 2 * u435) = 2147483648 := by rw [← e440]; exact x_up_at
    have s475 : Seg (sg h455) u435 (u435 + 1) := Seg.push (show 2147483648 ≤ h455 76 (1152 + 2 * u435) by first | decide | omega) (show h455 76 (1152 + 2 * u435) ≤ 2147483656 by first | decide | omega)
    have s479 : Seg (sg h455) (h 75 13 - 2147483648) (h455 75 13 - 2147483648) := Seg.cast (Seg.kp s475 Kp.refl) (by first | decide | omega) (by first | decide | omega)
    have y480 := Is.yes c27 (by first | decide | omega)
    have w481 : Wd tB tN 2 (sk tB tN (h 75 7)) := by rw [← c13]; exact Wd.of' (by decide) y480 c14
    have q483 : h455 75 7 = h447 75 7 := by rw [← e457]; exact x_up_i (by first | decide | omega)
    have q484 : h447 75 7 = h438 75 7 := by rw [← e449]; exact x_up_k (by decide)
    have q485 : h438 75 7 = h6 75 7 := by rw [← e440]; exact x_up_k (by decide)
    have e482 : sk tB tN (h6 75 7) = sk tB tN (sk tB tN (h 75 7) + iv_tl 2) := by rw [← c13, ← y480.1]
    have q486 : h455 75 7 = h447 75 7 := by rw [← e457]; exact x_up_i (by first | decide | omega)
    have q487 : h447 75 7 = h438 75 7 := by rw [← e449]; exact x_up_k (by decide)
    have q488 : h438 75 7 = h6 75 7 := by rw [← e440]; exact x_up_k (by decide)
    refine x_retI (np := 130) (x := 0) (by decide +kernel) (by decide) (Or.inr ⟨by decide +kernel, by first | decide | omega, by first | decide | omega⟩) ⟨_, rfl, (by decide), ?_⟩
    exact ⟨j456, f458, (by first | decide | omega), (fun z => by first | decide | omega), (fun z => by first | decide | omega), (fun z => by first | decide | omega), k470, (fun _ => s479), (fun l => gP_wd (i := 2) (by unfold six; decide) w481 rfl e482 (by first | decide | omega) (congrArg (sk tB tN) (show h6 75 7 = h455 75 7 by first | decide | omega)))⟩
  have q21 : ¬ ((h6 75 7) ≠ (h6 75 9)) := q21
  refine x_aload (np := 16) (x := 0) (by decide +kernel) rfl (x_nc_le (by decide)) ?_
  refine x_const (np := 17) (x := 9223372039002259456) (a := 2147483648) (by decide +kernel) (by decide) (by decide) ?_
  refine x_const (np := 20) (x := 9223376329674589159) (a := 2147484647) (by decide +kernel) (by decide) (by decide) ?_
  have m492 := Tq.fr hT f8 (by decide) (by decide)
  refine x_cI (t := 6) (mj := 174) (n := 3) (rc := 12) (ml := 4) (nr := 0) (np := 23) (as := [x_r 75, iv_c 2147483648, iv_c 2147484647]) (rest := []) (lo1 := [x_r 75, iv_c 2147483648, iv_c 2147484647, 147573952589676412928]) (by decide +kernel) (by decide) (by decide +kernel) (x_rb_of (by decide +kernel)) rfl rfl (x_wr (by decide) (x_wi (by decide) (x_wi (by decide) x_wn))) x_wn (by decide) rfl (c174_75 j7  (by first | decide | omega) (by first | decide | omega) m492) (fun v489 h493 l490 q491 => ?_)
  obtain ⟨j494, f495, b496, c497, c498, c499, c500, c501, c502⟩ := q491
  have f503 := Fr.trans f15 f495 (by decide)
  have b504 := jB (e := 7) 0 j494 rg_75_7_0_1 (by first | decide | omega) (by first | decide | omega)
  have b505 := c501 (by first | decide | omega)
  refine x_istore (np := 24) (x := 1) (lo' := [x_r 75, iv_c v489]) (by decide +kernel) l490 (Nat.le_of_ble_eq_true rfl) rfl ?_
  refine x_aload (np := 25) (x := 0) (by decide +kernel) rfl (x_nc_le (by decide)) ?_
  refine x_const (np := 27) (x := 9223372073361997832) (a := 2147483656) (by decide +kernel) (by decide) (by decide) ?_
  refine x_iload (np := 28) (x := 1) (by decide +kernel) rfl l490 ?_
  refine x_nV (t := 6) (mj := 187) (n := 3) (rc := 12) (ml := 3) (nr := 0) (np := 31) (as := [x_r 75, iv_c 2147483656, iv_c v489]) (rest := []) (lo1 := [x_r 75, iv_c 2147483656, iv_c v489]) (by decide +kernel) (by decide) (by decide +kernel) (x_rb_of (by decide +kernel)) rfl rfl (x_wr (by decide) (x_wi (by decide) (x_wi l490 x_wn))) x_wn (by decide) rfl ?_
  refine x_aload (np := 1) (x := 0) (by decide +kernel) rfl (x_nc_le (by decide)) ?_
  have q506 : h493 75 1 = 76 := by have z := jB (e := 1) 0 j494 rg_75_1_0_1 (by decide) (by decide); omega
  refine x_getR (np := 4) (x := 705) (f := 1) (q := 76) (by decide +kernel) (by decide) (by decide +kernel) q506 ?_
  refine x_const (np := 7) (x := 9223376986804585600) (a := 2147484800) (by decide +kernel) (by decide) (by decide) ?_
  refine x_const (np := 8) (x := 9223372047592194050) (a := 2147483650) (by decide +kernel) (by decide) (by decide) ?_
  refine x_aload (np := 9) (x := 0) (by decide +kernel) rfl (x_nc_le (by decide)) ?_
  have q507 : h493 75 13 = h6 75 13 := jK 0 f495 rg_75_13_0_1 (by first | decide | omega) (by first | decide | omega) (by decide)
  have q508 : h6 75 13 = h 75 13 := jK 0 f8 rg_75_13_0_1 (by first | decide | omega) (by first | decide | omega) (by decide)
  refine x_getC (np := 12) (x := 717) (f := 13) (q := (h 75 13)) (by decide +kernel) (by decide) (by decide +kernel) (q507.trans q508) (fun l509 => ?_)
  obtain ⟨u510, q511⟩ : ∃ z, (h 75 13) = 2147483648 + z := ⟨(h 75 13) - 2147483648, by first | decide | omega⟩
  refine x_imul (np := 13) (x := 0) (i := 2) (j := u510) (v := (2147483648 + 2 * u510)) (by decide +kernel) (by first | decide | omega) (by first | decide | omega) (by first | decide | omega) (by first | decide | omega) (by decide) l509 ?_
  refine x_iadd (np := 14) (x := 0) (v := (2147484800 + 2 * u510)) (by decide +kernel) (by decide) (by first | decide | omega) (by first | decide | omega) (by first | decide | omega) ?_
  refine x_iload (np := 15) (x := 1) (by decide +kernel) rfl (by decide) ?_
  refine x_ast (np := 16) (x := 0) (kd := 1) (n := 1952) (i := (1152 + 2 * u510)) (by decide +kernel) (Or.inl rfl) (by decide +kernel) (by first | decide | omega) (by first | decide | omega) (by decide) (by decide) (fun z => absurd z (by decide)) ?_
  have j514 := jU (e := (1152 + 2 * u510)) (v := 2147483656) u510 j494 rg_76_1152_2_396 (by first | decide | omega) (by first | decide | omega) (by first | decide | omega)
  have f516 := jF (e := (1152 + 2 * u510)) (v := 2147483656) u510 f503 rg_76_1152_2_396 (by first | decide | omega) (by first | decide | omega) (by decide)
  generalize e515 : x_up h493 76 (1152 + 2 * u510) 2147483656 = h513 at j514 f516 ⊢
  refine x_aload (np := 17) (x := 0) (by decide +kernel) rfl (x_nc_le (by decide)) ?_
  have q517 : h513 75 1 = 76 := by have z := jB (e := 1) 0 j514 rg_75_1_0_1 (by decide) (by decide); omega
  refine x_getR (np := 20) (x := 705) (f := 1) (q := 76) (by decide +kernel) (by decide) (by decide +kernel) q517 ?_
  refine x_const (np := 23) (x := 9223376986804585600) (a := 2147484800) (by decide +kernel) (by decide) (by decide) ?_
  refine x_const (np := 24) (x := 9223372047592194050) (a := 2147483650) (by decide +kernel) (by decide) (by decide) ?_
  refine x_aload (np := 25) (x := 0) (by decide +kernel) rfl (x_nc_le (by decide)) ?_
  have q518 : h513 75 13 = h493 75 13 := by rw [← e515]; exact x_up_k (by decide)
  have q519 : h493 75 13 = h6 75 13 := jK 0 f495 rg_75_13_0_1 (by first | decide | omega) (by first | decide | omega) (by decide)
  have q520 : h6 75 13 = h 75 13 := jK 0 f8 rg_75_13_0_1 (by first | decide | omega) (by first | decide | omega) (by decide)
  refine x_getC (np := 28) (x := 717) (f := 13) (q := (h 75 13)) (by decide +kernel) (by decide) (by decide +kernel) ((q518.trans q519).trans q520) (fun l521 => ?_)
  refine x_imul (np := 29) (x := 0) (i := 2) (j := u510) (v := (2147483648 + 2 * u510)) (by decide +kernel) (by first | decide | omega) (by first | decide | omega) (by first | decide | omega) (by first | decide | omega) (by decide) l509 ?_
  refine x_iadd (np := 30) (x := 0) (v := (2147484800 + 2 * u510)) (by decide +kernel) (by decide) (by first | decide | omega) (by first | decide | omega) (by first | decide | omega) ?_
  refine x_const (np := 31) (x := 9223372043297226753) (a := 2147483649) (by decide +kernel) (by decide) (by decide) ?_
  refine x_iadd (np := 32) (x := 0) (v := (2147484801 + 2 * u510)) (by decide +kernel) (by first | decide | omega) (by decide) (by first | decide | omega) (by first | decide | omega) ?_
  refine x_iload (np := 33) (x := 2) (by decide +kernel) rfl l490 ?_
  refine x_ast (np := 34) (x := 0) (kd := 1) (n := 1952) (i := (1153 + 2 * u510)) (by decide +kernel) (Or.inl rfl) (by decide +kernel) (by first | decide | omega) (by first | decide | omega) (by decide) l490 (fun z => absurd z (by decide)) ?_
  have j524 := jU (e := (1153 + 2 * u510)) (v := v489) u510 j514 rg_76_1153_2_396 (by first | decide | omega) (by first | decide | omega) (by first | decide | omega)
  have f526 := jF (e := (1153 + 2 * u510)) (v := v489) u510 f516 rg_76_1153_2_396 (by first | decide | omega) (by first | decide | omega) (by decide)
  generalize e525 : x_up h513 76 (1153 + 2 * u510) v489 = h523 at j524 f526 ⊢
  refine x_aload (np := 35) (x := 0) (by decide +kernel) rfl (x_nc_le (by decide)) ?_
  refine x_dup (np := 36) (x := 0) (by decide +kernel) (by have z := x_nc_le (k := 75) (by decide); unfold x_r; omega) ?_
  have q527 : h523 75 13 = h513 75 13 := by rw [← e525]; exact x_up_k (by decide)
  have q528 : h513 75 13 = h493 75 13 := by rw [← e515]; exact x_up_k (by decide)
  have q529 : h493 75 13 = h6 75 13 := jK 0 f495 rg_75_13_0_1 (by first | decide | omega) (by first | decide | omega) (by decide)
  have q530 : h6 75 13 = h 75 13 := jK 0 f8 rg_75_13_0_1 (by first | decide | omega) (by first | decide | omega) (by decide)
  refine x_getC (np := 39) (x := 717) (f := 13) (q := (h 75 13)) (by decide +kernel) (by decide) (by decide +kernel) (((q527.trans q528).trans q529).trans q530) (fun l531 => ?_)
  refine x_const (np := 40) (x := 9223372043297226753) (a := 2147483649) (by decide +kernel) (by decide) (by decide) ?_
  refine x_iadd (np := 41) (x := 0) (v := (1 + (h 75 13))) (by decide +kernel) l509 (by decide) (by first | decide | omega) (by first | decide | omega) ?_
  refine x_putI (np := 44) (x := 717) (f := 13) (by decide +kernel) (by decide +kernel) (by first | decide | omega) (Or.inl (by decide)) ?_
  have j533 := jU (e := 13) (v := (1 + (h 75 13))) 0 j524 rg_75_13_0_1 (by first | decide | omega) (by first | decide | omega) (by first | decide | omega)
  have f535 := jF (e := 13) (v := (1 + (h 75 13))) 0 f526 rg_75_13_0_1 (by first | decide | omega) (by first | decide | omega) (by decide)
  generalize e534 : x_up h523 75 13 (1 + (h 75 13)) = h532 at j533 f535 ⊢
  refine x_retV (np := 45) (x := 0) (by decide +kernel) (by decide +kernel) ⟨rfl, ?_⟩
  have q536 : h532 75 13 = (1 + (h 75 13)) := by rw [← e534]; exact x_up_at
  refine x_goto (np := 34) (x := 120) (by decide +kernel) ?_
  refine x_iload (np := 121) (x := 1) (by decide +kernel) rfl l490 ?_
  refine x_ifz (k := 2) (tg := 128) (np := 124) (by decide +kernel) (by decide) l490 (fun q537 => ?_) (fun q538 => ?_)
  · have q537 : v489 < 2147483648 := q537
    refine x_const (np := 129) (x := 9223372039002259456) (a := 2147483648) (by decide +kernel) (by decide) (by decide) ?_
    have q539 : h532 75 13 = (1 + (h 75 13)) := by rw [← e534]; exact x_up_at
    have q540 : h532 75 7 = h523 75 7 := by rw [← e534]; exact x_up_i (by first | decide | omega)
    have q541 : h523 75 7 = h513 75 7 := by rw [← e525]; exact x_up_k (by decide)
    have q542 : h513 75 7 = h493 75 7 := by rw [← e515]; exact x_up_k (by decide)
    have q543 : h532 75 7 = h523 75 7 := by rw [← e534]; exact x_up_i (by first | decide | omega)
    have q544 : h523 75 7 = h513 75 7 := by rw [← e525]; exact x_up_k (by decide)
    have q545 : h513 75 7 = h493 75 7 := by rw [← e515]; exact x_up_k (by decide)
    have q546 : h532 75 13 = (1 + (h 75 13)) := by rw [← e534]; exact x_up_at
    have k551 : Kp h h6 (h 75 13 - 2147483648) := Kp.fr Kp.refl f8 (by first | decide | omega) (by decide)
    have k550 : Kp h h493 (h 75 13 - 2147483648) := Kp.fr k551 f495 (by first | decide | omega) (by decide)
    have k549 : Kp h h513 (h 75 13 - 2147483648) := by rw [← e515]; exact Kp.up k550 (by first | decide | omega) (fun i hi => by first | decide | omega)
    have k548 : Kp h h523 (h 75 13 - 2147483648) := by rw [← e525]; exact Kp.up k549 (by first | decide | omega) (fun i hi => by first | decide | omega)
    have k547 : Kp h h532 (h 75 13 - 2147483648) := by rw [← e534]; exact Kp.oth k548 (by decide)
    have e552 : sk tB tN (h6 75 7) = sk tB tN (h 75 7) := (congrArg (sk tB tN) ((show h6 75 7 = h6 75 9 by first | decide | omega).trans c13)).trans sk_idem
    have n553 : ¬ Ltr tB tN (sk tB tN (h 75 7)) := by rw [← c13, show h6 75 9 = h6 75 7 by first | decide | omega, c14]; exact le9_end
    refine x_retI (np := 130) (x := 0) (by decide +kernel) (by decide) (Or.inr ⟨by decide +kernel, by first | decide | omega, by first | decide | omega⟩) ⟨_, rfl, (by decide), ?_⟩
    exact ⟨j533, f535, (by first | decide | omega), (fun z => by first | decide | omega), (fun z => by first | decide | omega), (fun z => by first | decide | omega), k547, (fun z => absurd z (by first | decide | omega)), (fun l => gP_nol (Nr.nb (Nr.cast c502 e552) (by first | decide | omega)) n553 (by first | decide | omega))⟩
  have q538 : ¬ (v489 < 2147483648) := q538
  have b554 := c498 (by first | decide | omega)
  have b555 := c499 (by first | decide | omega)
  have b556 := c500 (by first | decide | omega)
  refine x_const (np := 125) (x := 9223372043297226753) (a := 2147483649) (by decide +kernel) (by decide) (by decide) ?_
  refine x_goto (np := 128) (x := 129) (by decide +kernel) ?_
  have q557 : h532 75 13 = (1 + (h 75 13)) := by rw [← e534]; exact x_up_at
  have q558 : h532 75 7 = h523 75 7 := by rw [← e534]; exact x_up_i (by first | decide | omega)
  have q559 : h523 75 7 = h513 75 7 := by rw [← e525]; exact x_up_k (by decide)
  have q560 : h513 75 7 = h493 75 7 := by rw [← e515]; exact x_up_k (by decide)
  have q561 : h532 75 7 = h523 75 7 := by rw [← e534]; exact x_up_i (by first | decide | omega)
  have q562 : h523 75 7 = h513 75 7 := by rw [← e525]; exact x_up_k (by decide)
  have q563 : h513 75 7 = h493 75 7 := by rw [← e515]; exact x_up_k (by decide)
  have q564 : h532 75 13 = (1 + (h 75 13)) := by rw [← e534]; exact x_up_at
  have k569 : Kp h h6 (h 75 13 - 2147483648) := Kp.fr Kp.refl f8 (by first | decide | omega) (by decide)
  have k568 : Kp h h493 (h 75 13 - 2147483648) := Kp.fr k569 f495 (by first | decide | omega) (by decide)
  have k567 : Kp h h513 (h 75 13 - 2147483648) := by rw [← e515]; exact Kp.up k568 (by first | decide | omega) (fun i hi => by first | decide | omega)
  have k566 : Kp h h523 (h 75 13 - 2147483648) := by rw [← e525]; exact Kp.up k567 (by first | decide | omega) (fun i hi => by first | decide | omega)
  have k565 : Kp h h532 (h 75 13 - 2147483648) := by rw [← e534]; exact Kp.oth k566 (by decide)
  have q570 : h532 75 13 = (1 + (h 75 13)) := by rw [← e534]; exact x_up_at
  have q572 : h532 76 (1152 + 2 * u510) = h523 76 (1152 + 2 * u510) := by rw [← e534]; exact x_up_k (by decide)
  have q573 : h523 76 (1152 + 2 * u510) = h513 76 (1152 + 2 * u510) := by rw [← e525]; exact x_up_i (by first | decide | omega)
  have q574 : h513 76 (1152 + 2 * u510) = 2147483656 := by rw [← e515]; exact x_up_at
  have s571 : Seg (sg h532) u510 (u510 + 1) := Seg.push (show 2147483648 ≤ h532 76 (1152 + 2 * u510) by first | decide | omega) (show h532 76 (1152 + 2 * u510) ≤ 2147483656 by first | decide | omega)
  have s575 : Seg (sg h532) (h 75 13 - 2147483648) (h532 75 13 - 2147483648) := Seg.cast (Seg.kp s571 Kp.refl) (by first | decide | omega) (by first | decide | omega)
  have e576 : sk tB tN (h6 75 7) = sk tB tN (h 75 7) := (congrArg (sk tB tN) ((show h6 75 7 = h6 75 9 by first | decide | omega).trans c13)).trans sk_idem
  have q577 : h532 75 7 = h523 75 7 := by rw [← e534]; exact x_up_i (by first | decide | omega)
  have q578 : h523 75 7 = h513 75 7 := by rw [← e525]; exact x_up_k (by decide)
  have q579 : h513 75 7 = h493 75 7 := by rw [← e515]; exact x_up_k (by decide)
  refine x_retI (np := 130) (x := 0) (by decide +kernel) (by decide) (Or.inr ⟨by decide +kernel, by first | decide | omega, by first | decide | omega⟩) ⟨_, rfl, (by decide), ?_⟩
  exact ⟨j533, f535, (by first | decide | omega), (fun z => by first | decide | omega), (fun z => by first | decide | omega), (fun z => by first | decide | omega), k565, (fun _ => s575), (fun l => gP_num c502 e576 (by first | decide | omega) (by first | decide | omega) (congrArg (sk tB tN) (show h493 75 7 = h532 75 7 by first | decide | omega)))⟩
