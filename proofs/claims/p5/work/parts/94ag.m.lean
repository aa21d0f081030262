/-! ===== methods ===== -/
set_option maxHeartbeats 0 in
/-- LentNamesModel.readTownLine()Z -/
theorem c186_75 {sc : Nat × Nat} {d  : Nat} {h : xh} {tB : Nat → Nat} {tN : Nat} (hJ : J h) (hC : Cl h) (hT : Tq tB tN h) (hp0 : h 75 7 = le9 tB tN (h 75 9)) : X sc 186 (d + 7) (xI fun r h' => J h' ∧ Fr 273678337 h h' ∧ (2147483648 ≤ r ∧ r ≤ 2147483649) ∧ (r = 2147483649 → h' 78 0 = h 78 0) ∧ (r = 2147483649 → h' 78 1 = h 78 1) ∧ (r = 2147483649 → Cl h') ∧ line9 tB tN (h 76 0) (h 78 2) (h 78 3) (h 78 4) (h 78 5) (h 75 9) (rs5 r (sk tB tN (h' 75 7)) (h' 78 2) (h' 78 3) (h' 78 4) (h' 78 5)) ∧ (r = 2147483648 → lineF tB tN (h 76 0) (h 78 2) (h 78 3) (h 78 4) (h 78 5) (h 75 9) (h' 75 9))) 0 0 0 [x_r 75] [] h := by
  have hF := Fr.refl 273678337 h
  refine x_aload (np := 1) (x := 0) (by decide +kernel) rfl (x_nc_le (by decide)) ?_
  refine x_ldcB (i := 0) (idx := 183) (tx := "lend") (by rw [tb_y186]; exact List.mem_of_getElem? (i := 35) rfl) (by decide) (by rw [tb_b186]; decide +kernel) ?_
  refine x_cP (t := 6) (mj := 170) (n := 2) (rc := 12) (ml := 4) (nr := 0) (np := 6) (as := [x_r 75, x_b (0 + 1)]) (rest := []) (lo1 := [x_r 75, x_b (0 + 1), 147573952589676412928, 147573952589676412928]) (by decide +kernel) (by decide) (by decide +kernel) (x_rb_of (by decide +kernel)) rfl rfl (x_wr (by decide) (x_wB (by decide) x_wn)) x_wn (by decide) rfl (c170_75_S0 hJ  (by decide) hT) (fun v1 l2 q3 => ?_)
  obtain ⟨b6, c4, c5⟩ := q3
  have b7 := jB (e := 7) 0 hJ rg_75_7_0_1 (by first | decide | omega) (by first | decide | omega)
  have b8 := jB (e := 9) 0 hJ rg_75_9_0_1 (by first | decide | omega) (by first | decide | omega)
  have b9 : iv_tl 0 = 4 := by decide
  refine x_ifz (k := 0) (tg := 14) (np := 9) (by decide +kernel) (by decide) l2 (fun q10 => ?_) (fun q11 => ?_)
  · have q10 : v1 = 2147483648 := q10
    refine x_aload (np := 15) (x := 0) (by decide +kernel) rfl (x_nc_le (by decide)) ?_
    refine x_ldcB (i := 17) (idx := 189) (tx := "late") (by rw [tb_y186]; exact List.mem_of_getElem? (i := 41) rfl) (by decide) (by rw [tb_b186]; decide +kernel) ?_
    refine x_cP (t := 6) (mj := 170) (n := 2) (rc := 12) (ml := 4) (nr := 0) (np := 20) (as := [x_r 75, x_b (17 + 1)]) (rest := []) (lo1 := [x_r 75, x_b (17 + 1), 147573952589676412928, 147573952589676412928]) (by decide +kernel) (by decide) (by decide +kernel) (x_rb_of (by decide +kernel)) rfl rfl (x_wr (by decide) (x_wB (by decide) x_wn)) x_wn (by decide) rfl (c170_75_S0 hJ  (by decide) hT) (fun v12 l13 q14 => ?_)
    obtain ⟨b17, c15, c16⟩ := q14
    have b18 : iv_tl 17 = 4 := by decide
    refine x_ifz (k := 0) (tg := 28) (np := 23) (by decide +kernel) (by decide) l13 (fun q19 => ?_) (fun q20 => ?_)
    · have q19 : v12 = 2147483648 := q19
      refine x_aload (np := 29) (x := 0) (by decide +kernel) rfl (x_nc_le (by decide)) ?_
      refine x_ldcB (i := 19) (idx := 194) (tx := "dies") (by rw [tb_y186]; exact List.mem_of_getElem? (i := 43) rfl) (by decide) (by rw [tb_b186]; decide +kernel) ?_
      refine x_cP (t := 6) (mj := 170) (n := 2) (rc := 12) (ml := 4) (nr := 0) (np := 34) (as := [x_r 75, x_b (19 + 1)]) (rest := []) (lo1 := [x_r 75, x_b (19 + 1), 147573952589676412928, 147573952589676412928]) (by decide +kernel) (by decide) (by decide +kernel) (x_rb_of (by decide +kernel)) rfl rfl (x_wr (by decide) (x_wB (by decide) x_wn)) x_wn (by decide) rfl (c170_75_S0 hJ  (by decide) hT) (fun v21 l22 q23 => ?_)
      obtain ⟨b26, c24, c25⟩ := q23
      have b27 : iv_tl 19 = 4 := by decide
      refine x_ifz (k := 0) (tg := 42) (np := 37) (by decide +kernel) (by decide) l22 (fun q28 => ?_) (fun q29 => ?_)
      · have q28 : v21 = 2147483648 := q28
        refine x_aload (np := 43) (x := 0) (by decide +kernel) rfl (x_nc_le (by decide)) ?_
        refine x_ldcB (i := 20) (idx := 199) (tx := "court") (by rw [tb_y186]; exact List.mem_of_getElem? (i := 44) rfl) (by decide) (by rw [tb_b186]; decide +kernel) ?_
        refine x_cP (t := 6) (mj := 170) (n := 2) (rc := 12) (ml := 4) (nr := 0) (np := 48) (as := [x_r 75, x_b (20 + 1)]) (rest := []) (lo1 := [x_r 75, x_b (20 + 1), 147573952589676412928, 147573952589676412928]) (by decide +kernel) (by decide) (by decide +kernel) (x_rb_of (by decide +kernel)) rfl rfl (x_wr (by decide) (x_wB (by decide) x_wn)) x_wn (by decide) rfl (c170_75_S0 hJ  (by decide) hT) (fun v30 l31 q32 => ?_)
        obtain ⟨b35, c33, c34⟩ := q32
        have b36 : iv_tl 20 = 5 := by decide
        refine x_ifz (k := 0) (tg := 56) (np := 51) (by decide +kernel) (by decide) l31 (fun q37 => ?_) (fun q38 => ?_)
        · have q37 : v30 = 2147483648 := q37
          refine x_aload (np := 57) (x := 0) (by decide +kernel) rfl (x_nc_le (by decide)) ?_
          refine x_ldcB (i := 6) (idx := 204) (tx := "letter") (by rw [tb_y186]; exact List.mem_of_getElem? (i := 45) rfl) (by decide) (by rw [tb_b186]; decide +kernel) ?_
          refine x_cP (t := 6) (mj := 170) (n := 2) (rc := 12) (ml := 4) (nr := 0) (np := 62) (as := [x_r 75, x_b (6 + 1)]) (rest := []) (lo1 := [x_r 75, x_b (6 + 1), 147573952589676412928, 147573952589676412928]) (by decide +kernel) (by decide) (by decide +kernel) (x_rb_of (by decide +kernel)) rfl rfl (x_wr (by decide) (x_wB (by decide) x_wn)) x_wn (by decide) rfl (c170_75_S0 hJ  (by decide) hT) (fun v39 l40 q41 => ?_)
          obtain ⟨b44, c42, c43⟩ := q41
          have b45 : iv_tl 6 = 6 := by decide
          refine x_ifz (k := 0) (tg := 70) (np := 65) (by decide +kernel) (by decide) l40 (fun q46 => ?_) (fun q47 => ?_)
          · have q46 : v39 = 2147483648 := q46
            refine x_aload (np := 71) (x := 0) (by decide +kernel) rfl (x_nc_le (by decide)) ?_
            refine x_ldcB (i := 8) (idx := 209) (tx := "debt") (by rw [tb_y186]; exact List.mem_of_getElem? (i := 47) rfl) (by decide) (by rw [tb_b186]; decide +kernel) ?_
            refine x_cP (t := 6) (mj := 170) (n := 2) (rc := 12) (ml := 4) (nr := 0) (np := 76) (as := [x_r 75, x_b (8 + 1)]) (rest := []) (lo1 := [x_r 75, x_b (8 + 1), 147573952589676412928, 147573952589676412928]) (by decide +kernel) (by decide) (by decide +kernel) (x_rb_of (by decide +kernel)) rfl rfl (x_wr (by decide) (x_wB (by decide) x_wn)) x_wn (by decide) rfl (c170_75_S0 hJ  (by decide) hT) (fun v48 l49 q50 => ?_)
            obtain ⟨b53, c51, c52⟩ := q50
            have b54 : iv_tl 8 = 4 := by decide
            refine x_ifz (k := 0) (tg := 84) (np := 79) (by decide +kernel) (by decide) l49 (fun q55 => ?_) (fun q56 => ?_)
            · have q55 : v48 = 2147483648 := q55
              refine x_aload (np := 85) (x := 0) (by decide +kernel) rfl (x_nc_le (by decide)) ?_
              refine x_ldcB (i := 13) (idx := 214) (tx := "seen") (by rw [tb_y186]; exact List.mem_of_getElem? (i := 52) rfl) (by decide) (by rw [tb_b186]; decide +kernel) ?_
              refine x_cP (t := 6) (mj := 170) (n := 2) (rc := 12) (ml := 4) (nr := 0) (np := 90) (as := [x_r 75, x_b (13 + 1)]) (rest := []) (lo1 := [x_r 75, x_b (13 + 1), 147573952589676412928, 147573952589676412928]) (by decide +kernel) (by decide) (by decide +kernel) (x_rb_of (by decide +kernel)) rfl rfl (x_wr (by decide) (x_wB (by decide) x_wn)) x_wn (by decide) rfl (c170_75_S0 hJ  (by decide) hT) (fun v57 l58 q59 => ?_)
              obtain ⟨b62, c60, c61⟩ := q59
              have b63 : iv_tl 13 = 4 := by decide
              refine x_ifz (k := 0) (tg := 104) (np := 93) (by decide +kernel) (by decide) l58 (fun q64 => ?_) (fun q65 => ?_)
              · have q64 : v57 = 2147483648 := q64
                refine x_const (np := 105) (x := 9223372039002259456) (a := 2147483648) (by decide +kernel) (by decide) (by decide) ?_
                have b66 := jB (e := 0) 0 hJ rg_78_0_0_1 (by first | decide | omega) (by first | decide | omega)
                have b67 := jB (e := 0) 0 hJ rg_76_0_0_1 (by first | decide | omega) (by first | decide | omega)
                have b68 := jB (e := 2) 0 hJ rg_78_2_0_1 (by first | decide | omega) (by first | decide | omega)
                have b69 := jB (e := 3) 0 hJ rg_78_3_0_1 (by first | decide | omega) (by first | decide | omega)
                have b70 := jB (e := 4) 0 hJ rg_78_4_0_1 (by first | decide | omega) (by first | decide | omega)
                have b71 := jB (e := 5) 0 hJ rg_78_5_0_1 (by first | decide | omega) (by first | decide | omega)
                refine x_retI (np := 106) (x := 0) (by decide +kernel) (by decide) (Or.inr ⟨by decide +kernel, by first | decide | omega, by first | decide | omega⟩) ⟨_, rfl, (by decide), ?_⟩
                exact ⟨hJ, hF, (by first | decide | omega), (fun z => by first | decide | omega), (fun z => by first | decide | omega), (fun z => absurd z (by first | decide | omega)), (l9_no (Wd.no (by decide) (Is.no c5 (by first | decide | omega)) hp0) (Wd.no (by decide) (Is.no c43 (by first | decide | omega)) hp0) (Wd.no (by decide) (Is.no c52 (by first | decide | omega)) hp0) (Wd.no (by decide) (Is.no c61 (by first | decide | omega)) hp0) (Wd.no (by decide) (Is.no c16 (by first | decide | omega)) hp0) (Wd.no (by decide) (Is.no c25 (by first | decide | omega)) hp0) (Wd.no (by decide) (Is.no c34 (by first | decide | omega)) hp0) (by first | decide | omega)), (fun _ => lF_no (Wd.no (by decide) (Is.no c5 (by first | decide | omega)) hp0) (Wd.no (by decide) (Is.no c43 (by first | decide | omega)) hp0) (Wd.no (by decide) (Is.no c52 (by first | decide | omega)) hp0) (Wd.no (by decide) (Is.no c61 (by first | decide | omega)) hp0) (Wd.no (by decide) (Is.no c16 (by first | decide | omega)) hp0) (Wd.no (by decide) (Is.no c25 (by first | decide | omega)) hp0) (Wd.no (by decide) (Is.no c34 (by first | decide | omega)) hp0) rfl)⟩
              have q65 : ¬ (v57 = 2147483648) := q65
              have b72 := c60 (by first | decide | omega)
              refine x_aload (np := 94) (x := 0) (by decide +kernel) rfl (x_nc_le (by decide)) ?_
              refine x_cI (t := 6) (mj := 185) (n := 1) (rc := 12) (ml := 4) (nr := 0) (np := 97) (as := [x_r 75]) (rest := []) (lo1 := [x_r 75, 147573952589676412928, 147573952589676412928, 147573952589676412928]) (by decide +kernel) (by decide) (by decide +kernel) (x_rb_of (by decide +kernel)) rfl rfl (x_wr (by decide) x_wn) x_wn (by decide) rfl (c185_75 hJ  hC hT) (fun v73 h76 l74 q75 => ?_)
              obtain ⟨j77, f78, b79, c80, c81, c82, c83, c84, c85, c86, c87, c88⟩ := q75
              have f89 := Fr.trans hF f78 (by decide)
              have b90 := jB (e := 0) 0 hJ rg_78_0_0_1 (by first | decide | omega) (by first | decide | omega)
              have b91 := jB (e := 0) 0 j77 rg_78_0_0_1 (by first | decide | omega) (by first | decide | omega)
              have b92 := jB (e := 2) 0 hJ rg_78_2_0_1 (by first | decide | omega) (by first | decide | omega)
              have b93 := jB (e := 2) 0 j77 rg_78_2_0_1 (by first | decide | omega) (by first | decide | omega)
              have b94 := jB (e := 3) 0 hJ rg_78_3_0_1 (by first | decide | omega) (by first | decide | omega)
              have b95 := jB (e := 3) 0 j77 rg_78_3_0_1 (by first | decide | omega) (by first | decide | omega)
              have b96 := jB (e := 4) 0 hJ rg_78_4_0_1 (by first | decide | omega) (by first | decide | omega)
              have b97 := jB (e := 4) 0 j77 rg_78_4_0_1 (by first | decide | omega) (by first | decide | omega)
              have b98 := jB (e := 5) 0 hJ rg_78_5_0_1 (by first | decide | omega) (by first | decide | omega)
              have b99 := jB (e := 5) 0 j77 rg_78_5_0_1 (by first | decide | omega) (by first | decide | omega)
              refine x_ifz (k := 0) (tg := 104) (np := 100) (by decide +kernel) (by decide) l74 (fun q100 => ?_) (fun q101 => ?_)
              · have q100 : v73 = 2147483648 := q100
                refine x_const (np := 105) (x := 9223372039002259456) (a := 2147483648) (by decide +kernel) (by decide) (by decide) ?_
                have b102 := jB (e := 0) 0 hJ rg_76_0_0_1 (by first | decide | omega) (by first | decide | omega)
                have y103 := Is.yes c61 (by first | decide | omega)
                have k104 : line9 tB tN (h 76 0) (h 78 2) (h 78 3) (h 78 4) (h 78 5) (h 75 9) (rs5 2147483648 (sk tB tN (h76 75 7)) (h76 78 2) (h76 78 3) (h76 78 4) (h76 78 5)) := by
                  rcases c87 with ⟨z1, z2⟩ | ⟨z1, z2⟩
                  · exact l9_seen0 (Wd.of' (by decide) y103 hp0) rfl (by first | decide | omega) (by first | decide | omega)
                  · exact l9_seen (Wd.of' (by decide) y103 hp0) rfl (by first | decide | omega) (congrArg (sk tB tN) y103.1) rfl z2 (by first | decide | omega) (by first | decide | omega) (fun z => by have y0 := c80 z; have y1 := c81 z; have y2 := c82 z; have y3 := c83 z; have y4 := c84 z; have y5 := c85 z; exact ⟨rfl, by first | decide | omega, by first | decide | omega, by first | decide | omega, by first | decide | omega⟩)
                have y106 := Is.yes c61 (by first | decide | omega)
                refine x_retI (np := 106) (x := 0) (by decide +kernel) (by decide) (Or.inr ⟨by decide +kernel, by first | decide | omega, by first | decide | omega⟩) ⟨_, rfl, (by decide), ?_⟩
                exact ⟨j77, f89, (by first | decide | omega), (fun z => by first | decide | omega), (fun z => by first | decide | omega), (fun z => absurd z (by first | decide | omega)), k104, (fun zz => (c88 (by first | decide | omega)).elim (fun y1 => lF_seen0 (Wd.of' (by decide) y106 hp0) rfl (by have y2 := y1.1; omega) y1.2) (fun y1 => lF_seen (Wd.of' (by decide) y106 hp0) rfl (by have y2 := y1.1; omega) (congrArg (sk tB tN) y106.1) rfl y1.2))⟩
              have q101 : ¬ (v73 = 2147483648) := q101
              have b107 := c80 (by first | decide | omega)
              have b108 := c81 (by first | decide | omega)
              have b109 := c82 (by first | decide | omega)
              have b110 := c83 (by first | decide | omega)
              have b111 := c84 (by first | decide | omega)
              have b112 := c85 (by first | decide | omega)
              have m113 := c86 (by first | decide | omega)
              refine x_const (np := 101) (x := 9223372043297226753) (a := 2147483649) (by decide +kernel) (by decide) (by decide) ?_
              refine x_goto (np := 104) (x := 105) (by decide +kernel) ?_
              have b114 := jB (e := 0) 0 hJ rg_76_0_0_1 (by first | decide | omega) (by first | decide | omega)
              have y115 := Is.yes c61 (by first | decide | omega)
              have k116 : line9 tB tN (h 76 0) (h 78 2) (h 78 3) (h 78 4) (h 78 5) (h 75 9) (rs5 2147483649 (sk tB tN (h76 75 7)) (h76 78 2) (h76 78 3) (h76 78 4) (h76 78 5)) := by
                rcases c87 with ⟨z1, z2⟩ | ⟨z1, z2⟩
                · exact l9_seen0 (Wd.of' (by decide) y115 hp0) rfl (by first | decide | omega) (by first | decide | omega)
                · exact l9_seen (Wd.of' (by decide) y115 hp0) rfl (by first | decide | omega) (congrArg (sk tB tN) y115.1) rfl z2 (by first | decide | omega) (by first | decide | omega) (fun z => by have y0 := c80 z; have y1 := c81 z; have y2 := c82 z; have y3 := c83 z; have y4 := c84 z; have y5 := c85 z; exact ⟨rfl, by first | decide | omega, by first | decide | omega, by first | decide | omega, by first | decide | omega⟩)
              refine x_retI (np := 106) (x := 0) (by decide +kernel) (by decide) (Or.inr ⟨by decide +kernel, by first | decide | omega, by first | decide | omega⟩) ⟨_, rfl, (by decide), ?_⟩
              exact ⟨j77, f89, (by first | decide | omega), (fun z => by first | decide | omega), (fun z => by first | decide | omega), (fun _ => m113), k116, (fun z => absurd z (by first | decide | omega))⟩
            have q56 : ¬ (v48 = 2147483648) := q56
            have b118 := c51 (by first | decide | omega)
            refine x_aload (np := 80) (x := 0) (by decide +kernel) rfl (x_nc_le (by decide)) ?_
            refine x_cI (t := 6) (mj := 184) (n := 1) (rc := 12) (ml := 2) (nr := 0) (np := 83) (as := [x_r 75]) (rest := []) (lo1 := [x_r 75, 147573952589676412928]) (by decide +kernel) (by decide) (by decide +kernel) (x_rb_of (by decide +kernel)) rfl rfl (x_wr (by decide) x_wn) x_wn (by decide) rfl (c184_75 hJ  hC hT) (fun v119 h122 l120 q121 => ?_)
            obtain ⟨j123, f124, b125, c126, c127, c128, c129, c130, c131, c132, c133, c134⟩ := q121
            have f135 := Fr.trans hF f124 (by decide)
            have b136 := jB (e := 0) 0 hJ rg_78_0_0_1 (by first | decide | omega) (by first | decide | omega)
            have b137 := jB (e := 0) 0 j123 rg_78_0_0_1 (by first | decide | omega) (by first | decide | omega)
            have b138 := jB (e := 2) 0 hJ rg_78_2_0_1 (by first | decide | omega) (by first | decide | omega)
            have b139 := jB (e := 2) 0 j123 rg_78_2_0_1 (by first | decide | omega) (by first | decide | omega)
            have b140 := jB (e := 3) 0 hJ rg_78_3_0_1 (by first | decide | omega) (by first | decide | omega)
            have b141 := jB (e := 3) 0 j123 rg_78_3_0_1 (by first | decide | omega) (by first | decide | omega)
            have b142 := jB (e := 4) 0 hJ rg_78_4_0_1 (by first | decide | omega) (by first | decide | omega)
            have b143 := jB (e := 4) 0 j123 rg_78_4_0_1 (by first | decide | omega) (by first | decide | omega)
            have b144 := jB (e := 5) 0 hJ rg_78_5_0_1 (by first | decide | omega) (by first | decide | omega)
            have b145 := jB (e := 5) 0 j123 rg_78_5_0_1 (by first | decide | omega) (by first | decide | omega)
            have b146 := jB (e := 0) 0 hJ rg_76_0_0_1 (by first | decide | omega) (by first | decide | omega)
            have y147 := Is.yes c52 (by first | decide | omega)
            have k148 : line9 tB tN (h 76 0) (h 78 2) (h 78 3) (h 78 4) (h 78 5) (h 75 9) (rs5 v119 (sk tB tN (h122 75 7)) (h122 78 2) (h122 78 3) (h122 78 4) (h122 78 5)) := by
              rcases c133 with ⟨z1, z2⟩ | ⟨z1, z2⟩
              · exact l9_debt0 (Wd.of' (by decide) y147 hp0) rfl (by first | decide | omega) (by first | decide | omega)
              · exact l9_debt (Wd.of' (by decide) y147 hp0) rfl (by first | decide | omega) (congrArg (sk tB tN) y147.1) rfl z2 (by first | decide | omega) (by first | decide | omega) (fun z => by have y0 := c126 z; have y1 := c127 z; have y2 := c128 z; have y3 := c129 z; have y4 := c130 z; have y5 := c131 z; exact ⟨rfl, by first | decide | omega, by first | decide | omega, by first | decide | omega, by first | decide | omega⟩)
            have y150 := Is.yes c52 (by first | decide | omega)
            refine x_retI (np := 84) (x := 0) (by decide +kernel) l120 (Or.inr ⟨by decide +kernel, by first | decide | omega, by first | decide | omega⟩) ⟨_, rfl, l120, ?_⟩
            exact ⟨j123, f135, (by first | decide | omega), (fun z => by first | decide | omega), (fun z => by first | decide | omega), (fun z => c132 (by first | decide | omega)), k148, (fun zz => (c134 (by first | decide | omega)).elim (fun y1 => lF_debt0 (Wd.of' (by decide) y150 hp0) rfl (by have y2 := y1.1; omega) y1.2) (fun y1 => lF_debt (Wd.of' (by decide) y150 hp0) rfl (by have y2 := y1.1; omega) (congrArg (sk tB tN) y150.1) rfl y1.2))⟩
          have q47 : ¬ (v39 = 2147483648) := q47
          have b151 := c42 (by first | decide | omega)
          refine x_aload (np := 66) (x := 0) (by decide +kernel) rfl (x_nc_le (by decide)) ?_
          refine x_cI (t := 6) (mj := 183) (n := 1) (rc := 12) (ml := 2) (nr := 0) (np := 69) (as := [x_r 75]) (rest := []) (lo1 := [x_r 75, 147573952589676412928]) (by decide +kernel) (by decide) (by decide +kernel) (x_rb_of (by decide +kernel)) rfl rfl (x_wr (by decide) x_wn) x_wn (by decide) rfl (c183_75 hJ  hC hT) (fun v152 h155 l153 q154 => ?_)
          obtain ⟨j156, f157, b158, c159, c160, c161, c162, c163, c164, c165, c166, c167⟩ := q154
          have f168 := Fr.trans hF f157 (by decide)
          have b169 := jB (e := 0) 0 hJ rg_78_0_0_1 (by first | decide | omega) (by first | decide | omega)
          have b170 := jB (e := 0) 0 j156 rg_78_0_0_1 (by first | decide | omega) (by first | decide | omega)
          have b171 := jB (e := 2) 0 hJ rg_78_2_0_1 (by first | decide | omega) (by first | decide | omega)
          have b172 := jB (e := 2) 0 j156 rg_78_2_0_1 (by first | decide | omega) (by first | decide | omega)
          have b173 := jB (e := 3) 0 hJ rg_78_3_0_1 (by first | decide | omega) (by first | decide | omega)
          have b174 := jB (e := 3) 0 j156 rg_78_3_0_1 (by first | decide | omega) (by first | decide | omega)
          have b175 := jB (e := 4) 0 hJ rg_78_4_0_1 (by first | decide | omega) (by first | decide | omega)
          have b176 := jB (e := 4) 0 j156 rg_78_4_0_1 (by first | decide | omega) (by first | decide | omega)
          have b177 := jB (e := 5) 0 hJ rg_78_5_0_1 (by first | decide | omega) (by first | decide | omega)
          have b178 := jB (e := 5) 0 j156 rg_78_5_0_1 (by first | decide | omega) (by first | decide | omega)
          have b179 := jB (e := 0) 0 hJ rg_76_0_0_1 (by first | decide | omega) (by first | decide | omega)
          have y180 := Is.yes c43 (by first | decide | omega)
          have k181 : line9 tB tN (h 76 0) (h 78 2) (h 78 3) (h 78 4) (h 78 5) (h 75 9) (rs5 v152 (sk tB tN (h155 75 7)) (h155 78 2) (h155 78 3) (h155 78 4) (h155 78 5)) := by
            rcases c166 with ⟨z1, z2⟩ | ⟨z1, z2⟩
            · exact l9_letter0 (Wd.of' (by decide) y180 hp0) rfl (by first | decide | omega) (by first | decide | omega)
            · exact l9_letter (Wd.of' (by decide) y180 hp0) rfl (by first | decide | omega) (congrArg (sk tB tN) y180.1) rfl z2 (by first | decide | omega) (by first | decide | omega) (fun z => by have y0 := c159 z; have y1 := c160 z; have y2 := c161 z; have y3 := c162 z; have y4 := c163 z; have y5 := c164 z; exact ⟨rfl, by first | decide | omega, by first | decide | omega, by first | decide | omega, by first | decide | omega⟩)
          have y183 := Is.yes c43 (by first | decide | omega)
          refine x_retI (np := 70) (x := 0) (by decide +kernel) l153 (Or.inr ⟨by decide +kernel, by first | decide | omega, by first | decide | omega⟩) ⟨_, rfl, l153, ?_⟩
          exact ⟨j156, f168, (by first | decide | omega), (fun z => by first | decide | omega), (fun z => by first | decide | omega), (fun z => c165 (by first | decide | omega)), k181, (fun zz => (c167 (by first | decide | omega)).elim (fun y1 => lF_letter0 (Wd.of' (by decide) y183 hp0) rfl (by have y2 := y1.1; omega) y1.2) (fun y1 => lF_letter (Wd.of' (by decide) y183 hp0) rfl (by have y2 := y1.1; omega) (congrArg (sk tB tN) y183.1) rfl y1.2))⟩
        have q38 : ¬ (v30 = 2147483648) := q38
        have b184 := c33 (by first | decide | omega)
        refine x_aload (np := 52) (x := 0) (by decide +kernel) rfl (x_nc_le (by decide)) ?_
        refine x_cI (t := 6) (mj := 182) (n := 1) (rc := 12) (ml := 2) (nr := 0) (np := 55) (as := [x_r 75]) (rest := []) (lo1 := [x_r 75, 147573952589676412928]) (by decide +kernel) (by decide) (by decide +kernel) (x_rb_of (by decide +kernel)) rfl rfl (x_wr (by decide) x_wn) x_wn (by decide) rfl (c182_75 hJ  hC hT) (fun v185 h188 l186 q187 => ?_)
        obtain ⟨j189, f190, b191, c192, c193, c194, c195, c196, c197, c198, c199, c200⟩ := q187
        have f201 := Fr.trans hF f190 (by decide)
        have b202 := jB (e := 0) 0 hJ rg_78_0_0_1 (by first | decide | omega) (by first | decide | omega)
        have b203 := jB (e := 0) 0 j189 rg_78_0_0_1 (by first | decide | omega) (by first | decide | omega)
        have b204 := jB (e := 2) 0 hJ rg_78_2_0_1 (by first | decide | omega) (by first | decide | omega)
        have b205 := jB (e := 2) 0 j189 rg_78_2_0_1 (by first | decide | omega) (by first | decide | omega)
        have b206 := jB (e := 3) 0 hJ rg_78_3_0_1 (by first | decide | omega) (by first | decide | omega)
        have b207 := jB (e := 3) 0 j189 rg_78_3_0_1 (by first | decide | omega) (by first | decide | omega)
        have b208 := jB (e := 4) 0 hJ rg_78_4_0_1 (by first | decide | omega) (by first | decide | omega)
        have b209 := jB (e := 4) 0 j189 rg_78_4_0_1 (by first | decide | omega) (by first | decide | omega)
        have b210 := jB (e := 5) 0 hJ rg_78_5_0_1 (by first | decide | omega) (by first | decide | omega)
        have b211 := jB (e := 5) 0 j189 rg_78_5_0_1 (by first | decide | omega) (by first | decide | omega)
        have b212 := jB (e := 0) 0 hJ rg_76_0_0_1 (by first | decide | omega) (by first | decide | omega)
        have y213 := Is.yes c34 (by first | decide | omega)
        have y214 := Is.yes c34 (by first | decide | omega)
        refine x_retI (np := 56) (x := 0) (by decide +kernel) l186 (Or.inr ⟨by decide +kernel, by first | decide | omega, by first | decide | omega⟩) ⟨_, rfl, l186, ?_⟩
        exact ⟨j189, f201, (by first | decide | omega), (fun z => by first | decide | omega), (fun z => by first | decide | omega), (fun z => c198 (by first | decide | omega)), (l9_court (Wd.of' (by decide) y213 hp0) rfl (congrArg (sk tB tN) y213.1) rfl c199 (by first | decide | omega) (by first | decide | omega) (fun z => by have y0 := c192 z; have y1 := c193 z; have y2 := c194 z; have y3 := c195 z; have y4 := c196 z; have y5 := c197 z; exact ⟨rfl, by first | decide | omega, by first | decide | omega, by first | decide | omega, by first | decide | omega⟩)), (fun zz => lF_court (Wd.of' (by decide) y214 hp0) rfl (congrArg (sk tB tN) y214.1) rfl (c200 (by first | decide | omega)))⟩
      have q29 : ¬ (v21 = 2147483648) := q29
      have b215 := c24 (by first | decide | omega)
      refine x_aload (np := 38) (x := 0) (by decide +kernel) rfl (x_nc_le (by decide)) ?_
      refine x_cI (t := 6) (mj := 181) (n := 1) (rc := 12) (ml := 3) (nr := 0) (np := 41) (as := [x_r 75]) (rest := []) (lo1 := [x_r 75, 147573952589676412928, 147573952589676412928]) (by decide +kernel) (by decide) (by decide +kernel) (x_rb_of (by decide +kernel)) rfl rfl (x_wr (by decide) x_wn) x_wn (by decide) rfl (c181_75 hJ  hC hT) (fun v216 h219 l217 q218 => ?_)
      obtain ⟨j220, f221, b222, c223, c224, c225, c226, c227, c228, c229, c230, c231⟩ := q218
      have f232 := Fr.trans hF f221 (by decide)
      have b233 := jB (e := 0) 0 hJ rg_78_0_0_1 (by first | decide | omega) (by first | decide | omega)
      have b234 := jB (e := 0) 0 j220 rg_78_0_0_1 (by first | decide | omega) (by first | decide | omega)
      have b235 := jB (e := 2) 0 hJ rg_78_2_0_1 (by first | decide | omega) (by first | decide | omega)
      have b236 := jB (e := 2) 0 j220 rg_78_2_0_1 (by first | decide | omega) (by first | decide | omega)
      have b237 := jB (e := 3) 0 hJ rg_78_3_0_1 (by first | decide | omega) (by first | decide | omega)
      have b238 := jB (e := 3) 0 j220 rg_78_3_0_1 (by first | decide | omega) (by first | decide | omega)
      have b239 := jB (e := 4) 0 hJ rg_78_4_0_1 (by first | decide | omega) (by first | decide | omega)
      have b240 := jB (e := 4) 0 j220 rg_78_4_0_1 (by first | decide | omega) (by first | decide | omega)
      have b241 := jB (e := 5) 0 hJ rg_78_5_0_1 (by first | decide | omega) (by first | decide | omega)
      have b242 := jB (e := 5) 0 j220 rg_78_5_0_1 (by first | decide | omega) (by first | decide | omega)
      have b243 := jB (e := 0) 0 hJ rg_76_0_0_1 (by first | decide | omega) (by first | decide | omega)
      have y244 := Is.yes c25 (by first | decide | omega)
      have y245 := Is.yes c25 (by first | decide | omega)
      refine x_retI (np := 42) (x := 0) (by decide +kernel) l217 (Or.inr ⟨by decide +kernel, by first | decide | omega, by first | decide | omega⟩) ⟨_, rfl, l217, ?_⟩
      exact ⟨j220, f232, (by first | decide | omega), (fun z => by first | decide | omega), (fun z => by first | decide | omega), (fun z => c229 (by first | decide | omega)), (l9_dies (Wd.of' (by decide) y244 hp0) rfl (congrArg (sk tB tN) y244.1) rfl c230 (by first | decide | omega) (by first | decide | omega) (fun z => by have y0 := c223 z; have y1 := c224 z; have y2 := c225 z; have y3 := c226 z; have y4 := c227 z; have y5 := c228 z; exact ⟨rfl, by first | decide | omega, by first | decide | omega, by first | decide | omega, by first | decide | omega⟩)), (fun zz => lF_dies (Wd.of' (by decide) y245 hp0) rfl (congrArg (sk tB tN) y245.1) rfl (c231 (by first | decide | omega)))⟩
    have q20 : ¬ (v12 = 2147483648) := q20
    have b246 := c15 (by first | decide | omega)
    refine x_aload (np := 24) (x := 0) (by decide +kernel) rfl (x_nc_le (by decide)) ?_
    refine x_cI (t := 6) (mj := 180) (n := 1) (rc := 12) (ml := 2) (nr := 0) (np := 27) (as := [x_r 75]) (rest := []) (lo1 := [x_r 75, 147573952589676412928]) (by decide +kernel) (by decide) (by decide +kernel) (x_rb_of (by decide +kernel)) rfl rfl (x_wr (by decide) x_wn) x_wn (by decide) rfl (c180_75 hJ  hC hT) (fun v247 h250 l248 q249 => ?_)
    obtain ⟨j251, f252, b253, c254, c255, c256, c257, c258, c259, c260, c261, c262⟩ := q249
    have f263 := Fr.trans hF f252 (by decide)
    have b264 := jB (e := 0) 0 hJ rg_78_0_0_1 (by first | decide | omega) (by first | decide | omega)
    have b265 := jB (e := 0) 0 j251 rg_78_0_0_1 (by first | decide | omega) (by first | decide | omega)
    have b266 := jB (e := 2) 0 hJ rg_78_2_0_1 (by first | decide | omega) (by first | decide | omega)
    have b267 := jB (e := 2) 0 j251 rg_78_2_0_1 (by first | decide | omega) (by first | decide | omega)
    have b268 := jB (e := 3) 0 hJ rg_78_3_0_1 (by first | decide | omega) (by first | decide | omega)
    have b269 := jB (e := 3) 0 j251 rg_78_3_0_1 (by first | decide | omega) (by first | decide | omega)
    have b270 := jB (e := 4) 0 hJ rg_78_4_0_1 (by first | decide | omega) (by first | decide | omega)
    have b271 := jB (e := 4) 0 j251 rg_78_4_0_1 (by first | decide | omega) (by first | decide | omega)
    have b272 := jB (e := 5) 0 hJ rg_78_5_0_1 (by first | decide | omega) (by first | decide | omega)
    have b273 := jB (e := 5) 0 j251 rg_78_5_0_1 (by first | decide | omega) (by first | decide | omega)
    have b274 := jB (e := 0) 0 hJ rg_76_0_0_1 (by first | decide | omega) (by first | decide | omega)
    have y275 := Is.yes c16 (by first | decide | omega)
    have y276 := Is.yes c16 (by first | decide | omega)
    refine x_retI (np := 28) (x := 0) (by decide +kernel) l248 (Or.inr ⟨by decide +kernel, by first | decide | omega, by first | decide | omega⟩) ⟨_, rfl, l248, ?_⟩
    exact ⟨j251, f263, (by first | decide | omega), (fun z => by first | decide | omega), (fun z => by first | decide | omega), (fun z => c260 (by first | decide | omega)), (l9_late (Wd.of' (by decide) y275 hp0) rfl (congrArg (sk tB tN) y275.1) rfl c261 (by first | decide | omega) (by first | decide | omega) (fun z => by have y0 := c254 z; have y1 := c255 z; have y2 := c256 z; have y3 := c257 z; have y4 := c258 z; have y5 := c259 z; exact ⟨rfl, by first | decide | omega, by first | decide | omega, by first | decide | omega, by first | decide | omega⟩)), (fun zz => lF_late (Wd.of' (by decide) y276 hp0) rfl (congrArg (sk tB tN) y276.1) rfl (c262 (by first | decide | omega)))⟩
  have q11 : ¬ (v1 = 2147483648) := q11
  have b277 := c4 (by first | decide | omega)
  refine x_aload (np := 10) (x := 0) (by decide +kernel) rfl (x_nc_le (by decide)) ?_
  refine x_cI (t := 6) (mj := 179) (n := 1) (rc := 12) (ml := 2) (nr := 0) (np := 13) (as := [x_r 75]) (rest := []) (lo1 := [x_r 75, 147573952589676412928]) (by decide +kernel) (by decide) (by decide +kernel) (x_rb_of (by decide +kernel)) rfl rfl (x_wr (by decide) x_wn) x_wn (by decide) rfl (c179_75 hJ  hC hT) (fun v278 h281 l279 q280 => ?_)
  obtain ⟨j282, f283, b284, c285, c286, c287, c288, c289, c290, c291, c292, c293⟩ := q280
  have f294 := Fr.trans hF f283 (by decide)
  have b295 := jB (e := 0) 0 hJ rg_78_0_0_1 (by first | decide | omega) (by first | decide | omega)
  have b296 := jB (e := 0) 0 j282 rg_78_0_0_1 (by first | decide | omega) (by first | decide | omega)
  have b297 := jB (e := 2) 0 hJ rg_78_2_0_1 (by first | decide | omega) (by first | decide | omega)
  have b298 := jB (e := 2) 0 j282 rg_78_2_0_1 (by first | decide | omega) (by first | decide | omega)
  have b299 := jB (e := 3) 0 hJ rg_78_3_0_1 (by first | decide | omega) (by first | decide | omega)
  have b300 := jB (e := 3) 0 j282 rg_78_3_0_1 (by first | decide | omega) (by first | decide | omega)
  have b301 := jB (e := 4) 0 hJ rg_78_4_0_1 (by first | decide | omega) (by first | decide | omega)
  have b302 := jB (e := 4) 0 j282 rg_78_4_0_1 (by first | decide | omega) (by first | decide | omega)
  have b303 := jB (e := 5) 0 hJ rg_78_5_0_1 (by first | decide | omega) (by first | decide | omega)
  have b304 := jB (e := 5) 0 j282 rg_78_5_0_1 (by first | decide | omega) (by first | decide | omega)
  have b305 := jB (e := 0) 0 hJ rg_76_0_0_1 (by first | decide | omega) (by first | decide | omega)
  have y306 := Is.yes c5 (by first | decide | omega)
  have k307 : line9 tB tN (h 76 0) (h 78 2) (h 78 3) (h 78 4) (h 78 5) (h 75 9) (rs5 v278 (sk tB tN (h281 75 7)) (h281 78 2) (h281 78 3) (h281 78 4) (h281 78 5)) := by
    rcases c292 with ⟨z1, z2⟩ | ⟨z1, z2⟩
    · exact l9_lend0 (Wd.of' (by decide) y306 hp0) rfl (by first | decide | omega) (by first | decide | omega)
    · exact l9_lend (Wd.of' (by decide) y306 hp0) rfl (by first | decide | omega) (congrArg (sk tB tN) y306.1) rfl z2 (by first | decide | omega) (by first | decide | omega) (fun z => by have y0 := c285 z; have y1 := c286 z; have y2 := c287 z; have y3 := c288 z; have y4 := c289 z; have y5 := c290 z; exact ⟨rfl, by first | decide | omega, by first | decide | omega, by first | decide | omega, by first | decide | omega⟩)
  have y309 := Is.yes c5 (by first | decide | omega)
  refine x_retI (np := 14) (x := 0) (by decide +kernel) l279 (Or.inr ⟨by decide +kernel, by first | decide | omega, by first | decide | omega⟩) ⟨_, rfl, l279, ?_⟩
  exact ⟨j282, f294, (by first | decide | omega), (fun z => by first | decide | omega), (fun z => by first | decide | omega), (fun z => c291 (by first | decide | omega)), k307, (fun zz => (c293 (by first | decide | omega)).elim (fun y1 => lF_lend0 (Wd.of' (by decide) y309 hp0) rfl (by have y2 := y1.1; omega) y1.2) (fun y1 => lF_lend (Wd.of' (by decide) y309 hp0) rfl (by have y2 := y1.1; omega) (congrArg (sk tB tN) y309.1) rfl y1.2))⟩
set_option maxHeartbeats 0 in
/-- LentNamesModel.readAll(Z)I -/
theorem c194_75_c1 {sc : Nat × Nat} {d  : Nat} {h : xh} {tB : Nat → Nat} {tN : Nat} (hJ : J h) (hC : Cl h) (hT : Tr tB tN h) : X sc 194 (d + 8) (xI fun r h' => J h' ∧ Fr 293076993 h h' ∧ (2147483647 ≤ r ∧ r ≤ 2147483662) ∧ (h' 75 6 = 2147483648) ∧ (2147483648 ≤ r → h' 78 0 = h 78 0) ∧ (2147483648 ≤ r → h' 78 1 = h 78 1) ∧ (2147483648 ≤ r → Cl h') ∧ Tt tB tN (h 76 0) (h 78 2) (h 78 3) (h 78 4) (h 78 5) (rt4 r (h' 78 2) (h' 78 3) (h' 78 4) (h' 78 5)) ∧ (r = 2147483647 → TF tB tN (h 76 0) (h 78 2) (h 78 3) (h 78 4) (h 78 5) (h' 75 9))) 0 0 0 [x_r 75, iv_c 2147483649, 147573952589676412928] [] h := by
  have hF := Fr.refl 293076993 h
  refine x_aload (np := 1) (x := 0) (by decide +kernel) rfl (x_nc_le (by decide)) ?_
  refine x_aload (np := 2) (x := 0) (by decide +kernel) rfl (x_nc_le (by decide)) ?_
  have b1 := jB (e := 6) 0 hJ rg_75_6_0_1 (by first | decide | omega) (by first | decide | omega)
  refine x_getC (np := 5) (x := 710) (f := 6) (q := (h 75 6)) (by decide +kernel) (by decide) (by decide +kernel) rfl (fun l2 => ?_)
  refine x_putI (np := 8) (x := 712) (f := 8) (by decide +kernel) (by decide +kernel) l2 (Or.inl (by decide)) ?_
  have j4 := jU (e := 8) (v := (h 75 6)) 0 hJ rg_75_8_0_1 (by first | decide | omega) (by first | decide | omega) (by first | decide | omega)
  have f6 := jF (e := 8) (v := (h 75 6)) 0 hF rg_75_8_0_1 (by first | decide | omega) (by first | decide | omega) (by decide)
  generalize e5 : x_up h 75 8 (h 75 6) = h3 at j4 f6 ⊢
  refine x_aload (np := 9) (x := 0) (by decide +kernel) rfl (x_nc_le (by decide)) ?_
  refine x_const (np := 10) (x := 9223372039002259456) (a := 2147483648) (by decide +kernel) (by decide) (by decide) ?_
  refine x_putI (np := 13) (x := 710) (f := 6) (by decide +kernel) (by decide +kernel) (by decide) (Or.inl (by decide)) ?_
  have j8 := jU (e := 6) (v := 2147483648) 0 j4 rg_75_6_0_1 (by first | decide | omega) (by first | decide | omega) (by first | decide | omega)
  have f10 := jF (e := 6) (v := 2147483648) 0 f6 rg_75_6_0_1 (by first | decide | omega) (by first | decide | omega) (by decide)
  generalize e9 : x_up h3 75 6 2147483648 = h7 at j8 f10 ⊢
  refine x_aload (np := 14) (x := 0) (by decide +kernel) rfl (x_nc_le (by decide)) ?_
  refine x_const (np := 15) (x := 9223372039002259456) (a := 2147483648) (by decide +kernel) (by decide) (by decide) ?_
  refine x_putI (np := 18) (x := 711) (f := 7) (by decide +kernel) (by decide +kernel) (by decide) (Or.inl (by decide)) ?_
  have j12 := jU (e := 7) (v := 2147483648) 0 j8 rg_75_7_0_1 (by first | decide | omega) (by first | decide | omega) (by first | decide | omega)
  have f14 := jF (e := 7) (v := 2147483648) 0 f10 rg_75_7_0_1 (by first | decide | omega) (by first | decide | omega) (by decide)
  generalize e13 : x_up h7 75 7 2147483648 = h11 at j12 f14 ⊢
  refine x_aload (np := 19) (x := 0) (by decide +kernel) rfl (x_nc_le (by decide)) ?_
  refine x_const (np := 20) (x := 9223372039002259456) (a := 2147483648) (by decide +kernel) (by decide) (by decide) ?_
  refine x_putI (np := 23) (x := 717) (f := 13) (by decide +kernel) (by decide +kernel) (by decide) (Or.inl (by decide)) ?_
  have j16 := jU (e := 13) (v := 2147483648) 0 j12 rg_75_13_0_1 (by first | decide | omega) (by first | decide | omega) (by first | decide | omega)
  have f18 := jF (e := 13) (v := 2147483648) 0 f14 rg_75_13_0_1 (by first | decide | omega) (by first | decide | omega) (by decide)
  generalize e17 : x_up h11 75 13 2147483648 = h15 at j16 f18 ⊢
  refine x_aload (np := 24) (x := 0) (by decide +kernel) rfl (x_nc_le (by decide)) ?_
  have m25 : Tq tB tN h3 := by rw [← e5]; exact Tr.tq hT (by first | decide | omega)
  have m24 : Tq tB tN h7 := by rw [← e9]; exact Tq.oth m25 (by decide) (by decide)
  have m23 : Tq tB tN h11 := by rw [← e13]; exact Tq.oth m24 (by decide) (by decide)
  have m22 : Tq tB tN h15 := by rw [← e17]; exact Tq.oth m23 (by decide) (by decide)
  refine x_cV (t := 6) (mj := 168) (n := 1) (rc := 12) (ml := 1) (nr := 0) (np := 27) (as := [x_r 75]) (rest := []) (lo1 := [x_r 75]) (by decide +kernel) (by decide) (by decide +kernel) (x_rb_of (by decide +kernel)) rfl rfl (x_wr (by decide) x_wn) x_wn (by decide) rfl (c168_75 j16  m22) (fun h26 q21 => ?_)
  obtain ⟨j27, f28, c31, c32, c33, c34⟩ := q21
  have f35 := Fr.trans f18 f28 (by decide)
  have q36 : h15 75 7 = h11 75 7 := by rw [← e17]; exact x_up_i (by first | decide | omega)
  have q37 : h11 75 7 = 2147483648 := by rw [← e13]; exact x_up_at
  have b38 := jB (e := 7) 0 j27 rg_75_7_0_1 (by first | decide | omega) (by first | decide | omega)
  have b39 := jB (e := 9) 0 j27 rg_75_9_0_1 (by first | decide | omega) (by first | decide | omega)
  refine x_aload (np := 28) (x := 0) (by decide +kernel) rfl (x_nc_le (by decide)) ?_
  refine x_getC (np := 31) (x := 711) (f := 7) (q := (h26 75 7)) (by decide +kernel) (by decide) (by decide +kernel) rfl (fun l40 => ?_)
  refine x_aload (np := 32) (x := 0) (by decide +kernel) rfl (x_nc_le (by decide)) ?_
  have q41 : h26 75 8 = h15 75 8 := jK 0 f28 rg_75_8_0_1 (by first | decide | omega) (by first | decide | omega) (by decide)
  have q42 : h15 75 8 = h11 75 8 := by rw [← e17]; exact x_up_i (by first | decide | omega)
  have q43 : h11 75 8 = h7 75 8 := by rw [← e13]; exact x_up_i (by first | decide | omega)
  have q44 : h7 75 8 = h3 75 8 := by rw [← e9]; exact x_up_i (by first | decide | omega)
  have q45 : h3 75 8 = (h 75 6) := by rw [← e5]; exact x_up_at
  refine x_getC (np := 35) (x := 712) (f := 8) (q := (h 75 6)) (by decide +kernel) (by decide) (by decide +kernel) ((((q41.trans q42).trans q43).trans q44).trans q45) (fun l46 => ?_)
  refine x_icmp (k := 1) (tg := 40) (np := 38) (by decide +kernel) (by decide) l40 l2 (fun q47 => ?_) (fun q48 => ?_)
  · have q47 : (h26 75 7) ≠ (h 75 6) := q47
    refine x_const (np := 41) (x := 9223372039002259456) (a := 2147483648) (by decide +kernel) (by decide) (by decide) ?_
    refine x_istore (np := 42) (x := 2) (lo' := [x_r 75, iv_c 2147483649, iv_c 2147483648]) (by decide +kernel) (by decide) (Nat.le_of_ble_eq_true rfl) rfl ?_
    have p2004 : ∀ (n : Nat) (v1999 : Nat) (h2001 : xh), 4294967296 - v1999 < n → (2147483648 ≤ v1999 ∧ v1999 ≤ 2147483662) → h2001 78 0 = h 78 0 → h2001 78 1 = h 78 1 → J h2001 → Fr 273678337 h26 h2001 → Cl h2001 → Tl tB tN (h 76 0) (h 78 2) (h 78 3) (h 78 4) (h 78 5) (2147483662 - v1999) (h2001 78 2) (h2001 78 3) (h2001 78 4) (h2001 78 5) (sk tB tN (h2001 75 7)) → TlF tB tN (h 76 0) (h 78 2) (h 78 3) (h 78 4) (h 78 5) (2147483662 - v1999) (h2001 78 2) (h2001 78 3) (h2001 78 4) (h2001 78 5) (sk tB tN (h2001 75 7)) → X sc 194 (d + 8) (xI fun r h' => J h' ∧ Fr 293076993 h h' ∧ (2147483647 ≤ r ∧ r ≤ 2147483662) ∧ (h' 75 6 = 2147483648) ∧ (2147483648 ≤ r → h' 78 0 = h 78 0) ∧ (2147483648 ≤ r → h' 78 1 = h 78 1) ∧ (2147483648 ≤ r → Cl h') ∧ Tt tB tN (h 76 0) (h 78 2) (h 78 3) (h 78 4) (h 78 5) (rt4 r (h' 78 2) (h' 78 3) (h' 78 4) (h' 78 5)) ∧ (r = 2147483647 → TF tB tN (h 76 0) (h 78 2) (h 78 3) (h 78 4) (h 78 5) (h' 75 9))) 0 0 42 [x_r 75, iv_c 2147483649, iv_c v1999] [] h2001 := by
      intro n
      induction n with
      | zero => intro v1999 h2001 q2010; exact absurd q2010 (Nat.not_lt_zero _)
      | succ n i2011 =>
        intro v1999 h2001 q2010 b2000 b2005 b2006 j2003 f2002 m2009 m2007 m2008
        have f2012 := Fr.trans f35 f2002 (by decide)
        have b2013 := jB (e := 2) 0 j2003 rg_78_2_0_1 (by first | decide | omega) (by first | decide | omega)
        have b2014 := jB (e := 3) 0 j2003 rg_78_3_0_1 (by first | decide | omega) (by first | decide | omega)
        have b2015 := jB (e := 4) 0 j2003 rg_78_4_0_1 (by first | decide | omega) (by first | decide | omega)
        have b2016 := jB (e := 5) 0 j2003 rg_78_5_0_1 (by first | decide | omega) (by first | decide | omega)
        refine x_aload (np := 43) (x := 0) (by decide +kernel) rfl (x_nc_le (by decide)) ?_
        have m2021 := Tq.fr m22 f28 (by decide) (by decide)
        have m2020 := Tq.fr m2021 f2002 (by decide) (by decide)
        refine x_cV (t := 6) (mj := 169) (n := 1) (rc := 12) (ml := 1) (nr := 0) (np := 46) (as := [x_r 75]) (rest := []) (lo1 := [x_r 75]) (by decide +kernel) (by decide) (by decide +kernel) (x_rb_of (by decide +kernel)) rfl rfl (x_wr (by decide) x_wn) x_wn (by decide) rfl (c169_75 j2003  m2020) (fun h2022 q2019 => ?_)
        obtain ⟨j2023, f2024, c2027, c2028, c2029, c2030⟩ := q2019
        have f2031 := Fr.trans f2012 f2024 (by decide)
        have f2032 := Fr.trans f2002 f2024 (by decide)
        have b2033 := jB (e := 7) 0 j2003 rg_75_7_0_1 (by first | decide | omega) (by first | decide | omega)
        have b2034 := jB (e := 9) 0 j2023 rg_75_9_0_1 (by first | decide | omega) (by first | decide | omega)
        have b2035 := jB (e := 7) 0 j2023 rg_75_7_0_1 (by first | decide | omega) (by first | decide | omega)
        refine x_iload (np := 47) (x := 2) (by decide +kernel) rfl (by first | decide | omega) ?_
        refine x_iload (np := 48) (x := 1) (by decide +kernel) rfl (by decide) ?_
        refine x_ifz (k := 0) (tg := 56) (np := 51) (by decide +kernel) (by decide) (by decide) (fun q2036 => ?_) (fun q2037 => ?_)
        · have q2036 : 2147483649 = 2147483648 := q2036
          exfalso; omega
        have q2037 : ¬ (2147483649 = 2147483648) := q2037
        refine x_const (np := 53) (x := 9223372099131801614) (a := 2147483662) (by decide +kernel) (by decide) (by decide) ?_
        refine x_goto (np := 56) (x := 58) (by decide +kernel) ?_
        refine x_icmp (k := 0) (tg := 83) (np := 61) (by decide +kernel) (by decide) (by first | decide | omega) (by decide) (fun q2038 => ?_) (fun q2039 => ?_)
        · have q2038 : v1999 = 2147483662 := q2038
          refine x_const (np := 84) (x := 9223372034707292159) (a := 2147483647) (by decide +kernel) (by decide) (by decide) ?_
          have q2040 : h2022 75 6 = h2001 75 6 := jK 0 f2024 rg_75_6_0_1 (by first | decide | omega) (by first | decide | omega) (by decide)
          have q2041 : h2001 75 6 = h26 75 6 := jK 0 f2002 rg_75_6_0_1 (by first | decide | omega) (by first | decide | omega) (by decide)
          have q2042 : h26 75 6 = h15 75 6 := jK 0 f28 rg_75_6_0_1 (by first | decide | omega) (by first | decide | omega) (by decide)
          have q2043 : h15 75 6 = h11 75 6 := by rw [← e17]; exact x_up_i (by first | decide | omega)
          have q2044 : h11 75 6 = h7 75 6 := by rw [← e13]; exact x_up_i (by first | decide | omega)
          have q2045 : h7 75 6 = 2147483648 := by rw [← e9]; exact x_up_at
          have b2046 := jB (e := 0) 0 hJ rg_78_0_0_1 (by first | decide | omega) (by first | decide | omega)
          have q2047 : h2022 78 0 = h2001 78 0 := jK 0 f2024 rg_78_0_0_1 (by first | decide | omega) (by first | decide | omega) (by decide)
          have b2048 := jB (e := 0) 0 j2003 rg_78_0_0_1 (by first | decide | omega) (by first | decide | omega)
          have q2049 : h2022 78 1 = h2001 78 1 := jK 0 f2024 rg_78_1_0_1 (by first | decide | omega) (by first | decide | omega) (by decide)
          have b2050 := jB (e := 2) 0 hJ rg_78_2_0_1 (by first | decide | omega) (by first | decide | omega)
          have q2051 : h2022 78 2 = h2001 78 2 := jK 0 f2024 rg_78_2_0_1 (by first | decide | omega) (by first | decide | omega) (by decide)
          have b2052 := jB (e := 3) 0 hJ rg_78_3_0_1 (by first | decide | omega) (by first | decide | omega)
          have q2053 : h2022 78 3 = h2001 78 3 := jK 0 f2024 rg_78_3_0_1 (by first | decide | omega) (by first | decide | omega) (by decide)
          have b2054 := jB (e := 4) 0 hJ rg_78_4_0_1 (by first | decide | omega) (by first | decide | omega)
          have q2055 : h2022 78 4 = h2001 78 4 := jK 0 f2024 rg_78_4_0_1 (by first | decide | omega) (by first | decide | omega) (by decide)
          have b2056 := jB (e := 5) 0 hJ rg_78_5_0_1 (by first | decide | omega) (by first | decide | omega)
          have q2057 : h2022 78 5 = h2001 78 5 := jK 0 f2024 rg_78_5_0_1 (by first | decide | omega) (by first | decide | omega) (by decide)
          refine x_retI (np := 85) (x := 0) (by decide +kernel) (by decide) (Or.inl (by decide +kernel)) ⟨_, rfl, (by decide), ?_⟩
          exact ⟨j2023, f2031, (by first | decide | omega), (by first | decide | omega), (fun z => by first | decide | omega), (fun z => by first | decide | omega), (fun z => absurd z (by first | decide | omega)), (Tt.r0 (by first | decide | omega) (Tl.full m2007 (by first | decide | omega))), (fun _ => TlF.full m2008 (by first | decide | omega) c2029)⟩
        have q2039 : ¬ (v1999 = 2147483662) := q2039
        refine x_iload (np := 62) (x := 1) (by decide +kernel) rfl (by decide) ?_
        refine x_ifz (k := 0) (tg := 75) (np := 65) (by decide +kernel) (by decide) (by decide) (fun q2058 => ?_) (fun q2059 => ?_)
        · have q2058 : 2147483649 = 2147483648 := q2058
          exfalso; omega
        have q2059 : ¬ (2147483649 = 2147483648) := q2059
        refine x_aload (np := 66) (x := 0) (by decide +kernel) rfl (x_nc_le (by decide)) ?_
        have m2063 := Cl.fr m2009 f2024 (by decide)
        have m2064 := Tq.fr m2020 f2024 (by decide) (by decide)
        refine x_cI (t := 6) (mj := 186) (n := 1) (rc := 12) (ml := 1) (nr := 0) (np := 69) (as := [x_r 75]) (rest := []) (lo1 := [x_r 75]) (by decide +kernel) (by decide) (by decide +kernel) (x_rb_of (by decide +kernel)) rfl rfl (x_wr (by decide) x_wn) x_wn (by decide) rfl (c186_75 j2023  m2063 m2064 c2030) (fun v2060 h2065 l2061 q2062 => ?_)
        obtain ⟨j2066, f2067, b2068, c2069, c2070, c2071, c2072, c2073⟩ := q2062
        have f2074 := Fr.trans f2031 f2067 (by decide)
        have f2075 := Fr.trans f2032 f2067 (by decide)
        have q2076 : h2022 78 0 = h2001 78 0 := jK 0 f2024 rg_78_0_0_1 (by first | decide | omega) (by first | decide | omega) (by decide)
        have b2077 := jB (e := 0) 0 j2003 rg_78_0_0_1 (by first | decide | omega) (by first | decide | omega)
        have b2078 := jB (e := 0) 0 j2066 rg_78_0_0_1 (by first | decide | omega) (by first | decide | omega)
        have q2079 : h2022 78 1 = h2001 78 1 := jK 0 f2024 rg_78_1_0_1 (by first | decide | omega) (by first | decide | omega) (by decide)
        refine x_ifz (k := 0) (tg := 83) (np := 72) (by decide +kernel) (by decide) l2061 (fun q2080 => ?_) (fun q2081 => ?_)
        · have q2080 : v2060 = 2147483648 := q2080
          refine x_const (np := 84) (x := 9223372034707292159) (a := 2147483647) (by decide +kernel) (by decide) (by decide) ?_
          have q2082 : h2065 75 6 = h2022 75 6 := jK 0 f2067 rg_75_6_0_1 (by first | decide | omega) (by first | decide | omega) (by decide)
          have q2083 : h2022 75 6 = h2001 75 6 := jK 0 f2024 rg_75_6_0_1 (by first | decide | omega) (by first | decide | omega) (by decide)
          have q2084 : h2001 75 6 = h26 75 6 := jK 0 f2002 rg_75_6_0_1 (by first | decide | omega) (by first | decide | omega) (by decide)
          have q2085 : h26 75 6 = h15 75 6 := jK 0 f28 rg_75_6_0_1 (by first | decide | omega) (by first | decide | omega) (by decide)
          have q2086 : h15 75 6 = h11 75 6 := by rw [← e17]; exact x_up_i (by first | decide | omega)
          have q2087 : h11 75 6 = h7 75 6 := by rw [← e13]; exact x_up_i (by first | decide | omega)
          have q2088 : h7 75 6 = 2147483648 := by rw [← e9]; exact x_up_at
          have b2089 := jB (e := 0) 0 hJ rg_78_0_0_1 (by first | decide | omega) (by first | decide | omega)
          have b2090 := jB (e := 2) 0 hJ rg_78_2_0_1 (by first | decide | omega) (by first | decide | omega)
          have b2091 := jB (e := 2) 0 j2066 rg_78_2_0_1 (by first | decide | omega) (by first | decide | omega)
          have b2092 := jB (e := 3) 0 hJ rg_78_3_0_1 (by first | decide | omega) (by first | decide | omega)
          have b2093 := jB (e := 3) 0 j2066 rg_78_3_0_1 (by first | decide | omega) (by first | decide | omega)
          have b2094 := jB (e := 4) 0 hJ rg_78_4_0_1 (by first | decide | omega) (by first | decide | omega)
          have b2095 := jB (e := 4) 0 j2066 rg_78_4_0_1 (by first | decide | omega) (by first | decide | omega)
          have b2096 := jB (e := 5) 0 hJ rg_78_5_0_1 (by first | decide | omega) (by first | decide | omega)
          have b2097 := jB (e := 5) 0 j2066 rg_78_5_0_1 (by first | decide | omega) (by first | decide | omega)
          have q2099 : h2022 76 0 = h2001 76 0 := jK 0 f2024 rg_76_0_0_1 (by first | decide | omega) (by first | decide | omega) (by decide)
          have q2100 : h2001 76 0 = h26 76 0 := jK 0 f2002 rg_76_0_0_1 (by first | decide | omega) (by first | decide | omega) (by decide)
          have q2101 : h26 76 0 = h15 76 0 := jK 0 f28 rg_76_0_0_1 (by first | decide | omega) (by first | decide | omega) (by decide)
          have q2102 : h15 76 0 = h11 76 0 := by rw [← e17]; exact x_up_k (by decide)
          have q2103 : h11 76 0 = h7 76 0 := by rw [← e13]; exact x_up_k (by decide)
          have q2104 : h7 76 0 = h3 76 0 := by rw [← e9]; exact x_up_k (by decide)
          have q2105 : h3 76 0 = h 76 0 := by rw [← e5]; exact x_up_k (by decide)
          have b2106 := jB (e := 0) 0 hJ rg_76_0_0_1 (by first | decide | omega) (by first | decide | omega)
          have q2107 : h2022 78 2 = h2001 78 2 := jK 0 f2024 rg_78_2_0_1 (by first | decide | omega) (by first | decide | omega) (by decide)
          have q2108 : h2022 78 3 = h2001 78 3 := jK 0 f2024 rg_78_3_0_1 (by first | decide | omega) (by first | decide | omega) (by decide)
          have q2109 : h2022 78 4 = h2001 78 4 := jK 0 f2024 rg_78_4_0_1 (by first | decide | omega) (by first | decide | omega) (by decide)
          have q2110 : h2022 78 5 = h2001 78 5 := jK 0 f2024 rg_78_5_0_1 (by first | decide | omega) (by first | decide | omega) (by decide)
          have k2098 := l9_pe (pe' := h 76 0) (l1 := h2001 78 2) (t1 := h2001 78 3) (d1 := h2001 78 4) (s1 := h2001 78 5) c2072 (by first | decide | omega) (by first | decide | omega) (by first | decide | omega) (by first | decide | omega) (by first | decide | omega)
          have q2111 : h2022 76 0 = h2001 76 0 := jK 0 f2024 rg_76_0_0_1 (by first | decide | omega) (by first | decide | omega) (by decide)
          have q2112 : h2001 76 0 = h26 76 0 := jK 0 f2002 rg_76_0_0_1 (by first | decide | omega) (by first | decide | omega) (by decide)
          have q2113 : h26 76 0 = h15 76 0 := jK 0 f28 rg_76_0_0_1 (by first | decide | omega) (by first | decide | omega) (by decide)
          have q2114 : h15 76 0 = h11 76 0 := by rw [← e17]; exact x_up_k (by decide)
          have q2115 : h11 76 0 = h7 76 0 := by rw [← e13]; exact x_up_k (by decide)
          have q2116 : h7 76 0 = h3 76 0 := by rw [← e9]; exact x_up_k (by decide)
          have q2117 : h3 76 0 = h 76 0 := by rw [← e5]; exact x_up_k (by decide)
          have q2118 : h2022 78 2 = h2001 78 2 := jK 0 f2024 rg_78_2_0_1 (by first | decide | omega) (by first | decide | omega) (by decide)
          have q2119 : h2022 78 3 = h2001 78 3 := jK 0 f2024 rg_78_3_0_1 (by first | decide | omega) (by first | decide | omega) (by decide)
          have q2120 : h2022 78 4 = h2001 78 4 := jK 0 f2024 rg_78_4_0_1 (by first | decide | omega) (by first | decide | omega) (by decide)
          have q2121 : h2022 78 5 = h2001 78 5 := jK 0 f2024 rg_78_5_0_1 (by first | decide | omega) (by first | decide | omega) (by decide)
          have k2122 := lF_pe (pe' := h 76 0) (l1 := h2001 78 2) (t1 := h2001 78 3) (d1 := h2001 78 4) (s1 := h2001 78 5) (c2073 (by first | decide | omega)) (by first | decide | omega) (by first | decide | omega) (by first | decide | omega) (by first | decide | omega) (by first | decide | omega)
          refine x_retI (np := 85) (x := 0) (by decide +kernel) (by decide) (Or.inl (by decide +kernel)) ⟨_, rfl, (by decide), ?_⟩
          exact ⟨j2066, f2074, (by first | decide | omega), (by first | decide | omega), (fun z => by first | decide | omega), (fun z => by first | decide | omega), (fun z => absurd z (by first | decide | omega)), (Tt.r0 (by first | decide | omega) (Tl.no m2007 (by first | decide | omega) k2098 c2029 (by first | decide | omega))), (fun _ => TF.cast (TlF.no m2008 (by first | decide | omega) k2122 c2029) rfl rfl rfl rfl rfl rfl)⟩
        have q2081 : ¬ (v2060 = 2147483648) := q2081
        have b2123 := c2069 (by first | decide | omega)
        have b2124 := c2070 (by first | decide | omega)
        have m2125 := c2071 (by first | decide | omega)
        refine x_goto (np := 75) (x := 85) (by decide +kernel) ?_
        refine x_aload (np := 86) (x := 0) (by decide +kernel) rfl (x_nc_le (by decide)) ?_
        have m2129 := Tq.fr m2064 f2067 (by decide) (by decide)
        refine x_cV (t := 6) (mj := 168) (n := 1) (rc := 12) (ml := 1) (nr := 0) (np := 89) (as := [x_r 75]) (rest := []) (lo1 := [x_r 75]) (by decide +kernel) (by decide) (by decide +kernel) (x_rb_of (by decide +kernel)) rfl rfl (x_wr (by decide) x_wn) x_wn (by decide) rfl (c168_75 j2066  m2129) (fun h2130 q2128 => ?_)
        obtain ⟨j2131, f2132, c2135, c2136, c2137, c2138⟩ := q2128
        have f2139 := Fr.trans f2074 f2132 (by decide)
        have f2140 := Fr.trans f2075 f2132 (by decide)
        have b2141 := jB (e := 7) 0 j2066 rg_75_7_0_1 (by first | decide | omega) (by first | decide | omega)
        have b2142 := jB (e := 7) 0 j2131 rg_75_7_0_1 (by first | decide | omega) (by first | decide | omega)
        have b2143 := jB (e := 9) 0 j2131 rg_75_9_0_1 (by first | decide | omega) (by first | decide | omega)
        refine x_aload (np := 90) (x := 0) (by decide +kernel) rfl (x_nc_le (by decide)) ?_
        refine x_getC (np := 93) (x := 711) (f := 7) (q := (h2130 75 7)) (by decide +kernel) (by decide) (by decide +kernel) rfl (fun l2144 => ?_)
        refine x_aload (np := 94) (x := 0) (by decide +kernel) rfl (x_nc_le (by decide)) ?_
        have q2145 : h2130 75 8 = h2065 75 8 := jK 0 f2132 rg_75_8_0_1 (by first | decide | omega) (by first | decide | omega) (by decide)
        have q2146 : h2065 75 8 = h2022 75 8 := jK 0 f2067 rg_75_8_0_1 (by first | decide | omega) (by first | decide | omega) (by decide)
        have q2147 : h2022 75 8 = h2001 75 8 := jK 0 f2024 rg_75_8_0_1 (by first | decide | omega) (by first | decide | omega) (by decide)
        have q2148 : h2001 75 8 = h26 75 8 := jK 0 f2002 rg_75_8_0_1 (by first | decide | omega) (by first | decide | omega) (by decide)
        have q2149 : h26 75 8 = h15 75 8 := jK 0 f28 rg_75_8_0_1 (by first | decide | omega) (by first | decide | omega) (by decide)
        have q2150 : h15 75 8 = h11 75 8 := by rw [← e17]; exact x_up_i (by first | decide | omega)
        have q2151 : h11 75 8 = h7 75 8 := by rw [← e13]; exact x_up_i (by first | decide | omega)
        have q2152 : h7 75 8 = h3 75 8 := by rw [← e9]; exact x_up_i (by first | decide | omega)
        have q2153 : h3 75 8 = (h 75 6) := by rw [← e5]; exact x_up_at
        refine x_getC (np := 97) (x := 712) (f := 8) (q := (h 75 6)) (by decide +kernel) (by decide) (by decide +kernel) ((((((((q2145.trans q2146).trans q2147).trans q2148).trans q2149).trans q2150).trans q2151).trans q2152).trans q2153) (fun l2154 => ?_)
        refine x_icmp (k := 1) (tg := 104) (np := 100) (by decide +kernel) (by decide) l2144 l2 (fun q2155 => ?_) (fun q2156 => ?_)
        · have q2155 : (h2130 75 7) ≠ (h 75 6) := q2155
          refine x_aload (np := 105) (x := 0) (by decide +kernel) rfl (x_nc_le (by decide)) ?_
          refine x_const (np := 107) (x := 9223372292405329979) (a := 2147483707) (by decide +kernel) (by decide) (by decide) ?_
          refine x_const (np := 109) (x := 9223372292405329979) (a := 2147483707) (by decide +kernel) (by decide) (by decide) ?_
          refine x_nI (t := 6) (mj := 167) (n := 3) (rc := 12) (ml := 3) (nr := 0) (np := 112) (as := [x_r 75, iv_c 2147483707, iv_c 2147483707]) (rest := []) (lo1 := [x_r 75, iv_c 2147483707, iv_c 2147483707]) (by decide +kernel) (by decide) (by decide +kernel) (x_rb_of (by decide +kernel)) rfl rfl (x_wr (by decide) (x_wi (by decide) (x_wi (by decide) x_wn))) x_wn (by decide) rfl ?_
          refine x_aload (np := 1) (x := 0) (by decide +kernel) rfl (x_nc_le (by decide)) ?_
          refine x_getC (np := 4) (x := 711) (f := 7) (q := (h2130 75 7)) (by decide +kernel) (by decide) (by decide +kernel) rfl (fun l2157 => ?_)
          refine x_aload (np := 5) (x := 0) (by decide +kernel) rfl (x_nc_le (by decide)) ?_
          have q2158 : h2130 75 8 = h2065 75 8 := jK 0 f2132 rg_75_8_0_1 (by first | decide | omega) (by first | decide | omega) (by decide)
          have q2159 : h2065 75 8 = h2022 75 8 := jK 0 f2067 rg_75_8_0_1 (by first | decide | omega) (by first | decide | omega) (by decide)
          have q2160 : h2022 75 8 = h2001 75 8 := jK 0 f2024 rg_75_8_0_1 (by first | decide | omega) (by first | decide | omega) (by decide)
          have q2161 : h2001 75 8 = h26 75 8 := jK 0 f2002 rg_75_8_0_1 (by first | decide | omega) (by first | decide | omega) (by decide)
          have q2162 : h26 75 8 = h15 75 8 := jK 0 f28 rg_75_8_0_1 (by first | decide | omega) (by first | decide | omega) (by decide)
          have q2163 : h15 75 8 = h11 75 8 := by rw [← e17]; exact x_up_i (by first | decide | omega)
          have q2164 : h11 75 8 = h7 75 8 := by rw [← e13]; exact x_up_i (by first | decide | omega)
          have q2165 : h7 75 8 = h3 75 8 := by rw [← e9]; exact x_up_i (by first | decide | omega)
          have q2166 : h3 75 8 = (h 75 6) := by rw [← e5]; exact x_up_at
          refine x_getC (np := 8) (x := 712) (f := 8) (q := (h 75 6)) (by decide +kernel) (by decide) (by decide +kernel) ((((((((q2158.trans q2159).trans q2160).trans q2161).trans q2162).trans q2163).trans q2164).trans q2165).trans q2166) (fun l2167 => ?_)
          refine x_icmp (k := 3) (tg := 41) (np := 11) (by decide +kernel) (by decide) l2144 l2 (fun q2168 => ?_) (fun q2169 => ?_)
          · have q2168 : (h 75 6) ≤ (h2130 75 7) := q2168
            refine x_const (np := 42) (x := 9223372039002259456) (a := 2147483648) (by decide +kernel) (by decide) (by decide) ?_
            refine x_retI (np := 43) (x := 0) (by decide +kernel) (by decide) (Or.inr ⟨by decide +kernel, by first | decide | omega, by first | decide | omega⟩) ⟨_, rfl, (by decide), ?_⟩
            refine x_ifz (k := 1) (tg := 117) (np := 115) (by decide +kernel) (by decide) (by decide) (fun q2170 => ?_) (fun q2171 => ?_)
            · have q2170 : 2147483648 ≠ 2147483648 := q2170
              exfalso; omega
            have q2171 : ¬ (2147483648 ≠ 2147483648) := q2171
            refine x_const (np := 116) (x := 9223372034707292159) (a := 2147483647) (by decide +kernel) (by decide) (by decide) ?_
            have q2172 : h2130 75 6 = h2065 75 6 := jK 0 f2132 rg_75_6_0_1 (by first | decide | omega) (by first | decide | omega) (by decide)
            have q2173 : h2065 75 6 = h2022 75 6 := jK 0 f2067 rg_75_6_0_1 (by first | decide | omega) (by first | decide | omega) (by decide)
            have q2174 : h2022 75 6 = h2001 75 6 := jK 0 f2024 rg_75_6_0_1 (by first | decide | omega) (by first | decide | omega) (by decide)
            have q2175 : h2001 75 6 = h26 75 6 := jK 0 f2002 rg_75_6_0_1 (by first | decide | omega) (by first | decide | omega) (by decide)
            have q2176 : h26 75 6 = h15 75 6 := jK 0 f28 rg_75_6_0_1 (by first | decide | omega) (by first | decide | omega) (by decide)
            have q2177 : h15 75 6 = h11 75 6 := by rw [← e17]; exact x_up_i (by first | decide | omega)
            have q2178 : h11 75 6 = h7 75 6 := by rw [← e13]; exact x_up_i (by first | decide | omega)
            have q2179 : h7 75 6 = 2147483648 := by rw [← e9]; exact x_up_at
            have b2180 := jB (e := 0) 0 hJ rg_78_0_0_1 (by first | decide | omega) (by first | decide | omega)
            have q2181 : h2130 78 0 = h2065 78 0 := jK 0 f2132 rg_78_0_0_1 (by first | decide | omega) (by first | decide | omega) (by decide)
            have q2182 : h2130 78 1 = h2065 78 1 := jK 0 f2132 rg_78_1_0_1 (by first | decide | omega) (by first | decide | omega) (by decide)
            have b2183 := jB (e := 2) 0 hJ rg_78_2_0_1 (by first | decide | omega) (by first | decide | omega)
            have q2184 : h2130 78 2 = h2065 78 2 := jK 0 f2132 rg_78_2_0_1 (by first | decide | omega) (by first | decide | omega) (by decide)
            have b2185 := jB (e := 2) 0 j2066 rg_78_2_0_1 (by first | decide | omega) (by first | decide | omega)
            have b2186 := jB (e := 3) 0 hJ rg_78_3_0_1 (by first | decide | omega) (by first | decide | omega)
            have q2187 : h2130 78 3 = h2065 78 3 := jK 0 f2132 rg_78_3_0_1 (by first | decide | omega) (by first | decide | omega) (by decide)
            have b2188 := jB (e := 3) 0 j2066 rg_78_3_0_1 (by first | decide | omega) (by first | decide | omega)
            have b2189 := jB (e := 4) 0 hJ rg_78_4_0_1 (by first | decide | omega) (by first | decide | omega)
            have q2190 : h2130 78 4 = h2065 78 4 := jK 0 f2132 rg_78_4_0_1 (by first | decide | omega) (by first | decide | omega) (by decide)
            have b2191 := jB (e := 4) 0 j2066 rg_78_4_0_1 (by first | decide | omega) (by first | decide | omega)
            have b2192 := jB (e := 5) 0 hJ rg_78_5_0_1 (by first | decide | omega) (by first | decide | omega)
            have q2193 : h2130 78 5 = h2065 78 5 := jK 0 f2132 rg_78_5_0_1 (by first | decide | omega) (by first | decide | omega) (by decide)
            have b2194 := jB (e := 5) 0 j2066 rg_78_5_0_1 (by first | decide | omega) (by first | decide | omega)
            have q2196 : h2022 76 0 = h2001 76 0 := jK 0 f2024 rg_76_0_0_1 (by first | decide | omega) (by first | decide | omega) (by decide)
            have q2197 : h2001 76 0 = h26 76 0 := jK 0 f2002 rg_76_0_0_1 (by first | decide | omega) (by first | decide | omega) (by decide)
            have q2198 : h26 76 0 = h15 76 0 := jK 0 f28 rg_76_0_0_1 (by first | decide | omega) (by first | decide | omega) (by decide)
            have q2199 : h15 76 0 = h11 76 0 := by rw [← e17]; exact x_up_k (by decide)
            have q2200 : h11 76 0 = h7 76 0 := by rw [← e13]; exact x_up_k (by decide)
            have q2201 : h7 76 0 = h3 76 0 := by rw [← e9]; exact x_up_k (by decide)
            have q2202 : h3 76 0 = h 76 0 := by rw [← e5]; exact x_up_k (by decide)
            have b2203 := jB (e := 0) 0 hJ rg_76_0_0_1 (by first | decide | omega) (by first | decide | omega)
            have q2204 : h2022 78 2 = h2001 78 2 := jK 0 f2024 rg_78_2_0_1 (by first | decide | omega) (by first | decide | omega) (by decide)
            have q2205 : h2022 78 3 = h2001 78 3 := jK 0 f2024 rg_78_3_0_1 (by first | decide | omega) (by first | decide | omega) (by decide)
            have q2206 : h2022 78 4 = h2001 78 4 := jK 0 f2024 rg_78_4_0_1 (by first | decide | omega) (by first | decide | omega) (by decide)
            have q2207 : h2022 78 5 = h2001 78 5 := jK 0 f2024 rg_78_5_0_1 (by first | decide | omega) (by first | decide | omega) (by decide)
            have k2195 := l9_pe (pe' := h 76 0) (l1 := h2001 78 2) (t1 := h2001 78 3) (d1 := h2001 78 4) (s1 := h2001 78 5) c2072 (by first | decide | omega) (by first | decide | omega) (by first | decide | omega) (by first | decide | omega) (by first | decide | omega)
            have q2208 : h2130 75 8 = h2065 75 8 := jK 0 f2132 rg_75_8_0_1 (by first | decide | omega) (by first | decide | omega) (by decide)
            have q2209 : h2065 75 8 = h2022 75 8 := jK 0 f2067 rg_75_8_0_1 (by first | decide | omega) (by first | decide | omega) (by decide)
            have q2210 : h2022 75 8 = h2001 75 8 := jK 0 f2024 rg_75_8_0_1 (by first | decide | omega) (by first | decide | omega) (by decide)
            have q2211 : h2001 75 8 = h26 75 8 := jK 0 f2002 rg_75_8_0_1 (by first | decide | omega) (by first | decide | omega) (by decide)
            have q2212 : h26 75 8 = h15 75 8 := jK 0 f28 rg_75_8_0_1 (by first | decide | omega) (by first | decide | omega) (by decide)
            have q2213 : h15 75 8 = h11 75 8 := by rw [← e17]; exact x_up_i (by first | decide | omega)
            have q2214 : h11 75 8 = h7 75 8 := by rw [← e13]; exact x_up_i (by first | decide | omega)
            have q2215 : h7 75 8 = h3 75 8 := by rw [← e9]; exact x_up_i (by first | decide | omega)
            have q2216 : h3 75 8 = (h 75 6) := by rw [← e5]; exact x_up_at
            have m2218 := Tq.fr m2129 f2132 (by decide) (by decide)
            have z2217 := m2218.1
            have z2219 := (Eq.trans c2137 (congrArg (sk tB tN) (show h2065 75 7 = h2065 75 7 by first | decide | omega)))
            have q2220 : h2130 75 8 = h2065 75 8 := jK 0 f2132 rg_75_8_0_1 (by first | decide | omega) (by first | decide | omega) (by decide)
            have q2221 : h2065 75 8 = h2022 75 8 := jK 0 f2067 rg_75_8_0_1 (by first | decide | omega) (by first | decide | omega) (by decide)
            have q2222 : h2022 75 8 = h2001 75 8 := jK 0 f2024 rg_75_8_0_1 (by first | decide | omega) (by first | decide | omega) (by decide)
            have q2223 : h2001 75 8 = h26 75 8 := jK 0 f2002 rg_75_8_0_1 (by first | decide | omega) (by first | decide | omega) (by decide)
            have q2224 : h26 75 8 = h15 75 8 := jK 0 f28 rg_75_8_0_1 (by first | decide | omega) (by first | decide | omega) (by decide)
            have q2225 : h15 75 8 = h11 75 8 := by rw [← e17]; exact x_up_i (by first | decide | omega)
            have q2226 : h11 75 8 = h7 75 8 := by rw [← e13]; exact x_up_i (by first | decide | omega)
            have q2227 : h7 75 8 = h3 75 8 := by rw [← e9]; exact x_up_i (by first | decide | omega)
            have q2228 : h3 75 8 = (h 75 6) := by rw [← e5]; exact x_up_at
            have z2229 := m2218.1
            have z2230 := (Eq.trans c2137 (congrArg (sk tB tN) (show h2065 75 7 = h2065 75 7 by first | decide | omega)))
            have q2232 : h2022 76 0 = h2001 76 0 := jK 0 f2024 rg_76_0_0_1 (by first | decide | omega) (by first | decide | omega) (by decide)
            have q2233 : h2001 76 0 = h26 76 0 := jK 0 f2002 rg_76_0_0_1 (by first | decide | omega) (by first | decide | omega) (by decide)
            have q2234 : h26 76 0 = h15 76 0 := jK 0 f28 rg_76_0_0_1 (by first | decide | omega) (by first | decide | omega) (by decide)
            have q2235 : h15 76 0 = h11 76 0 := by rw [← e17]; exact x_up_k (by decide)
            have q2236 : h11 76 0 = h7 76 0 := by rw [← e13]; exact x_up_k (by decide)
            have q2237 : h7 76 0 = h3 76 0 := by rw [← e9]; exact x_up_k (by decide)
            have q2238 : h3 76 0 = h 76 0 := by rw [← e5]; exact x_up_k (by decide)
            have q2239 : h2022 78 2 = h2001 78 2 := jK 0 f2024 rg_78_2_0_1 (by first | decide | omega) (by first | decide | omega) (by decide)
            have q2240 : h2022 78 3 = h2001 78 3 := jK 0 f2024 rg_78_3_0_1 (by first | decide | omega) (by first | decide | omega) (by decide)
            have q2241 : h2022 78 4 = h2001 78 4 := jK 0 f2024 rg_78_4_0_1 (by first | decide | omega) (by first | decide | omega) (by decide)
            have q2242 : h2022 78 5 = h2001 78 5 := jK 0 f2024 rg_78_5_0_1 (by first | decide | omega) (by first | decide | omega) (by decide)
            have k2231 := l9_pe (pe' := h 76 0) (l1 := h2001 78 2) (t1 := h2001 78 3) (d1 := h2001 78 4) (s1 := h2001 78 5) c2072 (by first | decide | omega) (by first | decide | omega) (by first | decide | omega) (by first | decide | omega) (by first | decide | omega)
            refine x_retI (np := 117) (x := 0) (by decide +kernel) (by decide) (Or.inl (by decide +kernel)) ⟨_, rfl, (by decide), ?_⟩
            exact ⟨j2131, f2139, (by first | decide | omega), (by first | decide | omega), (fun z => by first | decide | omega), (fun z => by first | decide | omega), (fun z => absurd z (by first | decide | omega)), (Tt.r0 (by first | decide | omega) (Tl.bad m2007 (by first | decide | omega) k2195 c2029 (by first | decide | omega) (by first | decide | omega) (p2 := h2130 75 7) (fun z => by have z1 := z.1; have z2 := z.2; omega) (Eq.trans c2137 (congrArg (sk tB tN) (show h2065 75 7 = h2065 75 7 by first | decide | omega))))), (fun _ => TlF.bad m2008 (by first | decide | omega) k2231 c2029 (by first | decide | omega) (by first | decide | omega) (p2 := h2130 75 7) (fun z => by have z1 := z.1; have z2 := z.2; omega) (Eq.trans c2137 (congrArg (sk tB tN) (show h2065 75 7 = h2065 75 7 by first | decide | omega))) (Eq.trans c2138 (Eq.symm c2137)))⟩
          have q2169 : ¬ ((h 75 6) ≤ (h2130 75 7)) := q2169
          refine x_aload (np := 12) (x := 0) (by decide +kernel) rfl (x_nc_le (by decide)) ?_
          have q2243 : h2130 75 5 = 79 := by have z := jB (e := 5) 0 j2131 rg_75_5_0_1 (by decide) (by decide); omega
          refine x_getR (np := 15) (x := 709) (f := 5) (q := 79) (by decide +kernel) (by decide) (by decide +kernel) q2243 ?_
          refine x_aload (np := 16) (x := 0) (by decide +kernel) rfl (x_nc_le (by decide)) ?_
          refine x_getC (np := 19) (x := 711) (f := 7) (q := (h2130 75 7)) (by decide +kernel) (by decide) (by decide +kernel) rfl (fun l2244 => ?_)
          obtain ⟨u2245, q2246⟩ : ∃ z, (h2130 75 7) = 2147483648 + z := ⟨(h2130 75 7) - 2147483648, by first | decide | omega⟩
          have q2247 : h2130 79 u2245 = h2065 79 u2245 := jK u2245 f2132 rg_79_0_1_400 (by first | decide | omega) (by first | decide | omega) (by decide)
          have q2248 : h2065 79 u2245 = h2022 79 u2245 := jK u2245 f2067 rg_79_0_1_400 (by first | decide | omega) (by first | decide | omega) (by decide)
          have q2249 : h2022 79 u2245 = h2001 79 u2245 := jK u2245 f2024 rg_79_0_1_400 (by first | decide | omega) (by first | decide | omega) (by decide)
          have q2250 : h2001 79 u2245 = h26 79 u2245 := jK u2245 f2002 rg_79_0_1_400 (by first | decide | omega) (by first | decide | omega) (by decide)
          have q2251 : h26 79 u2245 = h15 79 u2245 := jK u2245 f28 rg_79_0_1_400 (by first | decide | omega) (by first | decide | omega) (by decide)
          have q2252 : h15 79 u2245 = h11 79 u2245 := by rw [← e17]; exact x_up_k (by decide)
          have q2253 : h11 79 u2245 = h7 79 u2245 := by rw [← e13]; exact x_up_k (by decide)
          have q2254 : h7 79 u2245 = h3 79 u2245 := by rw [← e9]; exact x_up_k (by decide)
          have q2255 : h3 79 u2245 = h 79 u2245 := by rw [← e5]; exact x_up_k (by decide)
          have b2256 := jB (e := u2245) u2245 hJ rg_79_0_1_400 (by first | decide | omega) (by first | decide | omega)
          refine x_baldC (np := 20) (x := 0) (n := 400) (i := u2245) (q := (h 79 u2245)) (by decide +kernel) (by decide +kernel) (by first | decide | omega) (by first | decide | omega) (by decide) ((((((((q2247.trans q2248).trans q2249).trans q2250).trans q2251).trans q2252).trans q2253).trans q2254).trans q2255) (fun l2257 => ?_)
          refine x_iload (np := 21) (x := 1) (by decide +kernel) rfl (by decide) ?_
          refine x_icmp (k := 2) (tg := 41) (np := 24) (by decide +kernel) (by decide) l2257 (by decide) (fun q2258 => ?_) (fun q2259 => ?_)
          · have q2258 : (h 79 u2245) < 2147483707 := q2258
            refine x_const (np := 42) (x := 9223372039002259456) (a := 2147483648) (by decide +kernel) (by decide) (by decide) ?_
            refine x_retI (np := 43) (x := 0) (by decide +kernel) (by decide) (Or.inr ⟨by decide +kernel, by first | decide | omega, by first | decide | omega⟩) ⟨_, rfl, (by decide), ?_⟩
            refine x_ifz (k := 1) (tg := 117) (np := 115) (by decide +kernel) (by decide) (by decide) (fun q2260 => ?_) (fun q2261 => ?_)
            · have q2260 : 2147483648 ≠ 2147483648 := q2260
              exfalso; omega
            have q2261 : ¬ (2147483648 ≠ 2147483648) := q2261
            refine x_const (np := 116) (x := 9223372034707292159) (a := 2147483647) (by decide +kernel) (by decide) (by decide) ?_
            have q2262 : h2130 75 6 = h2065 75 6 := jK 0 f2132 rg_75_6_0_1 (by first | decide | omega) (by first | decide | omega) (by decide)
            have q2263 : h2065 75 6 = h2022 75 6 := jK 0 f2067 rg_75_6_0_1 (by first | decide | omega) (by first | decide | omega) (by decide)
            have q2264 : h2022 75 6 = h2001 75 6 := jK 0 f2024 rg_75_6_0_1 (by first | decide | omega) (by first | decide | omega) (by decide)
            have q2265 : h2001 75 6 = h26 75 6 := jK 0 f2002 rg_75_6_0_1 (by first | decide | omega) (by first | decide | omega) (by decide)
            have q2266 : h26 75 6 = h15 75 6 := jK 0 f28 rg_75_6_0_1 (by first | decide | omega) (by first | decide | omega) (by decide)
            have q2267 : h15 75 6 = h11 75 6 := by rw [← e17]; exact x_up_i (by first | decide | omega)
            have q2268 : h11 75 6 = h7 75 6 := by rw [← e13]; exact x_up_i (by first | decide | omega)
            have q2269 : h7 75 6 = 2147483648 := by rw [← e9]; exact x_up_at
            have b2270 := jB (e := 0) 0 hJ rg_78_0_0_1 (by first | decide | omega) (by first | decide | omega)
            have q2271 : h2130 78 0 = h2065 78 0 := jK 0 f2132 rg_78_0_0_1 (by first | decide | omega) (by first | decide | omega) (by decide)
            have q2272 : h2130 78 1 = h2065 78 1 := jK 0 f2132 rg_78_1_0_1 (by first | decide | omega) (by first | decide | omega) (by decide)
            have b2273 := jB (e := 2) 0 hJ rg_78_2_0_1 (by first | decide | omega) (by first | decide | omega)
            have q2274 : h2130 78 2 = h2065 78 2 := jK 0 f2132 rg_78_2_0_1 (by first | decide | omega) (by first | decide | omega) (by decide)
            have b2275 := jB (e := 2) 0 j2066 rg_78_2_0_1 (by first | decide | omega) (by first | decide | omega)
            have b2276 := jB (e := 3) 0 hJ rg_78_3_0_1 (by first | decide | omega) (by first | decide | omega)
            have q2277 : h2130 78 3 = h2065 78 3 := jK 0 f2132 rg_78_3_0_1 (by first | decide | omega) (by first | decide | omega) (by decide)
            have b2278 := jB (e := 3) 0 j2066 rg_78_3_0_1 (by first | decide | omega) (by first | decide | omega)
            have b2279 := jB (e := 4) 0 hJ rg_78_4_0_1 (by first | decide | omega) (by first | decide | omega)
            have q2280 : h2130 78 4 = h2065 78 4 := jK 0 f2132 rg_78_4_0_1 (by first | decide | omega) (by first | decide | omega) (by decide)
            have b2281 := jB (e := 4) 0 j2066 rg_78_4_0_1 (by first | decide | omega) (by first | decide | omega)
            have b2282 := jB (e := 5) 0 hJ rg_78_5_0_1 (by first | decide | omega) (by first | decide | omega)
            have q2283 : h2130 78 5 = h2065 78 5 := jK 0 f2132 rg_78_5_0_1 (by first | decide | omega) (by first | decide | omega) (by decide)
            have b2284 := jB (e := 5) 0 j2066 rg_78_5_0_1 (by first | decide | omega) (by first | decide | omega)
            have q2286 : h2022 76 0 = h2001 76 0 := jK 0 f2024 rg_76_0_0_1 (by first | decide | omega) (by first | decide | omega) (by decide)
            have q2287 : h2001 76 0 = h26 76 0 := jK 0 f2002 rg_76_0_0_1 (by first | decide | omega) (by first | decide | omega) (by decide)
            have q2288 : h26 76 0 = h15 76 0 := jK 0 f28 rg_76_0_0_1 (by first | decide | omega) (by first | decide | omega) (by decide)
            have q2289 : h15 76 0 = h11 76 0 := by rw [← e17]; exact x_up_k (by decide)
            have q2290 : h11 76 0 = h7 76 0 := by rw [← e13]; exact x_up_k (by decide)
            have q2291 : h7 76 0 = h3 76 0 := by rw [← e9]; exact x_up_k (by decide)
            have q2292 : h3 76 0 = h 76 0 := by rw [← e5]; exact x_up_k (by decide)
            have b2293 := jB (e := 0) 0 hJ rg_76_0_0_1 (by first | decide | omega) (by first | decide | omega)
            have q2294 : h2022 78 2 = h2001 78 2 := jK 0 f2024 rg_78_2_0_1 (by first | decide | omega) (by first | decide | omega) (by decide)
            have q2295 : h2022 78 3 = h2001 78 3 := jK 0 f2024 rg_78_3_0_1 (by first | decide | omega) (by first | decide | omega) (by decide)
            have q2296 : h2022 78 4 = h2001 78 4 := jK 0 f2024 rg_78_4_0_1 (by first | decide | omega) (by first | decide | omega) (by decide)
            have q2297 : h2022 78 5 = h2001 78 5 := jK 0 f2024 rg_78_5_0_1 (by first | decide | omega) (by first | decide | omega) (by decide)
            have k2285 := l9_pe (pe' := h 76 0) (l1 := h2001 78 2) (t1 := h2001 78 3) (d1 := h2001 78 4) (s1 := h2001 78 5) c2072 (by first | decide | omega) (by first | decide | omega) (by first | decide | omega) (by first | decide | omega) (by first | decide | omega)
            have q2298 : h2130 75 8 = h2065 75 8 := jK 0 f2132 rg_75_8_0_1 (by first | decide | omega) (by first | decide | omega) (by decide)
            have q2299 : h2065 75 8 = h2022 75 8 := jK 0 f2067 rg_75_8_0_1 (by first | decide | omega) (by first | decide | omega) (by decide)
            have q2300 : h2022 75 8 = h2001 75 8 := jK 0 f2024 rg_75_8_0_1 (by first | decide | omega) (by first | decide | omega) (by decide)
            have q2301 : h2001 75 8 = h26 75 8 := jK 0 f2002 rg_75_8_0_1 (by first | decide | omega) (by first | decide | omega) (by decide)
            have q2302 : h26 75 8 = h15 75 8 := jK 0 f28 rg_75_8_0_1 (by first | decide | omega) (by first | decide | omega) (by decide)
            have q2303 : h15 75 8 = h11 75 8 := by rw [← e17]; exact x_up_i (by first | decide | omega)
            have q2304 : h11 75 8 = h7 75 8 := by rw [← e13]; exact x_up_i (by first | decide | omega)
            have q2305 : h7 75 8 = h3 75 8 := by rw [← e9]; exact x_up_i (by first | decide | omega)
            have q2306 : h3 75 8 = (h 75 6) := by rw [← e5]; exact x_up_at
            have m2308 := Tq.fr m2129 f2132 (by decide) (by decide)
            have z2307 := m2308.1
            have z2309 := (Eq.trans c2137 (congrArg (sk tB tN) (show h2065 75 7 = h2065 75 7 by first | decide | omega)))
            have q2310 : h2130 79 u2245 = h2065 79 u2245 := jK u2245 f2132 rg_79_0_1_400 (by first | decide | omega) (by first | decide | omega) (by decide)
            have q2311 : h2065 79 u2245 = h2022 79 u2245 := jK u2245 f2067 rg_79_0_1_400 (by first | decide | omega) (by first | decide | omega) (by decide)
            have q2312 : h2022 79 u2245 = h2001 79 u2245 := jK u2245 f2024 rg_79_0_1_400 (by first | decide | omega) (by first | decide | omega) (by decide)
            have q2313 : h2001 79 u2245 = h26 79 u2245 := jK u2245 f2002 rg_79_0_1_400 (by first | decide | omega) (by first | decide | omega) (by decide)
            have q2314 : h26 79 u2245 = h15 79 u2245 := jK u2245 f28 rg_79_0_1_400 (by first | decide | omega) (by first | decide | omega) (by decide)
            have q2315 : h15 79 u2245 = h11 79 u2245 := by rw [← e17]; exact x_up_k (by decide)
            have q2316 : h11 79 u2245 = h7 79 u2245 := by rw [← e13]; exact x_up_k (by decide)
            have q2317 : h7 79 u2245 = h3 79 u2245 := by rw [← e9]; exact x_up_k (by decide)
            have q2318 : h3 79 u2245 = h 79 u2245 := by rw [← e5]; exact x_up_k (by decide)
            have z2319 := Tq.at (p := (h2130 75 7)) (u := u2245) m2308 (by first | decide | omega) (by first | decide | omega)
            have q2320 : h2130 75 8 = h2065 75 8 := jK 0 f2132 rg_75_8_0_1 (by first | decide | omega) (by first | decide | omega) (by decide)
            have q2321 : h2065 75 8 = h2022 75 8 := jK 0 f2067 rg_75_8_0_1 (by first | decide | omega) (by first | decide | omega) (by decide)
            have q2322 : h2022 75 8 = h2001 75 8 := jK 0 f2024 rg_75_8_0_1 (by first | decide | omega) (by first | decide | omega) (by decide)
            have q2323 : h2001 75 8 = h26 75 8 := jK 0 f2002 rg_75_8_0_1 (by first | decide | omega) (by first | decide | omega) (by decide)
            have q2324 : h26 75 8 = h15 75 8 := jK 0 f28 rg_75_8_0_1 (by first | decide | omega) (by first | decide | omega) (by decide)
            have q2325 : h15 75 8 = h11 75 8 := by rw [← e17]; exact x_up_i (by first | decide | omega)
            have q2326 : h11 75 8 = h7 75 8 := by rw [← e13]; exact x_up_i (by first | decide | omega)
            have q2327 : h7 75 8 = h3 75 8 := by rw [← e9]; exact x_up_i (by first | decide | omega)
            have q2328 : h3 75 8 = (h 75 6) := by rw [← e5]; exact x_up_at
            have z2329 := m2308.1
            have q2330 : h2130 79 u2245 = h2065 79 u2245 := jK u2245 f2132 rg_79_0_1_400 (by first | decide | omega) (by first | decide | omega) (by decide)
            have q2331 : h2065 79 u2245 = h2022 79 u2245 := jK u2245 f2067 rg_79_0_1_400 (by first | decide | omega) (by first | decide | omega) (by decide)
            have q2332 : h2022 79 u2245 = h2001 79 u2245 := jK u2245 f2024 rg_79_0_1_400 (by first | decide | omega) (by first | decide | omega) (by decide)
            have q2333 : h2001 79 u2245 = h26 79 u2245 := jK u2245 f2002 rg_79_0_1_400 (by first | decide | omega) (by first | decide | omega) (by decide)
            have q2334 : h26 79 u2245 = h15 79 u2245 := jK u2245 f28 rg_79_0_1_400 (by first | decide | omega) (by first | decide | omega) (by decide)
            have q2335 : h15 79 u2245 = h11 79 u2245 := by rw [← e17]; exact x_up_k (by decide)
            have q2336 : h11 79 u2245 = h7 79 u2245 := by rw [← e13]; exact x_up_k (by decide)
            have q2337 : h7 79 u2245 = h3 79 u2245 := by rw [← e9]; exact x_up_k (by decide)
            have q2338 : h3 79 u2245 = h 79 u2245 := by rw [← e5]; exact x_up_k (by decide)
            have z2339 := Tq.at (p := (h2130 75 7)) (u := u2245) m2308 (by first | decide | omega) (by first | decide | omega)
            have z2340 := (Eq.trans c2137 (congrArg (sk tB tN) (show h2065 75 7 = h2065 75 7 by first | decide | omega)))
            have q2342 : h2022 76 0 = h2001 76 0 := jK 0 f2024 rg_76_0_0_1 (by first | decide | omega) (by first | decide | omega) (by decide)
            have q2343 : h2001 76 0 = h26 76 0 := jK 0 f2002 rg_76_0_0_1 (by first | decide | omega) (by first | decide | omega) (by decide)
            have q2344 : h26 76 0 = h15 76 0 := jK 0 f28 rg_76_0_0_1 (by first | decide | omega) (by first | decide | omega) (by decide)
            have q2345 : h15 76 0 = h11 76 0 := by rw [← e17]; exact x_up_k (by decide)
            have q2346 : h11 76 0 = h7 76 0 := by rw [← e13]; exact x_up_k (by decide)
            have q2347 : h7 76 0 = h3 76 0 := by rw [← e9]; exact x_up_k (by decide)
            have q2348 : h3 76 0 = h 76 0 := by rw [← e5]; exact x_up_k (by decide)
            have q2349 : h2022 78 2 = h2001 78 2 := jK 0 f2024 rg_78_2_0_1 (by first | decide | omega) (by first | decide | omega) (by decide)
            have q2350 : h2022 78 3 = h2001 78 3 := jK 0 f2024 rg_78_3_0_1 (by first | decide | omega) (by first | decide | omega) (by decide)
            have q2351 : h2022 78 4 = h2001 78 4 := jK 0 f2024 rg_78_4_0_1 (by first | decide | omega) (by first | decide | omega) (by decide)
            have q2352 : h2022 78 5 = h2001 78 5 := jK 0 f2024 rg_78_5_0_1 (by first | decide | omega) (by first | decide | omega) (by decide)
            have k2341 := l9_pe (pe' := h 76 0) (l1 := h2001 78 2) (t1 := h2001 78 3) (d1 := h2001 78 4) (s1 := h2001 78 5) c2072 (by first | decide | omega) (by first | decide | omega) (by first | decide | omega) (by first | decide | omega) (by first | decide | omega)
            refine x_retI (np := 117) (x := 0) (by decide +kernel) (by decide) (Or.inl (by decide +kernel)) ⟨_, rfl, (by decide), ?_⟩
            exact ⟨j2131, f2139, (by first | decide | omega), (by first | decide | omega), (fun z => by first | decide | omega), (fun z => by first | decide | omega), (fun z => absurd z (by first | decide | omega)), (Tt.r0 (by first | decide | omega) (Tl.bad m2007 (by first | decide | omega) k2285 c2029 (by first | decide | omega) (by first | decide | omega) (p2 := h2130 75 7) (fun z => by have z1 := z.1; have z2 := z.2; omega) (Eq.trans c2137 (congrArg (sk tB tN) (show h2065 75 7 = h2065 75 7 by first | decide | omega))))), (fun _ => TlF.bad m2008 (by first | decide | omega) k2341 c2029 (by first | decide | omega) (by first | decide | omega) (p2 := h2130 75 7) (fun z => by have z1 := z.1; have z2 := z.2; omega) (Eq.trans c2137 (congrArg (sk tB tN) (show h2065 75 7 = h2065 75 7 by first | decide | omega))) (Eq.trans c2138 (Eq.symm c2137)))⟩
          have q2259 : ¬ ((h 79 u2245) < 2147483707) := q2259
          refine x_aload (np := 25) (x := 0) (by decide +kernel) rfl (x_nc_le (by decide)) ?_
          have q2353 : h2130 75 5 = 79 := by have z := jB (e := 5) 0 j2131 rg_75_5_0_1 (by decide) (by decide); omega
          refine x_getR (np := 28) (x := 709) (f := 5) (q := 79) (by decide +kernel) (by decide) (by decide +kernel) q2353 ?_
          refine x_aload (np := 29) (x := 0) (by decide +kernel) rfl (x_nc_le (by decide)) ?_
          refine x_getC (np := 32) (x := 711) (f := 7) (q := (h2130 75 7)) (by decide +kernel) (by decide) (by decide +kernel) rfl (fun l2354 => ?_)
          have q2355 : h2130 79 u2245 = h2065 79 u2245 := jK u2245 f2132 rg_79_0_1_400 (by first | decide | omega) (by first | decide | omega) (by decide)
          have q2356 : h2065 79 u2245 = h2022 79 u2245 := jK u2245 f2067 rg_79_0_1_400 (by first | decide | omega) (by first | decide | omega) (by decide)
          have q2357 : h2022 79 u2245 = h2001 79 u2245 := jK u2245 f2024 rg_79_0_1_400 (by first | decide | omega) (by first | decide | omega) (by decide)
          have q2358 : h2001 79 u2245 = h26 79 u2245 := jK u2245 f2002 rg_79_0_1_400 (by first | decide | omega) (by first | decide | omega) (by decide)
          have q2359 : h26 79 u2245 = h15 79 u2245 := jK u2245 f28 rg_79_0_1_400 (by first | decide | omega) (by first | decide | omega) (by decide)
          have q2360 : h15 79 u2245 = h11 79 u2245 := by rw [← e17]; exact x_up_k (by decide)
          have q2361 : h11 79 u2245 = h7 79 u2245 := by rw [← e13]; exact x_up_k (by decide)
          have q2362 : h7 79 u2245 = h3 79 u2245 := by rw [← e9]; exact x_up_k (by decide)
          have q2363 : h3 79 u2245 = h 79 u2245 := by rw [← e5]; exact x_up_k (by decide)
          refine x_baldC (np := 33) (x := 0) (n := 400) (i := u2245) (q := (h 79 u2245)) (by decide +kernel) (by decide +kernel) (by first | decide | omega) (by first | decide | omega) (by decide) ((((((((q2355.trans q2356).trans q2357).trans q2358).trans q2359).trans q2360).trans q2361).trans q2362).trans q2363) (fun l2364 => ?_)
          refine x_iload (np := 34) (x := 2) (by decide +kernel) rfl (by decide) ?_
          refine x_icmp (k := 4) (tg := 41) (np := 37) (by decide +kernel) (by decide) l2257 (by decide) (fun q2365 => ?_) (fun q2366 => ?_)
          · have q2365 : 2147483707 < (h 79 u2245) := q2365
            refine x_const (np := 42) (x := 9223372039002259456) (a := 2147483648) (by decide +kernel) (by decide) (by decide) ?_
            refine x_retI (np := 43) (x := 0) (by decide +kernel) (by decide) (Or.inr ⟨by decide +kernel, by first | decide | omega, by first | decide | omega⟩) ⟨_, rfl, (by decide), ?_⟩
            refine x_ifz (k := 1) (tg := 117) (np := 115) (by decide +kernel) (by decide) (by decide) (fun q2367 => ?_) (fun q2368 => ?_)
            · have q2367 : 2147483648 ≠ 2147483648 := q2367
              exfalso; omega
            have q2368 : ¬ (2147483648 ≠ 2147483648) := q2368
            refine x_const (np := 116) (x := 9223372034707292159) (a := 2147483647) (by decide +kernel) (by decide) (by decide) ?_
            have q2369 : h2130 75 6 = h2065 75 6 := jK 0 f2132 rg_75_6_0_1 (by first | decide | omega) (by first | decide | omega) (by decide)
            have q2370 : h2065 75 6 = h2022 75 6 := jK 0 f2067 rg_75_6_0_1 (by first | decide | omega) (by first | decide | omega) (by decide)
            have q2371 : h2022 75 6 = h2001 75 6 := jK 0 f2024 rg_75_6_0_1 (by first | decide | omega) (by first | decide | omega) (by decide)
            have q2372 : h2001 75 6 = h26 75 6 := jK 0 f2002 rg_75_6_0_1 (by first | decide | omega) (by first | decide | omega) (by decide)
            have q2373 : h26 75 6 = h15 75 6 := jK 0 f28 rg_75_6_0_1 (by first | decide | omega) (by first | decide | omega) (by decide)
            have q2374 : h15 75 6 = h11 75 6 := by rw [← e17]; exact x_up_i (by first | decide | omega)
            have q2375 : h11 75 6 = h7 75 6 := by rw [← e13]; exact x_up_i (by first | decide | omega)
            have q2376 : h7 75 6 = 2147483648 := by rw [← e9]; exact x_up_at
            have b2377 := jB (e := 0) 0 hJ rg_78_0_0_1 (by first | decide | omega) (by first | decide | omega)
            have q2378 : h2130 78 0 = h2065 78 0 := jK 0 f2132 rg_78_0_0_1 (by first | decide | omega) (by first | decide | omega) (by decide)
            have q2379 : h2130 78 1 = h2065 78 1 := jK 0 f2132 rg_78_1_0_1 (by first | decide | omega) (by first | decide | omega) (by decide)
            have b2380 := jB (e := 2) 0 hJ rg_78_2_0_1 (by first | decide | omega) (by first | decide | omega)
            have q2381 : h2130 78 2 = h2065 78 2 := jK 0 f2132 rg_78_2_0_1 (by first | decide | omega) (by first | decide | omega) (by decide)
            have b2382 := jB (e := 2) 0 j2066 rg_78_2_0_1 (by first | decide | omega) (by first | decide | omega)
            have b2383 := jB (e := 3) 0 hJ rg_78_3_0_1 (by first | decide | omega) (by first | decide | omega)
            have q2384 : h2130 78 3 = h2065 78 3 := jK 0 f2132 rg_78_3_0_1 (by first | decide | omega) (by first | decide | omega) (by decide)
            have b2385 := jB (e := 3) 0 j2066 rg_78_3_0_1 (by first | decide | omega) (by first | decide | omega)
            have b2386 := jB (e := 4) 0 hJ rg_78_4_0_1 (by first | decide | omega) (by first | decide | omega)
            have q2387 : h2130 78 4 = h2065 78 4 := jK 0 f2132 rg_78_4_0_1 (by first | decide | omega) (by first | decide | omega) (by decide)
            have b2388 := jB (e := 4) 0 j2066 rg_78_4_0_1 (by first | decide | omega) (by first | decide | omega)
            have b2389 := jB (e := 5) 0 hJ rg_78_5_0_1 (by first | decide | omega) (by first | decide | omega)
            have q2390 : h2130 78 5 = h2065 78 5 := jK 0 f2132 rg_78_5_0_1 (by first | decide | omega) (by first | decide | omega) (by decide)
            have b2391 := jB (e := 5) 0 j2066 rg_78_5_0_1 (by first | decide | omega) (by first | decide | omega)
            have q2393 : h2022 76 0 = h2001 76 0 := jK 0 f2024 rg_76_0_0_1 (by first | decide | omega) (by first | decide | omega) (by decide)
            have q2394 : h2001 76 0 = h26 76 0 := jK 0 f2002 rg_76_0_0_1 (by first | decide | omega) (by first | decide | omega) (by decide)
            have q2395 : h26 76 0 = h15 76 0 := jK 0 f28 rg_76_0_0_1 (by first | decide | omega) (by first | decide | omega) (by decide)
            have q2396 : h15 76 0 = h11 76 0 := by rw [← e17]; exact x_up_k (by decide)
            have q2397 : h11 76 0 = h7 76 0 := by rw [← e13]; exact x_up_k (by decide)
            have q2398 : h7 76 0 = h3 76 0 := by rw [← e9]; exact x_up_k (by decide)
            have q2399 : h3 76 0 = h 76 0 := by rw [← e5]; exact x_up_k (by decide)
            have b2400 := jB (e := 0) 0 hJ rg_76_0_0_1 (by first | decide | omega) (by first | decide | omega)
            have q2401 : h2022 78 2 = h2001 78 2 := jK 0 f2024 rg_78_2_0_1 (by first | decide | omega) (by first | decide | omega) (by decide)
            have q2402 : h2022 78 3 = h2001 78 3 := jK 0 f2024 rg_78_3_0_1 (by first | decide | omega) (by first | decide | omega) (by decide)
            have q2403 : h2022 78 4 = h2001 78 4 := jK 0 f2024 rg_78_4_0_1 (by first | decide | omega) (by first | decide | omega) (by decide)
            have q2404 : h2022 78 5 = h2001 78 5 := jK 0 f2024 rg_78_5_0_1 (by first | decide | omega) (by first | decide | omega) (by decide)
            have k2392 := l9_pe (pe' := h 76 0) (l1 := h2001 78 2) (t1 := h2001 78 3) (d1 := h2001 78 4) (s1 := h2001 78 5) c2072 (by first | decide | omega) (by first | decide | omega) (by first | decide | omega) (by first | decide | omega) (by first | decide | omega)
            have q2405 : h2130 75 8 = h2065 75 8 := jK 0 f2132 rg_75_8_0_1 (by first | decide | omega) (by first | decide | omega) (by decide)
            have q2406 : h2065 75 8 = h2022 75 8 := jK 0 f2067 rg_75_8_0_1 (by first | decide | omega) (by first | decide | omega) (by decide)
            have q2407 : h2022 75 8 = h2001 75 8 := jK 0 f2024 rg_75_8_0_1 (by first | decide | omega) (by first | decide | omega) (by decide)
            have q2408 : h2001 75 8 = h26 75 8 := jK 0 f2002 rg_75_8_0_1 (by first | decide | omega) (by first | decide | omega) (by decide)
            have q2409 : h26 75 8 = h15 75 8 := jK 0 f28 rg_75_8_0_1 (by first | decide | omega) (by first | decide | omega) (by decide)
            have q2410 : h15 75 8 = h11 75 8 := by rw [← e17]; exact x_up_i (by first | decide | omega)
            have q2411 : h11 75 8 = h7 75 8 := by rw [← e13]; exact x_up_i (by first | decide | omega)
            have q2412 : h7 75 8 = h3 75 8 := by rw [← e9]; exact x_up_i (by first | decide | omega)
            have q2413 : h3 75 8 = (h 75 6) := by rw [← e5]; exact x_up_at
            have m2415 := Tq.fr m2129 f2132 (by decide) (by decide)
            have z2414 := m2415.1
            have z2416 := (Eq.trans c2137 (congrArg (sk tB tN) (show h2065 75 7 = h2065 75 7 by first | decide | omega)))
            have q2417 : h2130 79 u2245 = h2065 79 u2245 := jK u2245 f2132 rg_79_0_1_400 (by first | decide | omega) (by first | decide | omega) (by decide)
            have q2418 : h2065 79 u2245 = h2022 79 u2245 := jK u2245 f2067 rg_79_0_1_400 (by first | decide | omega) (by first | decide | omega) (by decide)
            have q2419 : h2022 79 u2245 = h2001 79 u2245 := jK u2245 f2024 rg_79_0_1_400 (by first | decide | omega) (by first | decide | omega) (by decide)
            have q2420 : h2001 79 u2245 = h26 79 u2245 := jK u2245 f2002 rg_79_0_1_400 (by first | decide | omega) (by first | decide | omega) (by decide)
            have q2421 : h26 79 u2245 = h15 79 u2245 := jK u2245 f28 rg_79_0_1_400 (by first | decide | omega) (by first | decide | omega) (by decide)
            have q2422 : h15 79 u2245 = h11 79 u2245 := by rw [← e17]; exact x_up_k (by decide)
            have q2423 : h11 79 u2245 = h7 79 u2245 := by rw [← e13]; exact x_up_k (by decide)
            have q2424 : h7 79 u2245 = h3 79 u2245 := by rw [← e9]; exact x_up_k (by decide)
            have q2425 : h3 79 u2245 = h 79 u2245 := by rw [← e5]; exact x_up_k (by decide)
            have z2426 := Tq.at (p := (h2130 75 7)) (u := u2245) m2415 (by first | decide | omega) (by first | decide | omega)
            have q2427 : h2130 75 8 = h2065 75 8 := jK 0 f2132 rg_75_8_0_1 (by first | decide | omega) (by first | decide | omega) (by decide)
            have q2428 : h2065 75 8 = h2022 75 8 := jK 0 f2067 rg_75_8_0_1 (by first | decide | omega) (by first | decide | omega) (by decide)
            have q2429 : h2022 75 8 = h2001 75 8 := jK 0 f2024 rg_75_8_0_1 (by first | decide | omega) (by first | decide | omega) (by decide)
            have q2430 : h2001 75 8 = h26 75 8 := jK 0 f2002 rg_75_8_0_1 (by first | decide | omega) (by first | decide | omega) (by decide)
            have q2431 : h26 75 8 = h15 75 8 := jK 0 f28 rg_75_8_0_1 (by first | decide | omega) (by first | decide | omega) (by decide)
            have q2432 : h15 75 8 = h11 75 8 := by rw [← e17]; exact x_up_i (by first | decide | omega)
            have q2433 : h11 75 8 = h7 75 8 := by rw [← e13]; exact x_up_i (by first | decide | omega)
            have q2434 : h7 75 8 = h3 75 8 := by rw [← e9]; exact x_up_i (by first | decide | omega)
            have q2435 : h3 75 8 = (h 75 6) := by rw [← e5]; exact x_up_at
            have z2436 := m2415.1
            have q2437 : h2130 79 u2245 = h2065 79 u2245 := jK u2245 f2132 rg_79_0_1_400 (by first | decide | omega) (by first | decide | omega) (by decide)
            have q2438 : h2065 79 u2245 = h2022 79 u2245 := jK u2245 f2067 rg_79_0_1_400 (by first | decide | omega) (by first | decide | omega) (by decide)
            have q2439 : h2022 79 u2245 = h2001 79 u2245 := jK u2245 f2024 rg_79_0_1_400 (by first | decide | omega) (by first | decide | omega) (by decide)
            have q2440 : h2001 79 u2245 = h26 79 u2245 := jK u2245 f2002 rg_79_0_1_400 (by first | decide | omega) (by first | decide | omega) (by decide)
            have q2441 : h26 79 u2245 = h15 79 u2245 := jK u2245 f28 rg_79_0_1_400 (by first | decide | omega) (by first | decide | omega) (by decide)
            have q2442 : h15 79 u2245 = h11 79 u2245 := by rw [← e17]; exact x_up_k (by decide)
            have q2443 : h11 79 u2245 = h7 79 u2245 := by rw [← e13]; exact x_up_k (by decide)
            have q2444 : h7 79 u2245 = h3 79 u2245 := by rw [← e9]; exact x_up_k (by decide)
            have q2445 : h3 79 u2245 = h 79 u2245 := by rw [← e5]; exact x_up_k (by decide)
            have z2446 := Tq.at (p := (h2130 75 7)) (u := u2245) m2415 (by first | decide | omega) (by first | decide | omega)
            have z2447 := (Eq.trans c2137 (congrArg (sk tB tN) (show h2065 75 7 = h2065 75 7 by first | decide | omega)))
            have q2449 : h2022 76 0 = h2001 76 0 := jK 0 f2024 rg_76_0_0_1 (by first | decide | omega) (by first | decide | omega) (by decide)
            have q2450 : h2001 76 0 = h26 76 0 := jK 0 f2002 rg_76_0_0_1 (by first | decide | omega) (by first | decide | omega) (by decide)
            have q2451 : h26 76 0 = h15 76 0 := jK 0 f28 rg_76_0_0_1 (by first | decide | omega) (by first | decide | omega) (by decide)
            have q2452 : h15 76 0 = h11 76 0 := by rw [← e17]; exact x_up_k (by decide)
            have q2453 : h11 76 0 = h7 76 0 := by rw [← e13]; exact x_up_k (by decide)
            have q2454 : h7 76 0 = h3 76 0 := by rw [← e9]; exact x_up_k (by decide)
            have q2455 : h3 76 0 = h 76 0 := by rw [← e5]; exact x_up_k (by decide)
            have q2456 : h2022 78 2 = h2001 78 2 := jK 0 f2024 rg_78_2_0_1 (by first | decide | omega) (by first | decide | omega) (by decide)
            have q2457 : h2022 78 3 = h2001 78 3 := jK 0 f2024 rg_78_3_0_1 (by first | decide | omega) (by first | decide | omega) (by decide)
            have q2458 : h2022 78 4 = h2001 78 4 := jK 0 f2024 rg_78_4_0_1 (by first | decide | omega) (by first | decide | omega) (by decide)
            have q2459 : h2022 78 5 = h2001 78 5 := jK 0 f2024 rg_78_5_0_1 (by first | decide | omega) (by first | decide | omega) (by decide)
            have k2448 := l9_pe (pe' := h 76 0) (l1 := h2001 78 2) (t1 := h2001 78 3) (d1 := h2001 78 4) (s1 := h2001 78 5) c2072 (by first | decide | omega) (by first | decide | omega) (by first | decide | omega) (by first | decide | omega) (by first | decide | omega)
            refine x_retI (np := 117) (x := 0) (by decide +kernel) (by decide) (Or.inl (by decide +kernel)) ⟨_, rfl, (by decide), ?_⟩
            exact ⟨j2131, f2139, (by first | decide | omega), (by first | decide | omega), (fun z => by first | decide | omega), (fun z => by first | decide | omega), (fun z => absurd z (by first | decide | omega)), (Tt.r0 (by first | decide | omega) (Tl.bad m2007 (by first | decide | omega) k2392 c2029 (by first | decide | omega) (by first | decide | omega) (p2 := h2130 75 7) (fun z => by have z1 := z.1; have z2 := z.2; omega) (Eq.trans c2137 (congrArg (sk tB tN) (show h2065 75 7 = h2065 75 7 by first | decide | omega))))), (fun _ => TlF.bad m2008 (by first | decide | omega) k2448 c2029 (by first | decide | omega) (by first | decide | omega) (p2 := h2130 75 7) (fun z => by have z1 := z.1; have z2 := z.2; omega) (Eq.trans c2137 (congrArg (sk tB tN) (show h2065 75 7 = h2065 75 7 by first | decide | omega))) (Eq.trans c2138 (Eq.symm c2137)))⟩
          have q2366 : ¬ (2147483707 < (h 79 u2245)) := q2366
          refine x_const (np := 38) (x := 9223372043297226753) (a := 2147483649) (by decide +kernel) (by decide) (by decide) ?_
          refine x_goto (np := 41) (x := 42) (by decide +kernel) ?_
          refine x_retI (np := 43) (x := 0) (by decide +kernel) (by decide) (Or.inr ⟨by decide +kernel, by first | decide | omega, by first | decide | omega⟩) ⟨_, rfl, (by decide), ?_⟩
          refine x_ifz (k := 1) (tg := 117) (np := 115) (by decide +kernel) (by decide) (by decide) (fun q2460 => ?_) (fun q2461 => ?_)
          · have q2460 : 2147483649 ≠ 2147483648 := q2460
            refine x_aload (np := 118) (x := 0) (by decide +kernel) rfl (x_nc_le (by decide)) ?_
            refine x_dup (np := 119) (x := 0) (by decide +kernel) (by have z := x_nc_le (k := 75) (by decide); unfold x_r; omega) ?_
            refine x_getC (np := 122) (x := 711) (f := 7) (q := (h2130 75 7)) (by decide +kernel) (by decide) (by decide +kernel) rfl (fun l2462 => ?_)
            refine x_const (np := 123) (x := 9223372043297226753) (a := 2147483649) (by decide +kernel) (by decide) (by decide) ?_
            refine x_iadd (np := 124) (x := 0) (v := (1 + (h2130 75 7))) (by decide +kernel) l2144 (by decide) (by first | decide | omega) (by first | decide | omega) ?_
            refine x_putI (np := 127) (x := 711) (f := 7) (by decide +kernel) (by decide +kernel) (by first | decide | omega) (Or.inl (by decide)) ?_
            have j2464 := jU (e := 7) (v := (1 + (h2130 75 7))) 0 j2131 rg_75_7_0_1 (by first | decide | omega) (by first | decide | omega) (by first | decide | omega)
            have f2466 := jF (e := 7) (v := (1 + (h2130 75 7))) 0 f2139 rg_75_7_0_1 (by first | decide | omega) (by first | decide | omega) (by decide)
            have f2467 := jF (e := 7) (v := (1 + (h2130 75 7))) 0 f2140 rg_75_7_0_1 (by first | decide | omega) (by first | decide | omega) (by decide)
            generalize e2465 : x_up h2130 75 7 (1 + (h2130 75 7)) = h2463 at j2464 f2466 f2467 ⊢
            refine x_iinc (np := 130) (i := 2) (j := 2147483649) (v := (1 + v1999)) (lo' := [x_r 75, iv_c 2147483649, iv_c (1 + v1999)]) (by decide +kernel) (by decide) (by decide) rfl (by first | decide | omega) (by first | decide | omega) (by first | decide | omega) rfl ?_
            refine x_goto (np := 133) (x := 42) (by decide +kernel) ?_
            have b2468 := jB (e := 0) 0 hJ rg_78_0_0_1 (by first | decide | omega) (by first | decide | omega)
            have q2469 : h2463 78 0 = h2130 78 0 := by rw [← e2465]; exact x_up_k (by decide)
            have q2470 : h2130 78 0 = h2065 78 0 := jK 0 f2132 rg_78_0_0_1 (by first | decide | omega) (by first | decide | omega) (by decide)
            have q2471 : h2463 78 1 = h2130 78 1 := by rw [← e2465]; exact x_up_k (by decide)
            have q2472 : h2130 78 1 = h2065 78 1 := jK 0 f2132 rg_78_1_0_1 (by first | decide | omega) (by first | decide | omega) (by decide)
            have m2474 := Cl.fr m2125 f2132 (by decide)
            have m2473 : Cl h2463 := by rw [← e2465]; exact Cl.oth m2474 (by decide)
            have q2475 : h2463 75 7 = (1 + (h2130 75 7)) := by rw [← e2465]; exact x_up_at
            have q2476 : h2130 75 8 = h2065 75 8 := jK 0 f2132 rg_75_8_0_1 (by first | decide | omega) (by first | decide | omega) (by decide)
            have q2477 : h2065 75 8 = h2022 75 8 := jK 0 f2067 rg_75_8_0_1 (by first | decide | omega) (by first | decide | omega) (by decide)
            have q2478 : h2022 75 8 = h2001 75 8 := jK 0 f2024 rg_75_8_0_1 (by first | decide | omega) (by first | decide | omega) (by decide)
            have q2479 : h2001 75 8 = h26 75 8 := jK 0 f2002 rg_75_8_0_1 (by first | decide | omega) (by first | decide | omega) (by decide)
            have q2480 : h26 75 8 = h15 75 8 := jK 0 f28 rg_75_8_0_1 (by first | decide | omega) (by first | decide | omega) (by decide)
            have q2481 : h15 75 8 = h11 75 8 := by rw [← e17]; exact x_up_i (by first | decide | omega)
            have q2482 : h11 75 8 = h7 75 8 := by rw [← e13]; exact x_up_i (by first | decide | omega)
            have q2483 : h7 75 8 = h3 75 8 := by rw [← e9]; exact x_up_i (by first | decide | omega)
            have q2484 : h3 75 8 = (h 75 6) := by rw [← e5]; exact x_up_at
            have m2486 := Tq.fr m2129 f2132 (by decide) (by decide)
            have z2485 := m2486.1
            have q2487 : h2130 79 u2245 = h2065 79 u2245 := jK u2245 f2132 rg_79_0_1_400 (by first | decide | omega) (by first | decide | omega) (by decide)
            have q2488 : h2065 79 u2245 = h2022 79 u2245 := jK u2245 f2067 rg_79_0_1_400 (by first | decide | omega) (by first | decide | omega) (by decide)
            have q2489 : h2022 79 u2245 = h2001 79 u2245 := jK u2245 f2024 rg_79_0_1_400 (by first | decide | omega) (by first | decide | omega) (by decide)
            have q2490 : h2001 79 u2245 = h26 79 u2245 := jK u2245 f2002 rg_79_0_1_400 (by first | decide | omega) (by first | decide | omega) (by decide)
            have q2491 : h26 79 u2245 = h15 79 u2245 := jK u2245 f28 rg_79_0_1_400 (by first | decide | omega) (by first | decide | omega) (by decide)
            have q2492 : h15 79 u2245 = h11 79 u2245 := by rw [← e17]; exact x_up_k (by decide)
            have q2493 : h11 79 u2245 = h7 79 u2245 := by rw [← e13]; exact x_up_k (by decide)
            have q2494 : h7 79 u2245 = h3 79 u2245 := by rw [← e9]; exact x_up_k (by decide)
            have q2495 : h3 79 u2245 = h 79 u2245 := by rw [← e5]; exact x_up_k (by decide)
            have z2496 := Tq.at (p := (h2130 75 7)) (u := u2245) m2486 (by first | decide | omega) (by first | decide | omega)
            have q2499 : h2022 76 0 = h2001 76 0 := jK 0 f2024 rg_76_0_0_1 (by first | decide | omega) (by first | decide | omega) (by decide)
            have q2500 : h2001 76 0 = h26 76 0 := jK 0 f2002 rg_76_0_0_1 (by first | decide | omega) (by first | decide | omega) (by decide)
            have q2501 : h26 76 0 = h15 76 0 := jK 0 f28 rg_76_0_0_1 (by first | decide | omega) (by first | decide | omega) (by decide)
            have q2502 : h15 76 0 = h11 76 0 := by rw [← e17]; exact x_up_k (by decide)
            have q2503 : h11 76 0 = h7 76 0 := by rw [← e13]; exact x_up_k (by decide)
            have q2504 : h7 76 0 = h3 76 0 := by rw [← e9]; exact x_up_k (by decide)
            have q2505 : h3 76 0 = h 76 0 := by rw [← e5]; exact x_up_k (by decide)
            have b2506 := jB (e := 0) 0 hJ rg_76_0_0_1 (by first | decide | omega) (by first | decide | omega)
            have q2507 : h2022 78 2 = h2001 78 2 := jK 0 f2024 rg_78_2_0_1 (by first | decide | omega) (by first | decide | omega) (by decide)
            have q2508 : h2022 78 3 = h2001 78 3 := jK 0 f2024 rg_78_3_0_1 (by first | decide | omega) (by first | decide | omega) (by decide)
            have q2509 : h2022 78 4 = h2001 78 4 := jK 0 f2024 rg_78_4_0_1 (by first | decide | omega) (by first | decide | omega) (by decide)
            have q2510 : h2022 78 5 = h2001 78 5 := jK 0 f2024 rg_78_5_0_1 (by first | decide | omega) (by first | decide | omega) (by decide)
            have k2498 := l9_pe (pe' := h 76 0) (l1 := h2001 78 2) (t1 := h2001 78 3) (d1 := h2001 78 4) (s1 := h2001 78 5) c2072 (by first | decide | omega) (by first | decide | omega) (by first | decide | omega) (by first | decide | omega) (by first | decide | omega)
            have q2511 : h2463 78 2 = h2130 78 2 := by rw [← e2465]; exact x_up_k (by decide)
            have q2512 : h2130 78 2 = h2065 78 2 := jK 0 f2132 rg_78_2_0_1 (by first | decide | omega) (by first | decide | omega) (by decide)
            have b2513 := jB (e := 2) 0 j2066 rg_78_2_0_1 (by first | decide | omega) (by first | decide | omega)
            have q2514 : h2463 78 3 = h2130 78 3 := by rw [← e2465]; exact x_up_k (by decide)
            have q2515 : h2130 78 3 = h2065 78 3 := jK 0 f2132 rg_78_3_0_1 (by first | decide | omega) (by first | decide | omega) (by decide)
            have b2516 := jB (e := 3) 0 j2066 rg_78_3_0_1 (by first | decide | omega) (by first | decide | omega)
            have q2517 : h2463 78 4 = h2130 78 4 := by rw [← e2465]; exact x_up_k (by decide)
            have q2518 : h2130 78 4 = h2065 78 4 := jK 0 f2132 rg_78_4_0_1 (by first | decide | omega) (by first | decide | omega) (by decide)
            have b2519 := jB (e := 4) 0 j2066 rg_78_4_0_1 (by first | decide | omega) (by first | decide | omega)
            have q2520 : h2463 78 5 = h2130 78 5 := by rw [← e2465]; exact x_up_k (by decide)
            have q2521 : h2130 78 5 = h2065 78 5 := jK 0 f2132 rg_78_5_0_1 (by first | decide | omega) (by first | decide | omega) (by decide)
            have b2522 := jB (e := 5) 0 j2066 rg_78_5_0_1 (by first | decide | omega) (by first | decide | omega)
            have m2497 : Tl tB tN (h 76 0) (h 78 2) (h 78 3) (h 78 4) (h 78 5) (2147483662 - (1 + v1999)) (h2463 78 2) (h2463 78 3) (h2463 78 4) (h2463 78 5) (sk tB tN (h2463 75 7)) := by
              rw [show h2463 78 2 = h2065 78 2 by first | decide | omega, show h2463 78 3 = h2065 78 3 by first | decide | omega, show h2463 78 4 = h2065 78 4 by first | decide | omega, show h2463 78 5 = h2065 78 5 by first | decide | omega]
              exact Tl.go (m' := 2147483662 - (1 + v1999)) m2007 (by first | decide | omega) k2498 c2029 (by first | decide | omega) (p2 := h2130 75 7) ⟨by first | decide | omega, by first | decide | omega⟩ (Eq.trans c2137 (congrArg (sk tB tN) (show h2065 75 7 = h2065 75 7 by first | decide | omega))) (q1 := sk tB tN (h2130 75 7 + 1)) rfl (congrArg (sk tB tN) (show h2130 75 7 + 1 = h2463 75 7 by first | decide | omega))
            have q2523 : h2463 75 7 = (1 + (h2130 75 7)) := by rw [← e2465]; exact x_up_at
            have q2524 : h2130 75 8 = h2065 75 8 := jK 0 f2132 rg_75_8_0_1 (by first | decide | omega) (by first | decide | omega) (by decide)
            have q2525 : h2065 75 8 = h2022 75 8 := jK 0 f2067 rg_75_8_0_1 (by first | decide | omega) (by first | decide | omega) (by decide)
            have q2526 : h2022 75 8 = h2001 75 8 := jK 0 f2024 rg_75_8_0_1 (by first | decide | omega) (by first | decide | omega) (by decide)
            have q2527 : h2001 75 8 = h26 75 8 := jK 0 f2002 rg_75_8_0_1 (by first | decide | omega) (by first | decide | omega) (by decide)
            have q2528 : h26 75 8 = h15 75 8 := jK 0 f28 rg_75_8_0_1 (by first | decide | omega) (by first | decide | omega) (by decide)
            have q2529 : h15 75 8 = h11 75 8 := by rw [← e17]; exact x_up_i (by first | decide | omega)
            have q2530 : h11 75 8 = h7 75 8 := by rw [← e13]; exact x_up_i (by first | decide | omega)
            have q2531 : h7 75 8 = h3 75 8 := by rw [← e9]; exact x_up_i (by first | decide | omega)
            have q2532 : h3 75 8 = (h 75 6) := by rw [← e5]; exact x_up_at
            have z2533 := m2486.1
            have q2534 : h2130 79 u2245 = h2065 79 u2245 := jK u2245 f2132 rg_79_0_1_400 (by first | decide | omega) (by first | decide | omega) (by decide)
            have q2535 : h2065 79 u2245 = h2022 79 u2245 := jK u2245 f2067 rg_79_0_1_400 (by first | decide | omega) (by first | decide | omega) (by decide)
            have q2536 : h2022 79 u2245 = h2001 79 u2245 := jK u2245 f2024 rg_79_0_1_400 (by first | decide | omega) (by first | decide | omega) (by decide)
            have q2537 : h2001 79 u2245 = h26 79 u2245 := jK u2245 f2002 rg_79_0_1_400 (by first | decide | omega) (by first | decide | omega) (by decide)
            have q2538 : h26 79 u2245 = h15 79 u2245 := jK u2245 f28 rg_79_0_1_400 (by first | decide | omega) (by first | decide | omega) (by decide)
            have q2539 : h15 79 u2245 = h11 79 u2245 := by rw [← e17]; exact x_up_k (by decide)
            have q2540 : h11 79 u2245 = h7 79 u2245 := by rw [← e13]; exact x_up_k (by decide)
            have q2541 : h7 79 u2245 = h3 79 u2245 := by rw [← e9]; exact x_up_k (by decide)
            have q2542 : h3 79 u2245 = h 79 u2245 := by rw [← e5]; exact x_up_k (by decide)
            have z2543 := Tq.at (p := (h2130 75 7)) (u := u2245) m2486 (by first | decide | omega) (by first | decide | omega)
            have q2546 : h2022 76 0 = h2001 76 0 := jK 0 f2024 rg_76_0_0_1 (by first | decide | omega) (by first | decide | omega) (by decide)
            have q2547 : h2001 76 0 = h26 76 0 := jK 0 f2002 rg_76_0_0_1 (by first | decide | omega) (by first | decide | omega) (by decide)
            have q2548 : h26 76 0 = h15 76 0 := jK 0 f28 rg_76_0_0_1 (by first | decide | omega) (by first | decide | omega) (by decide)
            have q2549 : h15 76 0 = h11 76 0 := by rw [← e17]; exact x_up_k (by decide)
            have q2550 : h11 76 0 = h7 76 0 := by rw [← e13]; exact x_up_k (by decide)
            have q2551 : h7 76 0 = h3 76 0 := by rw [← e9]; exact x_up_k (by decide)
            have q2552 : h3 76 0 = h 76 0 := by rw [← e5]; exact x_up_k (by decide)
            have q2553 : h2022 78 2 = h2001 78 2 := jK 0 f2024 rg_78_2_0_1 (by first | decide | omega) (by first | decide | omega) (by decide)
            have q2554 : h2022 78 3 = h2001 78 3 := jK 0 f2024 rg_78_3_0_1 (by first | decide | omega) (by first | decide | omega) (by decide)
            have q2555 : h2022 78 4 = h2001 78 4 := jK 0 f2024 rg_78_4_0_1 (by first | decide | omega) (by first | decide | omega) (by decide)
            have q2556 : h2022 78 5 = h2001 78 5 := jK 0 f2024 rg_78_5_0_1 (by first | decide | omega) (by first | decide | omega) (by decide)
            have k2545 := l9_pe (pe' := h 76 0) (l1 := h2001 78 2) (t1 := h2001 78 3) (d1 := h2001 78 4) (s1 := h2001 78 5) c2072 (by first | decide | omega) (by first | decide | omega) (by first | decide | omega) (by first | decide | omega) (by first | decide | omega)
            have q2557 : h2463 78 2 = h2130 78 2 := by rw [← e2465]; exact x_up_k (by decide)
            have q2558 : h2130 78 2 = h2065 78 2 := jK 0 f2132 rg_78_2_0_1 (by first | decide | omega) (by first | decide | omega) (by decide)
            have q2559 : h2463 78 3 = h2130 78 3 := by rw [← e2465]; exact x_up_k (by decide)
            have q2560 : h2130 78 3 = h2065 78 3 := jK 0 f2132 rg_78_3_0_1 (by first | decide | omega) (by first | decide | omega) (by decide)
            have q2561 : h2463 78 4 = h2130 78 4 := by rw [← e2465]; exact x_up_k (by decide)
            have q2562 : h2130 78 4 = h2065 78 4 := jK 0 f2132 rg_78_4_0_1 (by first | decide | omega) (by first | decide | omega) (by decide)
            have q2563 : h2463 78 5 = h2130 78 5 := by rw [← e2465]; exact x_up_k (by decide)
            have q2564 : h2130 78 5 = h2065 78 5 := jK 0 f2132 rg_78_5_0_1 (by first | decide | omega) (by first | decide | omega) (by decide)
            have m2544 : TlF tB tN (h 76 0) (h 78 2) (h 78 3) (h 78 4) (h 78 5) (2147483662 - (1 + v1999)) (h2463 78 2) (h2463 78 3) (h2463 78 4) (h2463 78 5) (sk tB tN (h2463 75 7)) := by
              rw [show h2463 78 2 = h2065 78 2 by first | decide | omega, show h2463 78 3 = h2065 78 3 by first | decide | omega, show h2463 78 4 = h2065 78 4 by first | decide | omega, show h2463 78 5 = h2065 78 5 by first | decide | omega]
              exact TlF.go (m' := 2147483662 - (1 + v1999)) m2008 (by first | decide | omega) k2545 c2029 (by first | decide | omega) (p2 := h2130 75 7) ⟨by first | decide | omega, by first | decide | omega⟩ (Eq.trans c2137 (congrArg (sk tB tN) (show h2065 75 7 = h2065 75 7 by first | decide | omega))) (q1 := sk tB tN (h2130 75 7 + 1)) rfl (congrArg (sk tB tN) (show h2130 75 7 + 1 = h2463 75 7 by first | decide | omega))
            exact i2011 (1 + v1999) h2463 (by first | decide | omega) (by first | decide | omega) (by first | decide | omega) (by first | decide | omega) j2464 f2467 m2473 m2497 m2544
          have q2461 : ¬ (2147483649 ≠ 2147483648) := q2461
          exfalso; omega
        have q2156 : ¬ ((h2130 75 7) ≠ (h 75 6)) := q2156
        refine x_iload (np := 101) (x := 2) (by decide +kernel) rfl (by first | decide | omega) ?_
        refine x_const (np := 102) (x := 9223372043297226753) (a := 2147483649) (by decide +kernel) (by decide) (by decide) ?_
        refine x_iadd (np := 103) (x := 0) (v := (1 + v1999)) (by decide +kernel) (by first | decide | omega) (by decide) (by first | decide | omega) (by first | decide | omega) ?_
        have q2565 : h2130 75 6 = h2065 75 6 := jK 0 f2132 rg_75_6_0_1 (by first | decide | omega) (by first | decide | omega) (by decide)
        have q2566 : h2065 75 6 = h2022 75 6 := jK 0 f2067 rg_75_6_0_1 (by first | decide | omega) (by first | decide | omega) (by decide)
        have q2567 : h2022 75 6 = h2001 75 6 := jK 0 f2024 rg_75_6_0_1 (by first | decide | omega) (by first | decide | omega) (by decide)
        have q2568 : h2001 75 6 = h26 75 6 := jK 0 f2002 rg_75_6_0_1 (by first | decide | omega) (by first | decide | omega) (by decide)
        have q2569 : h26 75 6 = h15 75 6 := jK 0 f28 rg_75_6_0_1 (by first | decide | omega) (by first | decide | omega) (by decide)
        have q2570 : h15 75 6 = h11 75 6 := by rw [← e17]; exact x_up_i (by first | decide | omega)
        have q2571 : h11 75 6 = h7 75 6 := by rw [← e13]; exact x_up_i (by first | decide | omega)
        have q2572 : h7 75 6 = 2147483648 := by rw [← e9]; exact x_up_at
        have b2573 := jB (e := 0) 0 hJ rg_78_0_0_1 (by first | decide | omega) (by first | decide | omega)
        have q2574 : h2130 78 0 = h2065 78 0 := jK 0 f2132 rg_78_0_0_1 (by first | decide | omega) (by first | decide | omega) (by decide)
        have q2575 : h2130 78 1 = h2065 78 1 := jK 0 f2132 rg_78_1_0_1 (by first | decide | omega) (by first | decide | omega) (by decide)
        have m2576 := Cl.fr m2125 f2132 (by decide)
        have b2577 := jB (e := 2) 0 hJ rg_78_2_0_1 (by first | decide | omega) (by first | decide | omega)
        have q2578 : h2130 78 2 = h2065 78 2 := jK 0 f2132 rg_78_2_0_1 (by first | decide | omega) (by first | decide | omega) (by decide)
        have b2579 := jB (e := 2) 0 j2066 rg_78_2_0_1 (by first | decide | omega) (by first | decide | omega)
        have b2580 := jB (e := 3) 0 hJ rg_78_3_0_1 (by first | decide | omega) (by first | decide | omega)
        have q2581 : h2130 78 3 = h2065 78 3 := jK 0 f2132 rg_78_3_0_1 (by first | decide | omega) (by first | decide | omega) (by decide)
        have b2582 := jB (e := 3) 0 j2066 rg_78_3_0_1 (by first | decide | omega) (by first | decide | omega)
        have b2583 := jB (e := 4) 0 hJ rg_78_4_0_1 (by first | decide | omega) (by first | decide | omega)
        have q2584 : h2130 78 4 = h2065 78 4 := jK 0 f2132 rg_78_4_0_1 (by first | decide | omega) (by first | decide | omega) (by decide)
        have b2585 := jB (e := 4) 0 j2066 rg_78_4_0_1 (by first | decide | omega) (by first | decide | omega)
        have b2586 := jB (e := 5) 0 hJ rg_78_5_0_1 (by first | decide | omega) (by first | decide | omega)
        have q2587 : h2130 78 5 = h2065 78 5 := jK 0 f2132 rg_78_5_0_1 (by first | decide | omega) (by first | decide | omega) (by decide)
        have b2588 := jB (e := 5) 0 j2066 rg_78_5_0_1 (by first | decide | omega) (by first | decide | omega)
        have q2590 : h2022 76 0 = h2001 76 0 := jK 0 f2024 rg_76_0_0_1 (by first | decide | omega) (by first | decide | omega) (by decide)
        have q2591 : h2001 76 0 = h26 76 0 := jK 0 f2002 rg_76_0_0_1 (by first | decide | omega) (by first | decide | omega) (by decide)
        have q2592 : h26 76 0 = h15 76 0 := jK 0 f28 rg_76_0_0_1 (by first | decide | omega) (by first | decide | omega) (by decide)
        have q2593 : h15 76 0 = h11 76 0 := by rw [← e17]; exact x_up_k (by decide)
        have q2594 : h11 76 0 = h7 76 0 := by rw [← e13]; exact x_up_k (by decide)
        have q2595 : h7 76 0 = h3 76 0 := by rw [← e9]; exact x_up_k (by decide)
        have q2596 : h3 76 0 = h 76 0 := by rw [← e5]; exact x_up_k (by decide)
        have b2597 := jB (e := 0) 0 hJ rg_76_0_0_1 (by first | decide | omega) (by first | decide | omega)
        have q2598 : h2022 78 2 = h2001 78 2 := jK 0 f2024 rg_78_2_0_1 (by first | decide | omega) (by first | decide | omega) (by decide)
        have q2599 : h2022 78 3 = h2001 78 3 := jK 0 f2024 rg_78_3_0_1 (by first | decide | omega) (by first | decide | omega) (by decide)
        have q2600 : h2022 78 4 = h2001 78 4 := jK 0 f2024 rg_78_4_0_1 (by first | decide | omega) (by first | decide | omega) (by decide)
        have q2601 : h2022 78 5 = h2001 78 5 := jK 0 f2024 rg_78_5_0_1 (by first | decide | omega) (by first | decide | omega) (by decide)
        have k2589 := l9_pe (pe' := h 76 0) (l1 := h2001 78 2) (t1 := h2001 78 3) (d1 := h2001 78 4) (s1 := h2001 78 5) c2072 (by first | decide | omega) (by first | decide | omega) (by first | decide | omega) (by first | decide | omega) (by first | decide | omega)
        have q2602 : h2130 75 8 = h2065 75 8 := jK 0 f2132 rg_75_8_0_1 (by first | decide | omega) (by first | decide | omega) (by decide)
        have q2603 : h2065 75 8 = h2022 75 8 := jK 0 f2067 rg_75_8_0_1 (by first | decide | omega) (by first | decide | omega) (by decide)
        have q2604 : h2022 75 8 = h2001 75 8 := jK 0 f2024 rg_75_8_0_1 (by first | decide | omega) (by first | decide | omega) (by decide)
        have q2605 : h2001 75 8 = h26 75 8 := jK 0 f2002 rg_75_8_0_1 (by first | decide | omega) (by first | decide | omega) (by decide)
        have q2606 : h26 75 8 = h15 75 8 := jK 0 f28 rg_75_8_0_1 (by first | decide | omega) (by first | decide | omega) (by decide)
        have q2607 : h15 75 8 = h11 75 8 := by rw [← e17]; exact x_up_i (by first | decide | omega)
        have q2608 : h11 75 8 = h7 75 8 := by rw [← e13]; exact x_up_i (by first | decide | omega)
        have q2609 : h7 75 8 = h3 75 8 := by rw [← e9]; exact x_up_i (by first | decide | omega)
        have q2610 : h3 75 8 = (h 75 6) := by rw [← e5]; exact x_up_at
        have m2612 := Tq.fr m2129 f2132 (by decide) (by decide)
        have z2611 := m2612.1
        have z2613 := (Eq.trans c2137 (congrArg (sk tB tN) (show h2065 75 7 = h2065 75 7 by first | decide | omega)))
        refine x_retI (np := 104) (x := 0) (by decide +kernel) (by first | decide | omega) (Or.inl (by decide +kernel)) ⟨_, rfl, (by first | decide | omega), ?_⟩
        exact ⟨j2131, f2139, (by first | decide | omega), (by first | decide | omega), (fun z => by first | decide | omega), (fun z => by first | decide | omega), (fun _ => m2576), (Tt.r1 (by first | decide | omega) (Tl.fin m2007 (by first | decide | omega) k2589 c2029 (by first | decide | omega) (by first | decide | omega)) (by first | decide | omega) (by first | decide | omega) (by first | decide | omega) (by first | decide | omega)), (fun z => absurd z (by first | decide | omega))⟩
    have b2614 := jB (e := 0) 0 hJ rg_78_0_0_1 (by first | decide | omega) (by first | decide | omega)
    have q2615 : h26 78 0 = h15 78 0 := jK 0 f28 rg_78_0_0_1 (by first | decide | omega) (by first | decide | omega) (by decide)
    have q2616 : h15 78 0 = h11 78 0 := by rw [← e17]; exact x_up_k (by decide)
    have q2617 : h11 78 0 = h7 78 0 := by rw [← e13]; exact x_up_k (by decide)
    have q2618 : h7 78 0 = h3 78 0 := by rw [← e9]; exact x_up_k (by decide)
    have q2619 : h3 78 0 = h 78 0 := by rw [← e5]; exact x_up_k (by decide)
    have q2620 : h26 78 1 = h15 78 1 := jK 0 f28 rg_78_1_0_1 (by first | decide | omega) (by first | decide | omega) (by decide)
    have q2621 : h15 78 1 = h11 78 1 := by rw [← e17]; exact x_up_k (by decide)
    have q2622 : h11 78 1 = h7 78 1 := by rw [← e13]; exact x_up_k (by decide)
    have q2623 : h7 78 1 = h3 78 1 := by rw [← e9]; exact x_up_k (by decide)
    have q2624 : h3 78 1 = h 78 1 := by rw [← e5]; exact x_up_k (by decide)
    have m2629 : Cl h3 := by rw [← e5]; exact Cl.oth hC (by decide)
    have m2628 : Cl h7 := by rw [← e9]; exact Cl.oth m2629 (by decide)
    have m2627 : Cl h11 := by rw [← e13]; exact Cl.oth m2628 (by decide)
    have m2626 : Cl h15 := by rw [← e17]; exact Cl.oth m2627 (by decide)
    have m2625 := Cl.fr m2626 f28 (by decide)
    have q2630 : h15 75 7 = h11 75 7 := by rw [← e17]; exact x_up_i (by first | decide | omega)
    have q2631 : h11 75 7 = 2147483648 := by rw [← e13]; exact x_up_at
    have q2632 : h26 75 8 = h15 75 8 := jK 0 f28 rg_75_8_0_1 (by first | decide | omega) (by first | decide | omega) (by decide)
    have q2633 : h15 75 8 = h11 75 8 := by rw [← e17]; exact x_up_i (by first | decide | omega)
    have q2634 : h11 75 8 = h7 75 8 := by rw [← e13]; exact x_up_i (by first | decide | omega)
    have q2635 : h7 75 8 = h3 75 8 := by rw [← e9]; exact x_up_i (by first | decide | omega)
    have q2636 : h3 75 8 = (h 75 6) := by rw [← e5]; exact x_up_at
    have m2638 := Tq.fr m22 f28 (by decide) (by decide)
    have z2637 := m2638.1
    have b2640 := jB (e := 2) 0 hJ rg_78_2_0_1 (by first | decide | omega) (by first | decide | omega)
    have q2641 : h26 78 2 = h15 78 2 := jK 0 f28 rg_78_2_0_1 (by first | decide | omega) (by first | decide | omega) (by decide)
    have q2642 : h15 78 2 = h11 78 2 := by rw [← e17]; exact x_up_k (by decide)
    have q2643 : h11 78 2 = h7 78 2 := by rw [← e13]; exact x_up_k (by decide)
    have q2644 : h7 78 2 = h3 78 2 := by rw [← e9]; exact x_up_k (by decide)
    have q2645 : h3 78 2 = h 78 2 := by rw [← e5]; exact x_up_k (by decide)
    have b2646 := jB (e := 3) 0 hJ rg_78_3_0_1 (by first | decide | omega) (by first | decide | omega)
    have q2647 : h26 78 3 = h15 78 3 := jK 0 f28 rg_78_3_0_1 (by first | decide | omega) (by first | decide | omega) (by decide)
    have q2648 : h15 78 3 = h11 78 3 := by rw [← e17]; exact x_up_k (by decide)
    have q2649 : h11 78 3 = h7 78 3 := by rw [← e13]; exact x_up_k (by decide)
    have q2650 : h7 78 3 = h3 78 3 := by rw [← e9]; exact x_up_k (by decide)
    have q2651 : h3 78 3 = h 78 3 := by rw [← e5]; exact x_up_k (by decide)
    have b2652 := jB (e := 4) 0 hJ rg_78_4_0_1 (by first | decide | omega) (by first | decide | omega)
    have q2653 : h26 78 4 = h15 78 4 := jK 0 f28 rg_78_4_0_1 (by first | decide | omega) (by first | decide | omega) (by decide)
    have q2654 : h15 78 4 = h11 78 4 := by rw [← e17]; exact x_up_k (by decide)
    have q2655 : h11 78 4 = h7 78 4 := by rw [← e13]; exact x_up_k (by decide)
    have q2656 : h7 78 4 = h3 78 4 := by rw [← e9]; exact x_up_k (by decide)
    have q2657 : h3 78 4 = h 78 4 := by rw [← e5]; exact x_up_k (by decide)
    have b2658 := jB (e := 5) 0 hJ rg_78_5_0_1 (by first | decide | omega) (by first | decide | omega)
    have q2659 : h26 78 5 = h15 78 5 := jK 0 f28 rg_78_5_0_1 (by first | decide | omega) (by first | decide | omega) (by decide)
    have q2660 : h15 78 5 = h11 78 5 := by rw [← e17]; exact x_up_k (by decide)
    have q2661 : h11 78 5 = h7 78 5 := by rw [← e13]; exact x_up_k (by decide)
    have q2662 : h7 78 5 = h3 78 5 := by rw [← e9]; exact x_up_k (by decide)
    have q2663 : h3 78 5 = h 78 5 := by rw [← e5]; exact x_up_k (by decide)
    have m2639 : Tl tB tN (h 76 0) (h 78 2) (h 78 3) (h 78 4) (h 78 5) (2147483662 - 2147483648) (h26 78 2) (h26 78 3) (h26 78 4) (h26 78 5) (sk tB tN (h26 75 7)) := by
      rw [show h26 78 2 = h 78 2 by first | decide | omega, show h26 78 3 = h 78 3 by first | decide | omega, show h26 78 4 = h 78 4 by first | decide | omega, show h26 78 5 = h 78 5 by first | decide | omega]
      exact Tl.zeroR ((show h26 75 7 = h26 75 7 by first | decide | omega).trans (Eq.trans c33 (congrArg (sk tB tN) (show h15 75 7 = 2147483648 by first | decide | omega)))) (by first | decide | omega) (by first | decide | omega) rfl
    have q2664 : h15 75 7 = h11 75 7 := by rw [← e17]; exact x_up_i (by first | decide | omega)
    have q2665 : h11 75 7 = 2147483648 := by rw [← e13]; exact x_up_at
    have q2666 : h26 75 8 = h15 75 8 := jK 0 f28 rg_75_8_0_1 (by first | decide | omega) (by first | decide | omega) (by decide)
    have q2667 : h15 75 8 = h11 75 8 := by rw [← e17]; exact x_up_i (by first | decide | omega)
    have q2668 : h11 75 8 = h7 75 8 := by rw [← e13]; exact x_up_i (by first | decide | omega)
    have q2669 : h7 75 8 = h3 75 8 := by rw [← e9]; exact x_up_i (by first | decide | omega)
    have q2670 : h3 75 8 = (h 75 6) := by rw [← e5]; exact x_up_at
    have z2671 := m2638.1
    have q2673 : h26 78 2 = h15 78 2 := jK 0 f28 rg_78_2_0_1 (by first | decide | omega) (by first | decide | omega) (by decide)
    have q2674 : h15 78 2 = h11 78 2 := by rw [← e17]; exact x_up_k (by decide)
    have q2675 : h11 78 2 = h7 78 2 := by rw [← e13]; exact x_up_k (by decide)
    have q2676 : h7 78 2 = h3 78 2 := by rw [← e9]; exact x_up_k (by decide)
    have q2677 : h3 78 2 = h 78 2 := by rw [← e5]; exact x_up_k (by decide)
    have q2678 : h26 78 3 = h15 78 3 := jK 0 f28 rg_78_3_0_1 (by first | decide | omega) (by first | decide | omega) (by decide)
    have q2679 : h15 78 3 = h11 78 3 := by rw [← e17]; exact x_up_k (by decide)
    have q2680 : h11 78 3 = h7 78 3 := by rw [← e13]; exact x_up_k (by decide)
    have q2681 : h7 78 3 = h3 78 3 := by rw [← e9]; exact x_up_k (by decide)
    have q2682 : h3 78 3 = h 78 3 := by rw [← e5]; exact x_up_k (by decide)
    have q2683 : h26 78 4 = h15 78 4 := jK 0 f28 rg_78_4_0_1 (by first | decide | omega) (by first | decide | omega) (by decide)
    have q2684 : h15 78 4 = h11 78 4 := by rw [← e17]; exact x_up_k (by decide)
    have q2685 : h11 78 4 = h7 78 4 := by rw [← e13]; exact x_up_k (by decide)
    have q2686 : h7 78 4 = h3 78 4 := by rw [← e9]; exact x_up_k (by decide)
    have q2687 : h3 78 4 = h 78 4 := by rw [← e5]; exact x_up_k (by decide)
    have q2688 : h26 78 5 = h15 78 5 := jK 0 f28 rg_78_5_0_1 (by first | decide | omega) (by first | decide | omega) (by decide)
    have q2689 : h15 78 5 = h11 78 5 := by rw [← e17]; exact x_up_k (by decide)
    have q2690 : h11 78 5 = h7 78 5 := by rw [← e13]; exact x_up_k (by decide)
    have q2691 : h7 78 5 = h3 78 5 := by rw [← e9]; exact x_up_k (by decide)
    have q2692 : h3 78 5 = h 78 5 := by rw [← e5]; exact x_up_k (by decide)
    have m2672 : TlF tB tN (h 76 0) (h 78 2) (h 78 3) (h 78 4) (h 78 5) (2147483662 - 2147483648) (h26 78 2) (h26 78 3) (h26 78 4) (h26 78 5) (sk tB tN (h26 75 7)) := by
      rw [show h26 78 2 = h 78 2 by first | decide | omega, show h26 78 3 = h 78 3 by first | decide | omega, show h26 78 4 = h 78 4 by first | decide | omega, show h26 78 5 = h 78 5 by first | decide | omega]
      exact TlF.zeroR ((show h26 75 7 = h26 75 7 by first | decide | omega).trans (Eq.trans c33 (congrArg (sk tB tN) (show h15 75 7 = 2147483648 by first | decide | omega)))) (by first | decide | omega) (by first | decide | omega) rfl
    exact p2004 _ 2147483648 h26 (Nat.lt_succ_self _) (by first | decide | omega) (by first | decide | omega) (by first | decide | omega) j27 (Fr.refl _ _) m2625 m2639 m2672
  have q48 : ¬ ((h26 75 7) ≠ (h 75 6)) := q48
  refine x_const (np := 39) (x := 9223372039002259456) (a := 2147483648) (by decide +kernel) (by decide) (by decide) ?_
  have q2693 : h26 75 6 = h15 75 6 := jK 0 f28 rg_75_6_0_1 (by first | decide | omega) (by first | decide | omega) (by decide)
  have q2694 : h15 75 6 = h11 75 6 := by rw [← e17]; exact x_up_i (by first | decide | omega)
  have q2695 : h11 75 6 = h7 75 6 := by rw [← e13]; exact x_up_i (by first | decide | omega)
  have q2696 : h7 75 6 = 2147483648 := by rw [← e9]; exact x_up_at
  have b2697 := jB (e := 0) 0 hJ rg_78_0_0_1 (by first | decide | omega) (by first | decide | omega)
  have q2698 : h26 78 0 = h15 78 0 := jK 0 f28 rg_78_0_0_1 (by first | decide | omega) (by first | decide | omega) (by decide)
  have q2699 : h15 78 0 = h11 78 0 := by rw [← e17]; exact x_up_k (by decide)
  have q2700 : h11 78 0 = h7 78 0 := by rw [← e13]; exact x_up_k (by decide)
  have q2701 : h7 78 0 = h3 78 0 := by rw [← e9]; exact x_up_k (by decide)
  have q2702 : h3 78 0 = h 78 0 := by rw [← e5]; exact x_up_k (by decide)
  have q2703 : h26 78 1 = h15 78 1 := jK 0 f28 rg_78_1_0_1 (by first | decide | omega) (by first | decide | omega) (by decide)
  have q2704 : h15 78 1 = h11 78 1 := by rw [← e17]; exact x_up_k (by decide)
  have q2705 : h11 78 1 = h7 78 1 := by rw [← e13]; exact x_up_k (by decide)
  have q2706 : h7 78 1 = h3 78 1 := by rw [← e9]; exact x_up_k (by decide)
  have q2707 : h3 78 1 = h 78 1 := by rw [← e5]; exact x_up_k (by decide)
  have m2712 : Cl h3 := by rw [← e5]; exact Cl.oth hC (by decide)
  have m2711 : Cl h7 := by rw [← e9]; exact Cl.oth m2712 (by decide)
  have m2710 : Cl h11 := by rw [← e13]; exact Cl.oth m2711 (by decide)
  have m2709 : Cl h15 := by rw [← e17]; exact Cl.oth m2710 (by decide)
  have m2708 := Cl.fr m2709 f28 (by decide)
  have b2713 := jB (e := 2) 0 hJ rg_78_2_0_1 (by first | decide | omega) (by first | decide | omega)
  have q2714 : h26 78 2 = h15 78 2 := jK 0 f28 rg_78_2_0_1 (by first | decide | omega) (by first | decide | omega) (by decide)
  have q2715 : h15 78 2 = h11 78 2 := by rw [← e17]; exact x_up_k (by decide)
  have q2716 : h11 78 2 = h7 78 2 := by rw [← e13]; exact x_up_k (by decide)
  have q2717 : h7 78 2 = h3 78 2 := by rw [← e9]; exact x_up_k (by decide)
  have q2718 : h3 78 2 = h 78 2 := by rw [← e5]; exact x_up_k (by decide)
  have b2719 := jB (e := 3) 0 hJ rg_78_3_0_1 (by first | decide | omega) (by first | decide | omega)
  have q2720 : h26 78 3 = h15 78 3 := jK 0 f28 rg_78_3_0_1 (by first | decide | omega) (by first | decide | omega) (by decide)
  have q2721 : h15 78 3 = h11 78 3 := by rw [← e17]; exact x_up_k (by decide)
  have q2722 : h11 78 3 = h7 78 3 := by rw [← e13]; exact x_up_k (by decide)
  have q2723 : h7 78 3 = h3 78 3 := by rw [← e9]; exact x_up_k (by decide)
  have q2724 : h3 78 3 = h 78 3 := by rw [← e5]; exact x_up_k (by decide)
  have b2725 := jB (e := 4) 0 hJ rg_78_4_0_1 (by first | decide | omega) (by first | decide | omega)
  have q2726 : h26 78 4 = h15 78 4 := jK 0 f28 rg_78_4_0_1 (by first | decide | omega) (by first | decide | omega) (by decide)
  have q2727 : h15 78 4 = h11 78 4 := by rw [← e17]; exact x_up_k (by decide)
  have q2728 : h11 78 4 = h7 78 4 := by rw [← e13]; exact x_up_k (by decide)
  have q2729 : h7 78 4 = h3 78 4 := by rw [← e9]; exact x_up_k (by decide)
  have q2730 : h3 78 4 = h 78 4 := by rw [← e5]; exact x_up_k (by decide)
  have b2731 := jB (e := 5) 0 hJ rg_78_5_0_1 (by first | decide | omega) (by first | decide | omega)
  have q2732 : h26 78 5 = h15 78 5 := jK 0 f28 rg_78_5_0_1 (by first | decide | omega) (by first | decide | omega) (by decide)
  have q2733 : h15 78 5 = h11 78 5 := by rw [← e17]; exact x_up_k (by decide)
  have q2734 : h11 78 5 = h7 78 5 := by rw [← e13]; exact x_up_k (by decide)
  have q2735 : h7 78 5 = h3 78 5 := by rw [← e9]; exact x_up_k (by decide)
  have q2736 : h3 78 5 = h 78 5 := by rw [← e5]; exact x_up_k (by decide)
  have q2737 : h15 75 7 = h11 75 7 := by rw [← e17]; exact x_up_i (by first | decide | omega)
  have q2738 : h11 75 7 = 2147483648 := by rw [← e13]; exact x_up_at
  have q2739 : h26 75 8 = h15 75 8 := jK 0 f28 rg_75_8_0_1 (by first | decide | omega) (by first | decide | omega) (by decide)
  have q2740 : h15 75 8 = h11 75 8 := by rw [← e17]; exact x_up_i (by first | decide | omega)
  have q2741 : h11 75 8 = h7 75 8 := by rw [← e13]; exact x_up_i (by first | decide | omega)
  have q2742 : h7 75 8 = h3 75 8 := by rw [← e9]; exact x_up_i (by first | decide | omega)
  have q2743 : h3 75 8 = (h 75 6) := by rw [← e5]; exact x_up_at
  have m2745 := Tq.fr m22 f28 (by decide) (by decide)
  have z2744 := m2745.1
  refine x_retI (np := 40) (x := 0) (by decide +kernel) (by decide) (Or.inl (by decide +kernel)) ⟨_, rfl, (by decide), ?_⟩
  exact ⟨j27, f35, (by first | decide | omega), (by first | decide | omega), (fun z => by first | decide | omega), (fun z => by first | decide | omega), (fun _ => m2708), (Tt.r1 (by first | decide | omega) (Tt.nil (Eq.trans c33 (congrArg (sk tB tN) (show h15 75 7 = 2147483648 by first | decide | omega))) (by first | decide | omega) rfl) (by first | decide | omega) (by first | decide | omega) (by first | decide | omega) (by first | decide | omega)), (fun z => absurd z (by first | decide | omega))⟩
set_option maxHeartbeats 0 in
/-- LentNamesModel.tell()I -/
theorem c195_75 {sc : Nat × Nat} {d  : Nat} {h : xh} {tB : Nat → Nat} {tN : Nat} (hJ : J h) (hr0 : (h 76 1) ≤ 2147483658) (hW : WT 76 h) (hT : Tr tB tN h) : X sc 195 (d + 9) (xI fun r h' => J h' ∧ Fr 11821949348610049 h h' ∧ (1 ≤ r ∧ r ≤ 2147483658) ∧ (h' 75 6 = 2147483648) ∧ WT 76 h' ∧ Tf tB tN h h' r ∧ Ff tB tN h h') 0 0 0 [x_r 75, 147573952589676412928, 147573952589676412928] [] h := by
  have hF := Fr.refl 11821949348610049 h
  refine x_aload (np := 1) (x := 0) (by decide +kernel) rfl (x_nc_le (by decide)) ?_
  refine x_const (np := 2) (x := 9223372039002259456) (a := 2147483648) (by decide +kernel) (by decide) (by decide) ?_
  refine x_putI (np := 5) (x := 704) (f := 0) (by decide +kernel) (by decide +kernel) (by decide) (Or.inl (by decide)) ?_
  have j2 := jU (e := 0) (v := 2147483648) 0 hJ rg_75_0_0_1 (by first | decide | omega) (by first | decide | omega) (by first | decide | omega)
  have f4 := jF (e := 0) (v := 2147483648) 0 hF rg_75_0_0_1 (by first | decide | omega) (by first | decide | omega) (by decide)
  generalize e3 : x_up h 75 0 2147483648 = h1 at j2 f4 ⊢
  refine x_const (np := 6) (x := 9223372039002259456) (a := 2147483648) (by decide +kernel) (by decide) (by decide) ?_
  refine x_istore (np := 7) (x := 1) (lo' := [x_r 75, iv_c 2147483648, 147573952589676412928]) (by decide +kernel) (by decide) (Nat.le_of_ble_eq_true rfl) rfl ?_
  have p366 : ∀ (n : Nat) (v361 : Nat) (h363 : xh), 4294967296 - v361 < n → (2147483648 ≤ v361 ∧ v361 ≤ 2147483938) → J h363 → Fr 268435456 h1 h363 → Clp (v361 - 2147483648) h363 → Cpa 78 76 h1 h363 (v361 - 2147483648) → X sc 195 (d + 9) (xI fun r h' => J h' ∧ Fr 11821949348610049 h h' ∧ (1 ≤ r ∧ r ≤ 2147483658) ∧ (h' 75 6 = 2147483648) ∧ WT 76 h' ∧ Tf tB tN h h' r ∧ Ff tB tN h h') 0 0 7 [x_r 75, iv_c v361, 147573952589676412928] [] h363 := by
    intro n
    induction n with
    | zero => intro v361 h363 q369; exact absurd q369 (Nat.not_lt_zero _)
    | succ n i370 =>
      intro v361 h363 q369 b362 j365 f364 m368 m367
      have f371 := Fr.trans f4 f364 (by decide)
      refine x_iload (np := 8) (x := 1) (by decide +kernel) rfl (by first | decide | omega) ?_
      refine x_const (np := 11) (x := 9223373284542775586) (a := 2147483938) (by decide +kernel) (by decide) (by decide) ?_
      refine x_icmp (k := 3) (tg := 32) (np := 14) (by decide +kernel) (by decide) (by first | decide | omega) (by decide) (fun q372 => ?_) (fun q373 => ?_)
      · have q372 : 2147483938 ≤ v361 := q372
        refine x_aload (np := 33) (x := 0) (by decide +kernel) rfl (x_nc_le (by decide)) ?_
        refine x_const (np := 34) (x := 9223372043297226753) (a := 2147483649) (by decide +kernel) (by decide) (by decide) ?_
        have m377 : Cl h363 := Clp.cl m368 (by first | decide | omega)
        have m379 : Tr tB tN h1 := by rw [← e3]; exact Tr.oth hT (by decide) (by decide)
        have m378 := Tr.fr m379 f364 (by decide) (by decide)
        refine x_cI (t := 6) (mj := 194) (n := 2) (rc := 12) (ml := 3) (nr := 0) (np := 37) (as := [x_r 75, iv_c 2147483649]) (rest := []) (lo1 := [x_r 75, iv_c 2147483649, 147573952589676412928]) (by decide +kernel) (by decide) (by decide +kernel) (x_rb_of (by decide +kernel)) rfl rfl (x_wr (by decide) (x_wi (by decide) x_wn)) x_wn (by decide) rfl (c194_75_c1 j365   m377 m378) (fun v374 h380 l375 q376 => ?_)
        obtain ⟨j381, f382, b383, c384, c385, c386, c387, c388, c389⟩ := q376
        have f390 := Fr.trans f371 f382 (by decide)
        have b391 := jB (e := 6) 0 j381 rg_75_6_0_1 (by first | decide | omega) (by first | decide | omega)
        have b392 := jB (e := 0) 0 j365 rg_78_0_0_1 (by first | decide | omega) (by first | decide | omega)
        have b393 := jB (e := 0) 0 j381 rg_78_0_0_1 (by first | decide | omega) (by first | decide | omega)
        refine x_istore (np := 38) (x := 1) (lo' := [x_r 75, iv_c v374, 147573952589676412928]) (by decide +kernel) l375 (Nat.le_of_ble_eq_true rfl) rfl ?_
        refine x_aload (np := 39) (x := 0) (by decide +kernel) rfl (x_nc_le (by decide)) ?_
        refine x_iload (np := 40) (x := 1) (by decide +kernel) rfl l375 ?_
        refine x_ifz (k := 3) (tg := 50) (np := 43) (by decide +kernel) (by decide) l375 (fun q394 => ?_) (fun q395 => ?_)
        · have q394 : 2147483648 ≤ v374 := q394
          have b396 := c385 (by first | decide | omega)
          have b397 := c386 (by first | decide | omega)
          have m398 := c387 (by first | decide | omega)
          refine x_const (np := 51) (x := 9223372034707292159) (a := 2147483647) (by decide +kernel) (by decide) (by decide) ?_
          refine x_putI (np := 54) (x := 715) (f := 11) (by decide +kernel) (by decide +kernel) (by decide) (Or.inl (by decide)) ?_
          have j400 := jU (e := 11) (v := 2147483647) 0 j381 rg_75_11_0_1 (by first | decide | omega) (by first | decide | omega) (by first | decide | omega)
          have f402 := jF (e := 11) (v := 2147483647) 0 f390 rg_75_11_0_1 (by first | decide | omega) (by first | decide | omega) (by decide)
          generalize e401 : x_up h380 75 11 2147483647 = h399 at j400 f402 ⊢
          refine x_aload (np := 55) (x := 0) (by decide +kernel) rfl (x_nc_le (by decide)) ?_
          refine x_iload (np := 56) (x := 1) (by decide +kernel) rfl l375 ?_
          refine x_ifz (k := 3) (tg := 63) (np := 59) (by decide +kernel) (by decide) l375 (fun q403 => ?_) (fun q404 => ?_)
          · have q403 : 2147483648 ≤ v374 := q403
            refine x_const (np := 64) (x := 9223372039002259456) (a := 2147483648) (by decide +kernel) (by decide) (by decide) ?_
            refine x_const (np := 65) (x := 9223372043297226753) (a := 2147483649) (by decide +kernel) (by decide) (by decide) ?_
            refine x_nI (t := 6) (mj := 152) (n := 3) (rc := 12) (ml := 3) (nr := 0) (np := 68) (as := [x_r 75, iv_c 2147483648, iv_c 2147483649]) (rest := []) (lo1 := [x_r 75, iv_c 2147483648, iv_c 2147483649]) (by decide +kernel) (by decide) (by decide +kernel) (x_rb_of (by decide +kernel)) rfl rfl (x_wr (by decide) (x_wi (by decide) (x_wi (by decide) x_wn))) x_wn (by decide) rfl ?_
            refine x_iload (np := 1) (x := 1) (by decide +kernel) rfl (by decide) ?_
            refine x_ifz (k := 0) (tg := 9) (np := 4) (by decide +kernel) (by decide) (by decide) (fun q405 => ?_) (fun q406 => ?_)
            · have q405 : 2147483648 = 2147483648 := q405
              refine x_iload (np := 10) (x := 1) (by decide +kernel) rfl (by decide) ?_
              refine x_retI (np := 11) (x := 0) (by decide +kernel) (by decide) (Or.inr ⟨by decide +kernel, by first | decide | omega, by first | decide | omega⟩) ⟨_, rfl, (by decide), ?_⟩
              refine x_ifz (k := 1) (tg := 95) (np := 71) (by decide +kernel) (by decide) (by decide) (fun q407 => ?_) (fun q408 => ?_)
              · have q407 : 2147483648 ≠ 2147483648 := q407
                exfalso; omega
              have q408 : ¬ (2147483648 ≠ 2147483648) := q408
              refine x_aload (np := 72) (x := 0) (by decide +kernel) rfl (x_nc_le (by decide)) ?_
              refine x_aload (np := 73) (x := 0) (by decide +kernel) rfl (x_nc_le (by decide)) ?_
              have q409 : h399 75 1 = 76 := by have z := jB (e := 1) 0 j400 rg_75_1_0_1 (by decide) (by decide); omega
              refine x_getR (np := 76) (x := 705) (f := 1) (q := 76) (by decide +kernel) (by decide) (by decide +kernel) q409 ?_
              refine x_const (np := 77) (x := 9223372043297226753) (a := 2147483649) (by decide +kernel) (by decide) (by decide) ?_
              have q410 : h399 76 1 = h380 76 1 := by rw [← e401]; exact x_up_k (by decide)
              have q411 : h380 76 1 = h363 76 1 := jK 0 f382 rg_76_1_0_1 (by first | decide | omega) (by first | decide | omega) (by decide)
              have q412 : h363 76 1 = h1 76 1 := jK 0 f364 rg_76_1_0_1 (by first | decide | omega) (by first | decide | omega) (by decide)
              have q413 : h1 76 1 = h 76 1 := by rw [← e3]; exact x_up_k (by decide)
              refine x_aldC (np := 78) (x := 0) (n := 1952) (i := 1) (q := (h 76 1)) (by decide +kernel) (by decide +kernel) (by first | decide | omega) (by first | decide | omega) (by decide) (((q410.trans q411).trans q412).trans q413) (fun l414 => ?_)
              refine x_const (np := 80) (x := 9223372081951932426) (a := 2147483658) (by decide +kernel) (by decide) (by decide) ?_
              refine x_icmp (k := 1) (tg := 87) (np := 83) (by decide +kernel) (by decide) l414 (by decide) (fun q415 => ?_) (fun q416 => ?_)
              · have q415 : (h 76 1) ≠ 2147483658 := q415
                refine x_const (np := 88) (x := 9223372039002259456) (a := 2147483648) (by decide +kernel) (by decide) (by decide) ?_
                refine x_const (np := 89) (x := 9223372047592194050) (a := 2147483650) (by decide +kernel) (by decide) (by decide) ?_
                refine x_nI (t := 6) (mj := 152) (n := 3) (rc := 12) (ml := 3) (nr := 0) (np := 92) (as := [x_r 75, iv_c 2147483648, iv_c 2147483650]) (rest := []) (lo1 := [x_r 75, iv_c 2147483648, iv_c 2147483650]) (by decide +kernel) (by decide) (by decide +kernel) (x_rb_of (by decide +kernel)) rfl rfl (x_wr (by decide) (x_wi (by decide) (x_wi (by decide) x_wn))) x_wn (by decide) rfl ?_
                refine x_iload (np := 1) (x := 1) (by decide +kernel) rfl (by decide) ?_
                refine x_ifz (k := 0) (tg := 9) (np := 4) (by decide +kernel) (by decide) (by decide) (fun q417 => ?_) (fun q418 => ?_)
                · have q417 : 2147483648 = 2147483648 := q417
                  refine x_iload (np := 10) (x := 1) (by decide +kernel) rfl (by decide) ?_
                  refine x_retI (np := 11) (x := 0) (by decide +kernel) (by decide) (Or.inr ⟨by decide +kernel, by first | decide | omega, by first | decide | omega⟩) ⟨_, rfl, (by decide), ?_⟩
                  refine x_ifz (k := 0) (tg := 97) (np := 95) (by decide +kernel) (by decide) (by decide) (fun q419 => ?_) (fun q420 => ?_)
                  · have q419 : 2147483648 = 2147483648 := q419
                    refine x_const (np := 98) (x := 9223372039002259456) (a := 2147483648) (by decide +kernel) (by decide) (by decide) ?_
                    refine x_istore (np := 99) (x := 2) (lo' := [x_r 75, iv_c v374, iv_c 2147483648]) (by decide +kernel) (by decide) (Nat.le_of_ble_eq_true rfl) rfl ?_
                    have p822 : ∀ (n : Nat) (v817 : Nat) (h819 : xh), 4294967296 - v817 < n → (2147483648 ≤ v817 ∧ v817 ≤ 2147483938) → J h819 → Fr 2814749800660992 h399 h819 → WT 76 h819 → Cpa 76 78 h399 h819 (v817 - 2147483648) → X sc 195 (d + 9) (xI fun r h' => J h' ∧ Fr 11821949348610049 h h' ∧ (1 ≤ r ∧ r ≤ 2147483658) ∧ (h' 75 6 = 2147483648) ∧ WT 76 h' ∧ Tf tB tN h h' r ∧ Ff tB tN h h') 0 0 99 [x_r 75, iv_c v374, iv_c v817] [] h819 := by
                      intro n
                      induction n with
                      | zero => intro v817 h819 q825; exact absurd q825 (Nat.not_lt_zero _)
                      | succ n i826 =>
                        intro v817 h819 q825 b818 j821 f820 m823 m824
                        have f827 := Fr.trans f402 f820 (by decide)
                        refine x_iload (np := 100) (x := 2) (by decide +kernel) rfl (by first | decide | omega) ?_
                        refine x_const (np := 103) (x := 9223373284542775586) (a := 2147483938) (by decide +kernel) (by decide) (by decide) ?_
                        refine x_icmp (k := 3) (tg := 124) (np := 106) (by decide +kernel) (by decide) (by first | decide | omega) (by decide) (fun q828 => ?_) (fun q829 => ?_)
                        · have q828 : 2147483938 ≤ v817 := q828
                          have q831 : h1 76 1 = h 76 1 := by rw [← e3]; exact x_up_k (by decide)
                          have z830 := m367 1 (by first | decide | omega)
                          have q833 : h399 78 1 = h380 78 1 := by rw [← e401]; exact x_up_k (by decide)
                          have z832 := m824 1 (by first | decide | omega)
                          refine x_aload (np := 125) (x := 0) (by decide +kernel) rfl (x_nc_le (by decide)) ?_
                          have q834 : h819 75 1 = 76 := by have z := jB (e := 1) 0 j821 rg_75_1_0_1 (by decide) (by decide); omega
                          refine x_getR (np := 128) (x := 705) (f := 1) (q := 76) (by decide +kernel) (by decide) (by decide +kernel) q834 ?_
                          refine x_const (np := 129) (x := 9223372043297226753) (a := 2147483649) (by decide +kernel) (by decide) (by decide) ?_
                          refine x_dup2 (np := 130) (x := 0) (by decide +kernel) (by have z := (iw_c_lt (a := 2147483649) (by decide)).1; omega) (by have z := x_nc_le (k := 76) (by decide); unfold x_r; omega) ?_
                          refine x_aldC (np := 131) (x := 0) (n := 1952) (i := 1) (q := (h819 76 1)) (by decide +kernel) (by decide +kernel) (by first | decide | omega) (by first | decide | omega) (by decide) rfl (fun l835 => ?_)
                          refine x_const (np := 132) (x := 9223372043297226753) (a := 2147483649) (by decide +kernel) (by decide) (by decide) ?_
                          refine x_iadd (np := 133) (x := 0) (v := (1 + (h819 76 1))) (by decide +kernel) l835 (by decide) (by first | decide | omega) (by first | decide | omega) ?_
                          refine x_ast (np := 134) (x := 0) (kd := 1) (n := 1952) (i := 1) (by decide +kernel) (Or.inl rfl) (by decide +kernel) (by first | decide | omega) (by first | decide | omega) (by decide) (by first | decide | omega) (fun z => absurd z (by decide)) ?_
                          have j837 := jU (e := 1) (v := (1 + (h819 76 1))) 0 j821 rg_76_1_0_1 (by first | decide | omega) (by first | decide | omega) (by first | decide | omega)
                          have f839 := jF (e := 1) (v := (1 + (h819 76 1))) 0 f827 rg_76_1_0_1 (by first | decide | omega) (by first | decide | omega) (by decide)
                          generalize e838 : x_up h819 76 1 (1 + (h819 76 1)) = h836 at j837 f839 ⊢
                          refine x_aload (np := 135) (x := 0) (by decide +kernel) rfl (x_nc_le (by decide)) ?_
                          have q840 : h836 75 1 = 76 := by have z := jB (e := 1) 0 j837 rg_75_1_0_1 (by decide) (by decide); omega
                          refine x_getR (np := 138) (x := 705) (f := 1) (q := 76) (by decide +kernel) (by decide) (by decide +kernel) q840 ?_
                          refine x_const (np := 139) (x := 9223372043297226753) (a := 2147483649) (by decide +kernel) (by decide) (by decide) ?_
                          have q841 : h836 76 1 = (1 + (h819 76 1)) := by rw [← e838]; exact x_up_at
                          refine x_aldC (np := 140) (x := 0) (n := 1952) (i := 1) (q := (1 + (h819 76 1))) (by decide +kernel) (by decide +kernel) (by first | decide | omega) (by first | decide | omega) (by decide) q841 (fun l842 => ?_)
                          have q843 : h836 75 6 = h819 75 6 := by rw [← e838]; exact x_up_k (by decide)
                          have q844 : h819 75 6 = h399 75 6 := jK 0 f820 rg_75_6_0_1 (by first | decide | omega) (by first | decide | omega) (by decide)
                          have q845 : h399 75 6 = h380 75 6 := by rw [← e401]; exact x_up_i (by first | decide | omega)
                          have m846 : WT 76 h836 := by rw [← e838]; exact WT.up m823 j821 (by first | decide | omega)
                          have q847 : h1 76 0 = h 76 0 := by rw [← e3]; exact x_up_k (by decide)
                          have b848 := jB (e := 0) 0 hJ rg_76_0_0_1 (by first | decide | omega) (by first | decide | omega)
                          have q849 : h363 76 0 = h1 76 0 := jK 0 f364 rg_76_0_0_1 (by first | decide | omega) (by first | decide | omega) (by decide)
                          have q850 : h1 76 0 = h 76 0 := by rw [← e3]; exact x_up_k (by decide)
                          have z851 := m367 0 (by first | decide | omega)
                          have q852 : h836 76 0 = h819 76 0 := by rw [← e838]; exact x_up_i (by first | decide | omega)
                          have b853 := jB (e := 0) 0 j821 rg_76_0_0_1 (by first | decide | omega) (by first | decide | omega)
                          have q854 : h1 76 1 = h 76 1 := by rw [← e3]; exact x_up_k (by decide)
                          have q855 : h363 76 1 = h1 76 1 := jK 0 f364 rg_76_1_0_1 (by first | decide | omega) (by first | decide | omega) (by decide)
                          have q856 : h1 76 1 = h 76 1 := by rw [← e3]; exact x_up_k (by decide)
                          have z857 := m367 1 (by first | decide | omega)
                          have q858 : h836 76 1 = (1 + (h819 76 1)) := by rw [← e838]; exact x_up_at
                          have b859 := jB (e := 2) 0 j365 rg_78_2_0_1 (by first | decide | omega) (by first | decide | omega)
                          have q860 : h1 76 2 = h 76 2 := by rw [← e3]; exact x_up_k (by decide)
                          have b861 := jB (e := 2) 0 hJ rg_76_2_0_1 (by first | decide | omega) (by first | decide | omega)
                          have q862 : h363 76 2 = h1 76 2 := jK 0 f364 rg_76_2_0_1 (by first | decide | omega) (by first | decide | omega) (by decide)
                          have q863 : h1 76 2 = h 76 2 := by rw [← e3]; exact x_up_k (by decide)
                          have z864 := m367 2 (by first | decide | omega)
                          have q865 : h836 76 2 = h819 76 2 := by rw [← e838]; exact x_up_i (by first | decide | omega)
                          have b866 := jB (e := 2) 0 j821 rg_76_2_0_1 (by first | decide | omega) (by first | decide | omega)
                          have b867 := jB (e := 2) 0 j381 rg_78_2_0_1 (by first | decide | omega) (by first | decide | omega)
                          have b868 := jB (e := 3) 0 j365 rg_78_3_0_1 (by first | decide | omega) (by first | decide | omega)
                          have q869 : h1 76 3 = h 76 3 := by rw [← e3]; exact x_up_k (by decide)
                          have b870 := jB (e := 3) 0 hJ rg_76_3_0_1 (by first | decide | omega) (by first | decide | omega)
                          have q871 : h363 76 3 = h1 76 3 := jK 0 f364 rg_76_3_0_1 (by first | decide | omega) (by first | decide | omega) (by decide)
                          have q872 : h1 76 3 = h 76 3 := by rw [← e3]; exact x_up_k (by decide)
                          have z873 := m367 3 (by first | decide | omega)
                          have q874 : h836 76 3 = h819 76 3 := by rw [← e838]; exact x_up_i (by first | decide | omega)
                          have b875 := jB (e := 3) 0 j821 rg_76_3_0_1 (by first | decide | omega) (by first | decide | omega)
                          have b876 := jB (e := 3) 0 j381 rg_78_3_0_1 (by first | decide | omega) (by first | decide | omega)
                          have b877 := jB (e := 4) 0 j365 rg_78_4_0_1 (by first | decide | omega) (by first | decide | omega)
                          have q878 : h1 76 4 = h 76 4 := by rw [← e3]; exact x_up_k (by decide)
                          have b879 := jB (e := 4) 0 hJ rg_76_4_0_1 (by first | decide | omega) (by first | decide | omega)
                          have q880 : h363 76 4 = h1 76 4 := jK 0 f364 rg_76_4_0_1 (by first | decide | omega) (by first | decide | omega) (by decide)
                          have q881 : h1 76 4 = h 76 4 := by rw [← e3]; exact x_up_k (by decide)
                          have z882 := m367 4 (by first | decide | omega)
                          have q883 : h836 76 4 = h819 76 4 := by rw [← e838]; exact x_up_i (by first | decide | omega)
                          have b884 := jB (e := 4) 0 j821 rg_76_4_0_1 (by first | decide | omega) (by first | decide | omega)
                          have b885 := jB (e := 4) 0 j381 rg_78_4_0_1 (by first | decide | omega) (by first | decide | omega)
                          have b886 := jB (e := 5) 0 j365 rg_78_5_0_1 (by first | decide | omega) (by first | decide | omega)
                          have q887 : h1 76 5 = h 76 5 := by rw [← e3]; exact x_up_k (by decide)
                          have b888 := jB (e := 5) 0 hJ rg_76_5_0_1 (by first | decide | omega) (by first | decide | omega)
                          have q889 : h363 76 5 = h1 76 5 := jK 0 f364 rg_76_5_0_1 (by first | decide | omega) (by first | decide | omega) (by decide)
                          have q890 : h1 76 5 = h 76 5 := by rw [← e3]; exact x_up_k (by decide)
                          have z891 := m367 5 (by first | decide | omega)
                          have q892 : h836 76 5 = h819 76 5 := by rw [← e838]; exact x_up_i (by first | decide | omega)
                          have b893 := jB (e := 5) 0 j821 rg_76_5_0_1 (by first | decide | omega) (by first | decide | omega)
                          have b894 := jB (e := 5) 0 j381 rg_78_5_0_1 (by first | decide | omega) (by first | decide | omega)
                          have q895 : h836 75 0 = h819 75 0 := by rw [← e838]; exact x_up_k (by decide)
                          have q896 : h819 75 0 = h399 75 0 := jK 0 f820 rg_75_0_0_1 (by first | decide | omega) (by first | decide | omega) (by decide)
                          have q897 : h399 75 0 = h380 75 0 := by rw [← e401]; exact x_up_i (by first | decide | omega)
                          have q898 : h380 75 0 = h363 75 0 := jK 0 f382 rg_75_0_0_1 (by first | decide | omega) (by first | decide | omega) (by decide)
                          have q899 : h363 75 0 = h1 75 0 := jK 0 f364 rg_75_0_0_1 (by first | decide | omega) (by first | decide | omega) (by decide)
                          have q900 : h1 75 0 = 2147483648 := by rw [← e3]; exact x_up_at
                          have c901 := Tt.cast (pe' := h 76 0) (l1 := h 76 2) (t1 := h 76 3) (d1 := h 76 4) (s1 := h 76 5) c388 (by first | decide | omega) (by first | decide | omega) (by first | decide | omega) (by first | decide | omega) (by first | decide | omega)
                          have q902 : h399 78 0 = h380 78 0 := by rw [← e401]; exact x_up_k (by decide)
                          have z903 := m824 0 (by first | decide | omega)
                          have q904 : h399 78 1 = h380 78 1 := by rw [← e401]; exact x_up_k (by decide)
                          have z905 := m824 1 (by first | decide | omega)
                          have q906 : h399 78 2 = h380 78 2 := by rw [← e401]; exact x_up_k (by decide)
                          have z907 := m824 2 (by first | decide | omega)
                          have q908 : h399 78 3 = h380 78 3 := by rw [← e401]; exact x_up_k (by decide)
                          have z909 := m824 3 (by first | decide | omega)
                          have q910 : h399 78 4 = h380 78 4 := by rw [← e401]; exact x_up_k (by decide)
                          have z911 := m824 4 (by first | decide | omega)
                          have q912 : h399 78 5 = h380 78 5 := by rw [← e401]; exact x_up_k (by decide)
                          have z913 := m824 5 (by first | decide | omega)
                          have q914 : h836 75 0 = h819 75 0 := by rw [← e838]; exact x_up_k (by decide)
                          have q915 : h819 75 0 = h399 75 0 := jK 0 f820 rg_75_0_0_1 (by first | decide | omega) (by first | decide | omega) (by decide)
                          have q916 : h399 75 0 = h380 75 0 := by rw [← e401]; exact x_up_i (by first | decide | omega)
                          have q917 : h380 75 0 = h363 75 0 := jK 0 f382 rg_75_0_0_1 (by first | decide | omega) (by first | decide | omega) (by decide)
                          have q918 : h363 75 0 = h1 75 0 := jK 0 f364 rg_75_0_0_1 (by first | decide | omega) (by first | decide | omega) (by decide)
                          have q919 : h1 75 0 = 2147483648 := by rw [← e3]; exact x_up_at
                          have q920 : h836 75 11 = h819 75 11 := by rw [← e838]; exact x_up_k (by decide)
                          have q921 : h819 75 11 = h399 75 11 := jK 0 f820 rg_75_11_0_1 (by first | decide | omega) (by first | decide | omega) (by decide)
                          have q922 : h399 75 11 = 2147483647 := by rw [← e401]; exact x_up_at
                          refine x_retI (np := 141) (x := 0) (by decide +kernel) (by first | decide | omega) (Or.inl (by decide +kernel)) ⟨_, rfl, (by first | decide | omega), ?_⟩
                          exact ⟨j837, f839, (by first | decide | omega), (by first | decide | omega), m846, (Or.inl ⟨by first | decide | omega, Tt.somer c901 (by first | decide | omega) (by first | decide | omega) (by first | decide | omega) (by first | decide | omega) (by first | decide | omega), by first | decide | omega, by first | decide | omega, by first | decide | omega, by first | decide | omega⟩), ⟨(fun z => absurd z (by first | decide | omega)), fun _ => by first | decide | omega⟩⟩
                        have q829 : ¬ (2147483938 ≤ v817) := q829
                        refine x_aload (np := 107) (x := 0) (by decide +kernel) rfl (x_nc_le (by decide)) ?_
                        have q923 : h819 75 1 = 76 := by have z := jB (e := 1) 0 j821 rg_75_1_0_1 (by decide) (by decide); omega
                        refine x_getR (np := 110) (x := 705) (f := 1) (q := 76) (by decide +kernel) (by decide) (by decide +kernel) q923 ?_
                        refine x_iload (np := 111) (x := 2) (by decide +kernel) rfl (by first | decide | omega) ?_
                        refine x_aload (np := 112) (x := 0) (by decide +kernel) rfl (x_nc_le (by decide)) ?_
                        have q924 : h819 75 3 = 78 := by have z := jB (e := 3) 0 j821 rg_75_3_0_1 (by decide) (by decide); omega
                        refine x_getR (np := 115) (x := 707) (f := 3) (q := 78) (by decide +kernel) (by decide) (by decide +kernel) q924 ?_
                        refine x_iload (np := 116) (x := 2) (by decide +kernel) rfl (by first | decide | omega) ?_
                        obtain ⟨u925, q926⟩ : ∃ z, v817 = 2147483648 + z := ⟨v817 - 2147483648, by first | decide | omega⟩
                        refine x_aldC (np := 117) (x := 0) (n := 290) (i := u925) (q := (h819 78 u925)) (by decide +kernel) (by decide +kernel) (by first | decide | omega) (by first | decide | omega) (by decide) rfl (fun l927 => ?_)
                        refine x_ast (np := 118) (x := 0) (kd := 1) (n := 1952) (i := u925) (by decide +kernel) (Or.inl rfl) (by decide +kernel) (by first | decide | omega) (by first | decide | omega) (by decide) l927 (fun z => absurd z (by decide)) ?_
                        have m932 : Cl h399 := by rw [← e401]; exact Cl.oth m398 (by decide)
                        have m931 := Cl.fr m932 f820 (by decide)
                        have j929 := clJ (e := u925) (v := (h819 78 u925)) j821 m931 (by first | decide | omega) rfl
                        have f933 := clF (e := u925) (v := (h819 78 u925)) f827 (by first | decide | omega) (by decide) (by decide) (by decide)
                        have f934 := clF (e := u925) (v := (h819 78 u925)) f820 (by first | decide | omega) (by decide) (by decide) (by decide)
                        generalize e930 : x_up h819 76 u925 (h819 78 u925) = h928 at j929 f933 f934 ⊢
                        refine x_iinc (np := 121) (i := 2) (j := 2147483649) (v := (1 + v817)) (lo' := [x_r 75, iv_c v374, iv_c (1 + v817)]) (by decide +kernel) (by decide) (by decide) rfl (by first | decide | omega) (by first | decide | omega) (by first | decide | omega) rfl ?_
                        refine x_goto (np := 124) (x := 99) (by decide +kernel) ?_
                        have m935 : WT 76 h928 := by rw [← e930]; exact WT.up m823 j821 (by first | decide | omega)
                        have m936 : Cpa 76 78 h399 h928 ((1 + v817) - 2147483648) := by
                          have e0 : v817 - 2147483648 = u925 := by first | decide | omega
                          have e9 : (1 + v817) = 2147483648 + (u925 + 1) := by first | decide | omega
                          have e1 : (1 + v817) - 2147483648 = u925 + 1 := by rw [e9]; exact Nat.add_sub_cancel_left _ _
                          have p9 := m824
                          rw [e0] at p9
                          rw [e1, ← e930]
                          exact Cpa.step p9 (f820 78 u925 (by rw [cl_gr]; decide))
                        exact i826 (1 + v817) h928 (by first | decide | omega) (by first | decide | omega) j929 f934 m935 m936
                    have m940 : WT 76 h1 := by rw [← e3]; exact WT.oth hW hJ (by decide)
                    have m939 := WT.fr m940 j2 f364 (by decide)
                    have m938 := WT.fr m939 j365 f382 (by decide)
                    have m937 : WT 76 h399 := by rw [← e401]; exact WT.oth m938 j381 (by decide)
                    exact p822 _ 2147483648 h399 (Nat.lt_succ_self _) (by first | decide | omega) j400 (Fr.refl _ _) m937 Cpa.zero
                  have q420 : ¬ (2147483648 = 2147483648) := q420
                  exfalso; omega
                have q418 : ¬ (2147483648 = 2147483648) := q418
                exfalso; omega
              have q416 : ¬ ((h 76 1) ≠ 2147483658) := q416
              refine x_const (np := 84) (x := 9223372043297226753) (a := 2147483649) (by decide +kernel) (by decide) (by decide) ?_
              refine x_goto (np := 87) (x := 88) (by decide +kernel) ?_
              refine x_const (np := 89) (x := 9223372047592194050) (a := 2147483650) (by decide +kernel) (by decide) (by decide) ?_
              refine x_nI (t := 6) (mj := 152) (n := 3) (rc := 12) (ml := 3) (nr := 0) (np := 92) (as := [x_r 75, iv_c 2147483649, iv_c 2147483650]) (rest := []) (lo1 := [x_r 75, iv_c 2147483649, iv_c 2147483650]) (by decide +kernel) (by decide) (by decide +kernel) (x_rb_of (by decide +kernel)) rfl rfl (x_wr (by decide) (x_wi (by decide) (x_wi (by decide) x_wn))) x_wn (by decide) rfl ?_
              refine x_iload (np := 1) (x := 1) (by decide +kernel) rfl (by decide) ?_
              refine x_ifz (k := 0) (tg := 9) (np := 4) (by decide +kernel) (by decide) (by decide) (fun q941 => ?_) (fun q942 => ?_)
              · have q941 : 2147483649 = 2147483648 := q941
                exfalso; omega
              have q942 : ¬ (2147483649 = 2147483648) := q942
              refine x_aload (np := 5) (x := 0) (by decide +kernel) rfl (x_nc_le (by decide)) ?_
              refine x_iload (np := 6) (x := 2) (by decide +kernel) rfl (by decide) ?_
              refine x_putI (np := 9) (x := 704) (f := 0) (by decide +kernel) (by decide +kernel) (by decide) (Or.inl (by decide)) ?_
              have j944 := jU (e := 0) (v := 2147483650) 0 j400 rg_75_0_0_1 (by first | decide | omega) (by first | decide | omega) (by first | decide | omega)
              have f946 := jF (e := 0) (v := 2147483650) 0 f402 rg_75_0_0_1 (by first | decide | omega) (by first | decide | omega) (by decide)
              generalize e945 : x_up h399 75 0 2147483650 = h943 at j944 f946 ⊢
              refine x_iload (np := 10) (x := 1) (by decide +kernel) rfl (by decide) ?_
              refine x_retI (np := 11) (x := 0) (by decide +kernel) (by decide) (Or.inr ⟨by decide +kernel, by first | decide | omega, by first | decide | omega⟩) ⟨_, rfl, (by decide), ?_⟩
              refine x_ifz (k := 0) (tg := 97) (np := 95) (by decide +kernel) (by decide) (by decide) (fun q947 => ?_) (fun q948 => ?_)
              · have q947 : 2147483649 = 2147483648 := q947
                exfalso; omega
              have q948 : ¬ (2147483649 = 2147483648) := q948
              refine x_const (np := 96) (x := 9223372039002259456) (a := 2147483648) (by decide +kernel) (by decide) (by decide) ?_
              have q949 : h943 75 6 = h399 75 6 := by rw [← e945]; exact x_up_i (by first | decide | omega)
              have q950 : h399 75 6 = h380 75 6 := by rw [← e401]; exact x_up_i (by first | decide | omega)
              have m955 : WT 76 h1 := by rw [← e3]; exact WT.oth hW hJ (by decide)
              have m954 := WT.fr m955 j2 f364 (by decide)
              have m953 := WT.fr m954 j365 f382 (by decide)
              have m952 : WT 76 h399 := by rw [← e401]; exact WT.oth m953 j381 (by decide)
              have m951 : WT 76 h943 := by rw [← e945]; exact WT.oth m952 j400 (by decide)
              have q956 : h1 76 0 = h 76 0 := by rw [← e3]; exact x_up_k (by decide)
              have b957 := jB (e := 0) 0 hJ rg_76_0_0_1 (by first | decide | omega) (by first | decide | omega)
              have q958 : h363 76 0 = h1 76 0 := jK 0 f364 rg_76_0_0_1 (by first | decide | omega) (by first | decide | omega) (by decide)
              have q959 : h1 76 0 = h 76 0 := by rw [← e3]; exact x_up_k (by decide)
              have z960 := m367 0 (by first | decide | omega)
              have q961 : h943 76 0 = h399 76 0 := by rw [← e945]; exact x_up_k (by decide)
              have q962 : h399 76 0 = h380 76 0 := by rw [← e401]; exact x_up_k (by decide)
              have q963 : h380 76 0 = h363 76 0 := jK 0 f382 rg_76_0_0_1 (by first | decide | omega) (by first | decide | omega) (by decide)
              have q964 : h363 76 0 = h1 76 0 := jK 0 f364 rg_76_0_0_1 (by first | decide | omega) (by first | decide | omega) (by decide)
              have q965 : h1 76 0 = h 76 0 := by rw [← e3]; exact x_up_k (by decide)
              have q966 : h1 76 1 = h 76 1 := by rw [← e3]; exact x_up_k (by decide)
              have q967 : h363 76 1 = h1 76 1 := jK 0 f364 rg_76_1_0_1 (by first | decide | omega) (by first | decide | omega) (by decide)
              have q968 : h1 76 1 = h 76 1 := by rw [← e3]; exact x_up_k (by decide)
              have z969 := m367 1 (by first | decide | omega)
              have q970 : h943 76 1 = h399 76 1 := by rw [← e945]; exact x_up_k (by decide)
              have q971 : h399 76 1 = h380 76 1 := by rw [← e401]; exact x_up_k (by decide)
              have q972 : h380 76 1 = h363 76 1 := jK 0 f382 rg_76_1_0_1 (by first | decide | omega) (by first | decide | omega) (by decide)
              have q973 : h363 76 1 = h1 76 1 := jK 0 f364 rg_76_1_0_1 (by first | decide | omega) (by first | decide | omega) (by decide)
              have q974 : h1 76 1 = h 76 1 := by rw [← e3]; exact x_up_k (by decide)
              have b975 := jB (e := 2) 0 j365 rg_78_2_0_1 (by first | decide | omega) (by first | decide | omega)
              have q976 : h1 76 2 = h 76 2 := by rw [← e3]; exact x_up_k (by decide)
              have b977 := jB (e := 2) 0 hJ rg_76_2_0_1 (by first | decide | omega) (by first | decide | omega)
              have q978 : h363 76 2 = h1 76 2 := jK 0 f364 rg_76_2_0_1 (by first | decide | omega) (by first | decide | omega) (by decide)
              have q979 : h1 76 2 = h 76 2 := by rw [← e3]; exact x_up_k (by decide)
              have z980 := m367 2 (by first | decide | omega)
              have q981 : h943 76 2 = h399 76 2 := by rw [← e945]; exact x_up_k (by decide)
              have q982 : h399 76 2 = h380 76 2 := by rw [← e401]; exact x_up_k (by decide)
              have q983 : h380 76 2 = h363 76 2 := jK 0 f382 rg_76_2_0_1 (by first | decide | omega) (by first | decide | omega) (by decide)
              have q984 : h363 76 2 = h1 76 2 := jK 0 f364 rg_76_2_0_1 (by first | decide | omega) (by first | decide | omega) (by decide)
              have q985 : h1 76 2 = h 76 2 := by rw [← e3]; exact x_up_k (by decide)
              have b986 := jB (e := 2) 0 j381 rg_78_2_0_1 (by first | decide | omega) (by first | decide | omega)
              have b987 := jB (e := 3) 0 j365 rg_78_3_0_1 (by first | decide | omega) (by first | decide | omega)
              have q988 : h1 76 3 = h 76 3 := by rw [← e3]; exact x_up_k (by decide)
              have b989 := jB (e := 3) 0 hJ rg_76_3_0_1 (by first | decide | omega) (by first | decide | omega)
              have q990 : h363 76 3 = h1 76 3 := jK 0 f364 rg_76_3_0_1 (by first | decide | omega) (by first | decide | omega) (by decide)
              have q991 : h1 76 3 = h 76 3 := by rw [← e3]; exact x_up_k (by decide)
              have z992 := m367 3 (by first | decide | omega)
              have q993 : h943 76 3 = h399 76 3 := by rw [← e945]; exact x_up_k (by decide)
              have q994 : h399 76 3 = h380 76 3 := by rw [← e401]; exact x_up_k (by decide)
              have q995 : h380 76 3 = h363 76 3 := jK 0 f382 rg_76_3_0_1 (by first | decide | omega) (by first | decide | omega) (by decide)
              have q996 : h363 76 3 = h1 76 3 := jK 0 f364 rg_76_3_0_1 (by first | decide | omega) (by first | decide | omega) (by decide)
              have q997 : h1 76 3 = h 76 3 := by rw [← e3]; exact x_up_k (by decide)
              have b998 := jB (e := 3) 0 j381 rg_78_3_0_1 (by first | decide | omega) (by first | decide | omega)
              have b999 := jB (e := 4) 0 j365 rg_78_4_0_1 (by first | decide | omega) (by first | decide | omega)
              have q1000 : h1 76 4 = h 76 4 := by rw [← e3]; exact x_up_k (by decide)
              have b1001 := jB (e := 4) 0 hJ rg_76_4_0_1 (by first | decide | omega) (by first | decide | omega)
              have q1002 : h363 76 4 = h1 76 4 := jK 0 f364 rg_76_4_0_1 (by first | decide | omega) (by first | decide | omega) (by decide)
              have q1003 : h1 76 4 = h 76 4 := by rw [← e3]; exact x_up_k (by decide)
              have z1004 := m367 4 (by first | decide | omega)
              have q1005 : h943 76 4 = h399 76 4 := by rw [← e945]; exact x_up_k (by decide)
              have q1006 : h399 76 4 = h380 76 4 := by rw [← e401]; exact x_up_k (by decide)
              have q1007 : h380 76 4 = h363 76 4 := jK 0 f382 rg_76_4_0_1 (by first | decide | omega) (by first | decide | omega) (by decide)
              have q1008 : h363 76 4 = h1 76 4 := jK 0 f364 rg_76_4_0_1 (by first | decide | omega) (by first | decide | omega) (by decide)
              have q1009 : h1 76 4 = h 76 4 := by rw [← e3]; exact x_up_k (by decide)
              have b1010 := jB (e := 4) 0 j381 rg_78_4_0_1 (by first | decide | omega) (by first | decide | omega)
              have b1011 := jB (e := 5) 0 j365 rg_78_5_0_1 (by first | decide | omega) (by first | decide | omega)
              have q1012 : h1 76 5 = h 76 5 := by rw [← e3]; exact x_up_k (by decide)
              have b1013 := jB (e := 5) 0 hJ rg_76_5_0_1 (by first | decide | omega) (by first | decide | omega)
              have q1014 : h363 76 5 = h1 76 5 := jK 0 f364 rg_76_5_0_1 (by first | decide | omega) (by first | decide | omega) (by decide)
              have q1015 : h1 76 5 = h 76 5 := by rw [← e3]; exact x_up_k (by decide)
              have z1016 := m367 5 (by first | decide | omega)
              have q1017 : h943 76 5 = h399 76 5 := by rw [← e945]; exact x_up_k (by decide)
              have q1018 : h399 76 5 = h380 76 5 := by rw [← e401]; exact x_up_k (by decide)
              have q1019 : h380 76 5 = h363 76 5 := jK 0 f382 rg_76_5_0_1 (by first | decide | omega) (by first | decide | omega) (by decide)
              have q1020 : h363 76 5 = h1 76 5 := jK 0 f364 rg_76_5_0_1 (by first | decide | omega) (by first | decide | omega) (by decide)
              have q1021 : h1 76 5 = h 76 5 := by rw [← e3]; exact x_up_k (by decide)
              have b1022 := jB (e := 5) 0 j381 rg_78_5_0_1 (by first | decide | omega) (by first | decide | omega)
              have q1023 : h943 75 0 = 2147483650 := by rw [← e945]; exact x_up_at
              have c1024 := Tt.cast (pe' := h 76 0) (l1 := h 76 2) (t1 := h 76 3) (d1 := h 76 4) (s1 := h 76 5) c388 (by first | decide | omega) (by first | decide | omega) (by first | decide | omega) (by first | decide | omega) (by first | decide | omega)
              have q1025 : h943 75 0 = 2147483650 := by rw [← e945]; exact x_up_at
              have q1026 : h943 75 11 = h399 75 11 := by rw [← e945]; exact x_up_i (by first | decide | omega)
              have q1027 : h399 75 11 = 2147483647 := by rw [← e401]; exact x_up_at
              refine x_retI (np := 97) (x := 0) (by decide +kernel) (by decide) (Or.inl (by decide +kernel)) ⟨_, rfl, (by decide), ?_⟩
              exact ⟨j944, f946, (by first | decide | omega), (by first | decide | omega), m951, (Or.inr (Or.inr ⟨by first | decide | omega, ⟨_, Tt.somer c1024 (by first | decide | omega) rfl rfl rfl rfl⟩, by first | decide | omega, (six6 (by first | decide | omega) (by first | decide | omega) (by first | decide | omega) (by first | decide | omega) (by first | decide | omega) (by first | decide | omega))⟩)), ⟨(fun z => absurd z (by first | decide | omega)), fun _ => by first | decide | omega⟩⟩
            have q406 : ¬ (2147483648 = 2147483648) := q406
            exfalso; omega
          have q404 : ¬ (2147483648 ≤ v374) := q404
          exfalso; omega
        have q395 : ¬ (2147483648 ≤ v374) := q395
        refine x_aload (np := 44) (x := 0) (by decide +kernel) rfl (x_nc_le (by decide)) ?_
        have b1028 := jB (e := 9) 0 j381 rg_75_9_0_1 (by first | decide | omega) (by first | decide | omega)
        refine x_getC (np := 47) (x := 713) (f := 9) (q := (h380 75 9)) (by decide +kernel) (by decide) (by decide +kernel) rfl (fun l1029 => ?_)
        refine x_goto (np := 50) (x := 51) (by decide +kernel) ?_
        refine x_putI (np := 54) (x := 715) (f := 11) (by decide +kernel) (by decide +kernel) l1029 (Or.inl (by decide)) ?_
        have j1031 := jU (e := 11) (v := (h380 75 9)) 0 j381 rg_75_11_0_1 (by first | decide | omega) (by first | decide | omega) (by first | decide | omega)
        have f1033 := jF (e := 11) (v := (h380 75 9)) 0 f390 rg_75_11_0_1 (by first | decide | omega) (by first | decide | omega) (by decide)
        generalize e1032 : x_up h380 75 11 (h380 75 9) = h1030 at j1031 f1033 ⊢
        refine x_aload (np := 55) (x := 0) (by decide +kernel) rfl (x_nc_le (by decide)) ?_
        refine x_iload (np := 56) (x := 1) (by decide +kernel) rfl l375 ?_
        refine x_ifz (k := 3) (tg := 63) (np := 59) (by decide +kernel) (by decide) l375 (fun q1034 => ?_) (fun q1035 => ?_)
        · have q1034 : 2147483648 ≤ v374 := q1034
          exfalso; omega
        have q1035 : ¬ (2147483648 ≤ v374) := q1035
        refine x_const (np := 60) (x := 9223372043297226753) (a := 2147483649) (by decide +kernel) (by decide) (by decide) ?_
        refine x_goto (np := 63) (x := 64) (by decide +kernel) ?_
        refine x_const (np := 65) (x := 9223372043297226753) (a := 2147483649) (by decide +kernel) (by decide) (by decide) ?_
        refine x_nI (t := 6) (mj := 152) (n := 3) (rc := 12) (ml := 3) (nr := 0) (np := 68) (as := [x_r 75, iv_c 2147483649, iv_c 2147483649]) (rest := []) (lo1 := [x_r 75, iv_c 2147483649, iv_c 2147483649]) (by decide +kernel) (by decide) (by decide +kernel) (x_rb_of (by decide +kernel)) rfl rfl (x_wr (by decide) (x_wi (by decide) (x_wi (by decide) x_wn))) x_wn (by decide) rfl ?_
        refine x_iload (np := 1) (x := 1) (by decide +kernel) rfl (by decide) ?_
        refine x_ifz (k := 0) (tg := 9) (np := 4) (by decide +kernel) (by decide) (by decide) (fun q1036 => ?_) (fun q1037 => ?_)
        · have q1036 : 2147483649 = 2147483648 := q1036
          exfalso; omega
        have q1037 : ¬ (2147483649 = 2147483648) := q1037
        refine x_aload (np := 5) (x := 0) (by decide +kernel) rfl (x_nc_le (by decide)) ?_
        refine x_iload (np := 6) (x := 2) (by decide +kernel) rfl (by decide) ?_
        refine x_putI (np := 9) (x := 704) (f := 0) (by decide +kernel) (by decide +kernel) (by decide) (Or.inl (by decide)) ?_
        have j1039 := jU (e := 0) (v := 2147483649) 0 j1031 rg_75_0_0_1 (by first | decide | omega) (by first | decide | omega) (by first | decide | omega)
        have f1041 := jF (e := 0) (v := 2147483649) 0 f1033 rg_75_0_0_1 (by first | decide | omega) (by first | decide | omega) (by decide)
        generalize e1040 : x_up h1030 75 0 2147483649 = h1038 at j1039 f1041 ⊢
        refine x_iload (np := 10) (x := 1) (by decide +kernel) rfl (by decide) ?_
        refine x_retI (np := 11) (x := 0) (by decide +kernel) (by decide) (Or.inr ⟨by decide +kernel, by first | decide | omega, by first | decide | omega⟩) ⟨_, rfl, (by decide), ?_⟩
        refine x_ifz (k := 1) (tg := 95) (np := 71) (by decide +kernel) (by decide) (by decide) (fun q1042 => ?_) (fun q1043 => ?_)
        · have q1042 : 2147483649 ≠ 2147483648 := q1042
          refine x_const (np := 96) (x := 9223372039002259456) (a := 2147483648) (by decide +kernel) (by decide) (by decide) ?_
          have q1044 : h1038 75 6 = h1030 75 6 := by rw [← e1040]; exact x_up_i (by first | decide | omega)
          have q1045 : h1030 75 6 = h380 75 6 := by rw [← e1032]; exact x_up_i (by first | decide | omega)
          have m1050 : WT 76 h1 := by rw [← e3]; exact WT.oth hW hJ (by decide)
          have m1049 := WT.fr m1050 j2 f364 (by decide)
          have m1048 := WT.fr m1049 j365 f382 (by decide)
          have m1047 : WT 76 h1030 := by rw [← e1032]; exact WT.oth m1048 j381 (by decide)
          have m1046 : WT 76 h1038 := by rw [← e1040]; exact WT.oth m1047 j1031 (by decide)
          have q1051 : h1 76 0 = h 76 0 := by rw [← e3]; exact x_up_k (by decide)
          have b1052 := jB (e := 0) 0 hJ rg_76_0_0_1 (by first | decide | omega) (by first | decide | omega)
          have q1053 : h363 76 0 = h1 76 0 := jK 0 f364 rg_76_0_0_1 (by first | decide | omega) (by first | decide | omega) (by decide)
          have q1054 : h1 76 0 = h 76 0 := by rw [← e3]; exact x_up_k (by decide)
          have z1055 := m367 0 (by first | decide | omega)
          have q1056 : h1038 76 0 = h1030 76 0 := by rw [← e1040]; exact x_up_k (by decide)
          have q1057 : h1030 76 0 = h380 76 0 := by rw [← e1032]; exact x_up_k (by decide)
          have q1058 : h380 76 0 = h363 76 0 := jK 0 f382 rg_76_0_0_1 (by first | decide | omega) (by first | decide | omega) (by decide)
          have q1059 : h363 76 0 = h1 76 0 := jK 0 f364 rg_76_0_0_1 (by first | decide | omega) (by first | decide | omega) (by decide)
          have q1060 : h1 76 0 = h 76 0 := by rw [← e3]; exact x_up_k (by decide)
          have q1061 : h1 76 1 = h 76 1 := by rw [← e3]; exact x_up_k (by decide)
          have q1062 : h363 76 1 = h1 76 1 := jK 0 f364 rg_76_1_0_1 (by first | decide | omega) (by first | decide | omega) (by decide)
          have q1063 : h1 76 1 = h 76 1 := by rw [← e3]; exact x_up_k (by decide)
          have z1064 := m367 1 (by first | decide | omega)
          have q1065 : h1038 76 1 = h1030 76 1 := by rw [← e1040]; exact x_up_k (by decide)
          have q1066 : h1030 76 1 = h380 76 1 := by rw [← e1032]; exact x_up_k (by decide)
          have q1067 : h380 76 1 = h363 76 1 := jK 0 f382 rg_76_1_0_1 (by first | decide | omega) (by first | decide | omega) (by decide)
          have q1068 : h363 76 1 = h1 76 1 := jK 0 f364 rg_76_1_0_1 (by first | decide | omega) (by first | decide | omega) (by decide)
          have q1069 : h1 76 1 = h 76 1 := by rw [← e3]; exact x_up_k (by decide)
          have b1070 := jB (e := 2) 0 j365 rg_78_2_0_1 (by first | decide | omega) (by first | decide | omega)
          have q1071 : h1 76 2 = h 76 2 := by rw [← e3]; exact x_up_k (by decide)
          have b1072 := jB (e := 2) 0 hJ rg_76_2_0_1 (by first | decide | omega) (by first | decide | omega)
          have q1073 : h363 76 2 = h1 76 2 := jK 0 f364 rg_76_2_0_1 (by first | decide | omega) (by first | decide | omega) (by decide)
          have q1074 : h1 76 2 = h 76 2 := by rw [← e3]; exact x_up_k (by decide)
          have z1075 := m367 2 (by first | decide | omega)
          have q1076 : h1038 76 2 = h1030 76 2 := by rw [← e1040]; exact x_up_k (by decide)
          have q1077 : h1030 76 2 = h380 76 2 := by rw [← e1032]; exact x_up_k (by decide)
          have q1078 : h380 76 2 = h363 76 2 := jK 0 f382 rg_76_2_0_1 (by first | decide | omega) (by first | decide | omega) (by decide)
          have q1079 : h363 76 2 = h1 76 2 := jK 0 f364 rg_76_2_0_1 (by first | decide | omega) (by first | decide | omega) (by decide)
          have q1080 : h1 76 2 = h 76 2 := by rw [← e3]; exact x_up_k (by decide)
          have b1081 := jB (e := 2) 0 j381 rg_78_2_0_1 (by first | decide | omega) (by first | decide | omega)
          have b1082 := jB (e := 3) 0 j365 rg_78_3_0_1 (by first | decide | omega) (by first | decide | omega)
          have q1083 : h1 76 3 = h 76 3 := by rw [← e3]; exact x_up_k (by decide)
          have b1084 := jB (e := 3) 0 hJ rg_76_3_0_1 (by first | decide | omega) (by first | decide | omega)
          have q1085 : h363 76 3 = h1 76 3 := jK 0 f364 rg_76_3_0_1 (by first | decide | omega) (by first | decide | omega) (by decide)
          have q1086 : h1 76 3 = h 76 3 := by rw [← e3]; exact x_up_k (by decide)
          have z1087 := m367 3 (by first | decide | omega)
          have q1088 : h1038 76 3 = h1030 76 3 := by rw [← e1040]; exact x_up_k (by decide)
          have q1089 : h1030 76 3 = h380 76 3 := by rw [← e1032]; exact x_up_k (by decide)
          have q1090 : h380 76 3 = h363 76 3 := jK 0 f382 rg_76_3_0_1 (by first | decide | omega) (by first | decide | omega) (by decide)
          have q1091 : h363 76 3 = h1 76 3 := jK 0 f364 rg_76_3_0_1 (by first | decide | omega) (by first | decide | omega) (by decide)
          have q1092 : h1 76 3 = h 76 3 := by rw [← e3]; exact x_up_k (by decide)
          have b1093 := jB (e := 3) 0 j381 rg_78_3_0_1 (by first | decide | omega) (by first | decide | omega)
          have b1094 := jB (e := 4) 0 j365 rg_78_4_0_1 (by first | decide | omega) (by first | decide | omega)
          have q1095 : h1 76 4 = h 76 4 := by rw [← e3]; exact x_up_k (by decide)
          have b1096 := jB (e := 4) 0 hJ rg_76_4_0_1 (by first | decide | omega) (by first | decide | omega)
          have q1097 : h363 76 4 = h1 76 4 := jK 0 f364 rg_76_4_0_1 (by first | decide | omega) (by first | decide | omega) (by decide)
          have q1098 : h1 76 4 = h 76 4 := by rw [← e3]; exact x_up_k (by decide)
          have z1099 := m367 4 (by first | decide | omega)
          have q1100 : h1038 76 4 = h1030 76 4 := by rw [← e1040]; exact x_up_k (by decide)
          have q1101 : h1030 76 4 = h380 76 4 := by rw [← e1032]; exact x_up_k (by decide)
          have q1102 : h380 76 4 = h363 76 4 := jK 0 f382 rg_76_4_0_1 (by first | decide | omega) (by first | decide | omega) (by decide)
          have q1103 : h363 76 4 = h1 76 4 := jK 0 f364 rg_76_4_0_1 (by first | decide | omega) (by first | decide | omega) (by decide)
          have q1104 : h1 76 4 = h 76 4 := by rw [← e3]; exact x_up_k (by decide)
          have b1105 := jB (e := 4) 0 j381 rg_78_4_0_1 (by first | decide | omega) (by first | decide | omega)
          have b1106 := jB (e := 5) 0 j365 rg_78_5_0_1 (by first | decide | omega) (by first | decide | omega)
          have q1107 : h1 76 5 = h 76 5 := by rw [← e3]; exact x_up_k (by decide)
          have b1108 := jB (e := 5) 0 hJ rg_76_5_0_1 (by first | decide | omega) (by first | decide | omega)
          have q1109 : h363 76 5 = h1 76 5 := jK 0 f364 rg_76_5_0_1 (by first | decide | omega) (by first | decide | omega) (by decide)
          have q1110 : h1 76 5 = h 76 5 := by rw [← e3]; exact x_up_k (by decide)
          have z1111 := m367 5 (by first | decide | omega)
          have q1112 : h1038 76 5 = h1030 76 5 := by rw [← e1040]; exact x_up_k (by decide)
          have q1113 : h1030 76 5 = h380 76 5 := by rw [← e1032]; exact x_up_k (by decide)
          have q1114 : h380 76 5 = h363 76 5 := jK 0 f382 rg_76_5_0_1 (by first | decide | omega) (by first | decide | omega) (by decide)
          have q1115 : h363 76 5 = h1 76 5 := jK 0 f364 rg_76_5_0_1 (by first | decide | omega) (by first | decide | omega) (by decide)
          have q1116 : h1 76 5 = h 76 5 := by rw [← e3]; exact x_up_k (by decide)
          have b1117 := jB (e := 5) 0 j381 rg_78_5_0_1 (by first | decide | omega) (by first | decide | omega)
          have q1118 : h1038 75 0 = 2147483649 := by rw [← e1040]; exact x_up_at
          have c1119 := Tt.cast (pe' := h 76 0) (l1 := h 76 2) (t1 := h 76 3) (d1 := h 76 4) (s1 := h 76 5) c388 (by first | decide | omega) (by first | decide | omega) (by first | decide | omega) (by first | decide | omega) (by first | decide | omega)
          have q1120 : h1038 75 0 = 2147483649 := by rw [← e1040]; exact x_up_at
          have q1121 : h1038 75 11 = h1030 75 11 := by rw [← e1040]; exact x_up_i (by first | decide | omega)
          have q1122 : h1030 75 11 = (h380 75 9) := by rw [← e1032]; exact x_up_at
          have q1123 : h1 76 0 = h 76 0 := by rw [← e3]; exact x_up_k (by decide)
          have q1124 : h363 76 0 = h1 76 0 := jK 0 f364 rg_76_0_0_1 (by first | decide | omega) (by first | decide | omega) (by decide)
          have q1125 : h1 76 0 = h 76 0 := by rw [← e3]; exact x_up_k (by decide)
          have z1126 := m367 0 (by first | decide | omega)
          have q1127 : h1 76 1 = h 76 1 := by rw [← e3]; exact x_up_k (by decide)
          have q1128 : h363 76 1 = h1 76 1 := jK 0 f364 rg_76_1_0_1 (by first | decide | omega) (by first | decide | omega) (by decide)
          have q1129 : h1 76 1 = h 76 1 := by rw [← e3]; exact x_up_k (by decide)
          have z1130 := m367 1 (by first | decide | omega)
          have q1131 : h1 76 2 = h 76 2 := by rw [← e3]; exact x_up_k (by decide)
          have q1132 : h363 76 2 = h1 76 2 := jK 0 f364 rg_76_2_0_1 (by first | decide | omega) (by first | decide | omega) (by decide)
          have q1133 : h1 76 2 = h 76 2 := by rw [← e3]; exact x_up_k (by decide)
          have z1134 := m367 2 (by first | decide | omega)
          have q1135 : h1 76 3 = h 76 3 := by rw [← e3]; exact x_up_k (by decide)
          have q1136 : h363 76 3 = h1 76 3 := jK 0 f364 rg_76_3_0_1 (by first | decide | omega) (by first | decide | omega) (by decide)
          have q1137 : h1 76 3 = h 76 3 := by rw [← e3]; exact x_up_k (by decide)
          have z1138 := m367 3 (by first | decide | omega)
          have q1139 : h1 76 4 = h 76 4 := by rw [← e3]; exact x_up_k (by decide)
          have q1140 : h363 76 4 = h1 76 4 := jK 0 f364 rg_76_4_0_1 (by first | decide | omega) (by first | decide | omega) (by decide)
          have q1141 : h1 76 4 = h 76 4 := by rw [← e3]; exact x_up_k (by decide)
          have z1142 := m367 4 (by first | decide | omega)
          have q1143 : h1 76 5 = h 76 5 := by rw [← e3]; exact x_up_k (by decide)
          have q1144 : h363 76 5 = h1 76 5 := jK 0 f364 rg_76_5_0_1 (by first | decide | omega) (by first | decide | omega) (by decide)
          have q1145 : h1 76 5 = h 76 5 := by rw [← e3]; exact x_up_k (by decide)
          have z1146 := m367 5 (by first | decide | omega)
          refine x_retI (np := 97) (x := 0) (by decide +kernel) (by decide) (Or.inl (by decide +kernel)) ⟨_, rfl, (by decide), ?_⟩
          exact ⟨j1039, f1041, (by first | decide | omega), (by first | decide | omega), m1046, (Or.inr (Or.inl ⟨by first | decide | omega, Tt.noner c1119 (by first | decide | omega), (six6 (by first | decide | omega) (by first | decide | omega) (by first | decide | omega) (by first | decide | omega) (by first | decide | omega) (by first | decide | omega))⟩)), ⟨fun _ => TF.cast (c389 (by first | decide | omega)) (by first | decide | omega) (by first | decide | omega) (by first | decide | omega) (by first | decide | omega) (by first | decide | omega) (by first | decide | omega), fun z => absurd (by first | decide | omega) z⟩⟩
        have q1043 : ¬ (2147483649 ≠ 2147483648) := q1043
        exfalso; omega
      have q373 : ¬ (2147483938 ≤ v361) := q373
      refine x_aload (np := 15) (x := 0) (by decide +kernel) rfl (x_nc_le (by decide)) ?_
      have q1147 : h363 75 3 = 78 := by have z := jB (e := 3) 0 j365 rg_75_3_0_1 (by decide) (by decide); omega
      refine x_getR (np := 18) (x := 707) (f := 3) (q := 78) (by decide +kernel) (by decide) (by decide +kernel) q1147 ?_
      refine x_iload (np := 19) (x := 1) (by decide +kernel) rfl (by first | decide | omega) ?_
      refine x_aload (np := 20) (x := 0) (by decide +kernel) rfl (x_nc_le (by decide)) ?_
      have q1148 : h363 75 1 = 76 := by have z := jB (e := 1) 0 j365 rg_75_1_0_1 (by decide) (by decide); omega
      refine x_getR (np := 23) (x := 705) (f := 1) (q := 76) (by decide +kernel) (by decide) (by decide +kernel) q1148 ?_
      refine x_iload (np := 24) (x := 1) (by decide +kernel) rfl (by first | decide | omega) ?_
      obtain ⟨u1149, q1150⟩ : ∃ z, v361 = 2147483648 + z := ⟨v361 - 2147483648, by first | decide | omega⟩
      refine x_aldC (np := 25) (x := 0) (n := 1952) (i := u1149) (q := (h363 76 u1149)) (by decide +kernel) (by decide +kernel) (by first | decide | omega) (by first | decide | omega) (by decide) rfl (fun l1151 => ?_)
      refine x_ast (np := 26) (x := 0) (kd := 1) (n := 290) (i := u1149) (by decide +kernel) (Or.inl rfl) (by decide +kernel) (by first | decide | omega) (by first | decide | omega) (by decide) l1151 (fun z => absurd z (by decide)) ?_
      have j1153 := cwJ (e := u1149) (v := (h363 76 u1149)) u1149 j365 j365 cw_78_0_76_0_290 (by first | decide | omega) (by first | decide | omega) (by first | rfl | (congr 1; omega))
      have f1155 := cwF (e := u1149) (v := (h363 76 u1149)) u1149 f371 cw_78_0_76_0_290 (by first | decide | omega) (by first | decide | omega) (by decide)
      have f1156 := cwF (e := u1149) (v := (h363 76 u1149)) u1149 f364 cw_78_0_76_0_290 (by first | decide | omega) (by first | decide | omega) (by decide)
      generalize e1154 : x_up h363 78 u1149 (h363 76 u1149) = h1152 at j1153 f1155 f1156 ⊢
      refine x_iinc (np := 29) (i := 1) (j := 2147483649) (v := (1 + v361)) (lo' := [x_r 75, iv_c (1 + v361), 147573952589676412928]) (by decide +kernel) (by decide) (by decide) rfl (by first | decide | omega) (by first | decide | omega) (by first | decide | omega) rfl ?_
      refine x_goto (np := 32) (x := 7) (by decide +kernel) ?_
      have m1157 : Clp ((1 + v361) - 2147483648) h1152 := by
        have e0 : v361 - 2147483648 = u1149 := by first | decide | omega
        have e9 : (1 + v361) = 2147483648 + (u1149 + 1) := by first | decide | omega
        have e1 : (1 + v361) - 2147483648 = u1149 + 1 := by rw [e9]; exact Nat.add_sub_cancel_left _ _
        have p9 := m368
        rw [e0] at p9
        rw [e1, ← e1154]
        exact Clp.step p9 j365 (by first | decide | omega)
      have m1158 : Cpa 78 76 h1 h1152 ((1 + v361) - 2147483648) := by
        have e0 : v361 - 2147483648 = u1149 := by first | decide | omega
        have e9 : (1 + v361) = 2147483648 + (u1149 + 1) := by first | decide | omega
        have e1 : (1 + v361) - 2147483648 = u1149 + 1 := by rw [e9]; exact Nat.add_sub_cancel_left _ _
        have p9 := m367
        rw [e0] at p9
        rw [e1, ← e1154]
        exact Cpa.step p9 (f364 76 u1149 (gr_76b (by first | decide | omega) (by decide) (by decide) (by decide)))
      exact i370 (1 + v361) h1152 (by first | decide | omega) (by first | decide | omega) j1153 f1156 m1157 m1158
  exact p366 _ 2147483648 h1 (Nat.lt_succ_self _) (by first | decide | omega) j2 (Fr.refl _ _) Clp.zero Cpa.zero
set_option maxHeartbeats 0 in
/-- LentNamesModel.sign(I)Z -/
theorem c173_75 {sc : Nat × Nat} {d a1 : Nat} {h : xh} {tB : Nat → Nat} {tN : Nat} (hJ : J h) (ba1 : 2147483648 ≤ a1 ∧ a1 ≤ 2147483775) (hT : Tq tB tN h) : X sc 173 (d + 2) (xI fun r h' => J h' ∧ Fr 5242881 h h' ∧ (2147483648 ≤ r ∧ r ≤ 2147483649) ∧ (h 75 7 + 0 ≤ h' 75 7) ∧ (r = 2147483649 → h 75 7 + 1 ≤ h' 75 7) ∧ Tk (Sg tB tN a1 (sk tB tN (h 75 7))) tB tN (sk tB tN (h 75 7)) 1 r (sk tB tN (h' 75 7)) ∧ h' 75 9 = sk tB tN (h 75 7)) 0 0 0 [x_r 75, iv_c a1] [] h := by
  have la1 : a1 < 4294967296 := by first | decide | omega
  have hF := Fr.refl 5242881 h
  refine x_aload (np := 1) (x := 0) (by decide +kernel) rfl (x_nc_le (by decide)) ?_
  refine x_cV (t := 6) (mj := 168) (n := 1) (rc := 12) (ml := 1) (nr := 0) (np := 4) (as := [x_r 75]) (rest := []) (lo1 := [x_r 75]) (by decide +kernel) (by decide) (by decide +kernel) (x_rb_of (by decide +kernel)) rfl rfl (x_wr (by decide) x_wn) x_wn (by decide) rfl (c168_75 hJ  hT) (fun h4 q3 => ?_)
  obtain ⟨j5, f6, c9, c10, c11, c12⟩ := q3
  have f13 := Fr.trans hF f6 (by decide)
  have b14 := jB (e := 7) 0 hJ rg_75_7_0_1 (by first | decide | omega) (by first | decide | omega)
  have b15 := jB (e := 7) 0 j5 rg_75_7_0_1 (by first | decide | omega) (by first | decide | omega)
  have b16 := jB (e := 9) 0 j5 rg_75_9_0_1 (by first | decide | omega) (by first | decide | omega)
  refine x_aload (np := 5) (x := 0) (by decide +kernel) rfl (x_nc_le (by decide)) ?_
  refine x_iload (np := 6) (x := 1) (by decide +kernel) rfl la1 ?_
  refine x_iload (np := 7) (x := 1) (by decide +kernel) rfl la1 ?_
  refine x_nI (t := 6) (mj := 167) (n := 3) (rc := 12) (ml := 3) (nr := 0) (np := 10) (as := [x_r 75, iv_c a1, iv_c a1]) (rest := []) (lo1 := [x_r 75, iv_c a1, iv_c a1]) (by decide +kernel) (by decide) (by decide +kernel) (x_rb_of (by decide +kernel)) rfl rfl (x_wr (by decide) (x_wi la1 (x_wi la1 x_wn))) x_wn (by decide) rfl ?_
  refine x_aload (np := 1) (x := 0) (by decide +kernel) rfl (x_nc_le (by decide)) ?_
  refine x_getC (np := 4) (x := 711) (f := 7) (q := (h4 75 7)) (by decide +kernel) (by decide) (by decide +kernel) rfl (fun l17 => ?_)
  refine x_aload (np := 5) (x := 0) (by decide +kernel) rfl (x_nc_le (by decide)) ?_
  have q18 : h4 75 8 = h 75 8 := jK 0 f6 rg_75_8_0_1 (by first | decide | omega) (by first | decide | omega) (by decide)
  have b19 := jB (e := 8) 0 hJ rg_75_8_0_1 (by first | decide | omega) (by first | decide | omega)
  refine x_getC (np := 8) (x := 712) (f := 8) (q := (h 75 8)) (by decide +kernel) (by decide) (by decide +kernel) q18 (fun l20 => ?_)
  refine x_icmp (k := 3) (tg := 41) (np := 11) (by decide +kernel) (by decide) l17 l20 (fun q21 => ?_) (fun q22 => ?_)
  · have q21 : (h 75 8) ≤ (h4 75 7) := q21
    refine x_const (np := 42) (x := 9223372039002259456) (a := 2147483648) (by decide +kernel) (by decide) (by decide) ?_
    refine x_retI (np := 43) (x := 0) (by decide +kernel) (by decide) (Or.inr ⟨by decide +kernel, by first | decide | omega, by first | decide | omega⟩) ⟨_, rfl, (by decide), ?_⟩
    refine x_ifz (k := 1) (tg := 15) (np := 13) (by decide +kernel) (by decide) (by decide) (fun q23 => ?_) (fun q24 => ?_)
    · have q23 : 2147483648 ≠ 2147483648 := q23
      exfalso; omega
    have q24 : ¬ (2147483648 ≠ 2147483648) := q24
    refine x_const (np := 14) (x := 9223372039002259456) (a := 2147483648) (by decide +kernel) (by decide) (by decide) ?_
    have q25 : h4 75 8 = h 75 8 := jK 0 f6 rg_75_8_0_1 (by first | decide | omega) (by first | decide | omega) (by decide)
    have m27 := Tq.fr hT f6 (by decide) (by decide)
    have z26 := m27.1
    refine x_retI (np := 15) (x := 0) (by decide +kernel) (by decide) (Or.inr ⟨by decide +kernel, by first | decide | omega, by first | decide | omega⟩) ⟨_, rfl, (by decide), ?_⟩
    exact ⟨j5, f13, (by first | decide | omega), (by first | decide | omega), (fun z => by first | decide | omega), (sg0 c11 (fun z => by have z1 := z.1; have z2 := z.2; omega) (by first | decide | omega) (by first | decide | omega)), c12⟩
  have q22 : ¬ ((h 75 8) ≤ (h4 75 7)) := q22
  refine x_aload (np := 12) (x := 0) (by decide +kernel) rfl (x_nc_le (by decide)) ?_
  have q28 : h4 75 5 = 79 := by have z := jB (e := 5) 0 j5 rg_75_5_0_1 (by decide) (by decide); omega
  refine x_getR (np := 15) (x := 709) (f := 5) (q := 79) (by decide +kernel) (by decide) (by decide +kernel) q28 ?_
  refine x_aload (np := 16) (x := 0) (by decide +kernel) rfl (x_nc_le (by decide)) ?_
  refine x_getC (np := 19) (x := 711) (f := 7) (q := (h4 75 7)) (by decide +kernel) (by decide) (by decide +kernel) rfl (fun l29 => ?_)
  obtain ⟨u30, q31⟩ : ∃ z, (h4 75 7) = 2147483648 + z := ⟨(h4 75 7) - 2147483648, by first | decide | omega⟩
  have q32 : h4 79 u30 = h 79 u30 := jK u30 f6 rg_79_0_1_400 (by first | decide | omega) (by first | decide | omega) (by decide)
  have b33 := jB (e := u30) u30 hJ rg_79_0_1_400 (by first | decide | omega) (by first | decide | omega)
  refine x_baldC (np := 20) (x := 0) (n := 400) (i := u30) (q := (h 79 u30)) (by decide +kernel) (by decide +kernel) (by first | decide | omega) (by first | decide | omega) (by decide) q32 (fun l34 => ?_)
  refine x_iload (np := 21) (x := 1) (by decide +kernel) rfl la1 ?_
  refine x_icmp (k := 2) (tg := 41) (np := 24) (by decide +kernel) (by decide) l34 la1 (fun q35 => ?_) (fun q36 => ?_)
  · have q35 : (h 79 u30) < a1 := q35
    refine x_const (np := 42) (x := 9223372039002259456) (a := 2147483648) (by decide +kernel) (by decide) (by decide) ?_
    refine x_retI (np := 43) (x := 0) (by decide +kernel) (by decide) (Or.inr ⟨by decide +kernel, by first | decide | omega, by first | decide | omega⟩) ⟨_, rfl, (by decide), ?_⟩
    refine x_ifz (k := 1) (tg := 15) (np := 13) (by decide +kernel) (by decide) (by decide) (fun q37 => ?_) (fun q38 => ?_)
    · have q37 : 2147483648 ≠ 2147483648 := q37
      exfalso; omega
    have q38 : ¬ (2147483648 ≠ 2147483648) := q38
    refine x_const (np := 14) (x := 9223372039002259456) (a := 2147483648) (by decide +kernel) (by decide) (by decide) ?_
    have q39 : h4 75 8 = h 75 8 := jK 0 f6 rg_75_8_0_1 (by first | decide | omega) (by first | decide | omega) (by decide)
    have m41 := Tq.fr hT f6 (by decide) (by decide)
    have z40 := m41.1
    have q42 : h4 79 u30 = h 79 u30 := jK u30 f6 rg_79_0_1_400 (by first | decide | omega) (by first | decide | omega) (by decide)
    have z43 := Tq.at (p := (h4 75 7)) (u := u30) m41 (by first | decide | omega) (by first | decide | omega)
    refine x_retI (np := 15) (x := 0) (by decide +kernel) (by decide) (Or.inr ⟨by decide +kernel, by first | decide | omega, by first | decide | omega⟩) ⟨_, rfl, (by decide), ?_⟩
    exact ⟨j5, f13, (by first | decide | omega), (by first | decide | omega), (fun z => by first | decide | omega), (sg0 c11 (fun z => by have z1 := z.1; have z2 := z.2; omega) (by first | decide | omega) (by first | decide | omega)), c12⟩
  have q36 : ¬ ((h 79 u30) < a1) := q36
  refine x_aload (np := 25) (x := 0) (by decide +kernel) rfl (x_nc_le (by decide)) ?_
  have q44 : h4 75 5 = 79 := by have z := jB (e := 5) 0 j5 rg_75_5_0_1 (by decide) (by decide); omega
  refine x_getR (np := 28) (x := 709) (f := 5) (q := 79) (by decide +kernel) (by decide) (by decide +kernel) q44 ?_
  refine x_aload (np := 29) (x := 0) (by decide +kernel) rfl (x_nc_le (by decide)) ?_
  refine x_getC (np := 32) (x := 711) (f := 7) (q := (h4 75 7)) (by decide +kernel) (by decide) (by decide +kernel) rfl (fun l45 => ?_)
  have q46 : h4 79 u30 = h 79 u30 := jK u30 f6 rg_79_0_1_400 (by first | decide | omega) (by first | decide | omega) (by decide)
  refine x_baldC (np := 33) (x := 0) (n := 400) (i := u30) (q := (h 79 u30)) (by decide +kernel) (by decide +kernel) (by first | decide | omega) (by first | decide | omega) (by decide) q46 (fun l47 => ?_)
  refine x_iload (np := 34) (x := 2) (by decide +kernel) rfl la1 ?_
  refine x_icmp (k := 4) (tg := 41) (np := 37) (by decide +kernel) (by decide) l34 la1 (fun q48 => ?_) (fun q49 => ?_)
  · have q48 : a1 < (h 79 u30) := q48
    refine x_const (np := 42) (x := 9223372039002259456) (a := 2147483648) (by decide +kernel) (by decide) (by decide) ?_
    refine x_retI (np := 43) (x := 0) (by decide +kernel) (by decide) (Or.inr ⟨by decide +kernel, by first | decide | omega, by first | decide | omega⟩) ⟨_, rfl, (by decide), ?_⟩
    refine x_ifz (k := 1) (tg := 15) (np := 13) (by decide +kernel) (by decide) (by decide) (fun q50 => ?_) (fun q51 => ?_)
    · have q50 : 2147483648 ≠ 2147483648 := q50
      exfalso; omega
    have q51 : ¬ (2147483648 ≠ 2147483648) := q51
    refine x_const (np := 14) (x := 9223372039002259456) (a := 2147483648) (by decide +kernel) (by decide) (by decide) ?_
    have q52 : h4 75 8 = h 75 8 := jK 0 f6 rg_75_8_0_1 (by first | decide | omega) (by first | decide | omega) (by decide)
    have m54 := Tq.fr hT f6 (by decide) (by decide)
    have z53 := m54.1
    have q55 : h4 79 u30 = h 79 u30 := jK u30 f6 rg_79_0_1_400 (by first | decide | omega) (by first | decide | omega) (by decide)
    have z56 := Tq.at (p := (h4 75 7)) (u := u30) m54 (by first | decide | omega) (by first | decide | omega)
    refine x_retI (np := 15) (x := 0) (by decide +kernel) (by decide) (Or.inr ⟨by decide +kernel, by first | decide | omega, by first | decide | omega⟩) ⟨_, rfl, (by decide), ?_⟩
    exact ⟨j5, f13, (by first | decide | omega), (by first | decide | omega), (fun z => by first | decide | omega), (sg0 c11 (fun z => by have z1 := z.1; have z2 := z.2; omega) (by first | decide | omega) (by first | decide | omega)), c12⟩
  have q49 : ¬ (a1 < (h 79 u30)) := q49
  refine x_const (np := 38) (x := 9223372043297226753) (a := 2147483649) (by decide +kernel) (by decide) (by decide) ?_
  refine x_goto (np := 41) (x := 42) (by decide +kernel) ?_
  refine x_retI (np := 43) (x := 0) (by decide +kernel) (by decide) (Or.inr ⟨by decide +kernel, by first | decide | omega, by first | decide | omega⟩) ⟨_, rfl, (by decide), ?_⟩
  refine x_ifz (k := 1) (tg := 15) (np := 13) (by decide +kernel) (by decide) (by decide) (fun q57 => ?_) (fun q58 => ?_)
  · have q57 : 2147483649 ≠ 2147483648 := q57
    refine x_aload (np := 16) (x := 0) (by decide +kernel) rfl (x_nc_le (by decide)) ?_
    refine x_dup (np := 17) (x := 0) (by decide +kernel) (by have z := x_nc_le (k := 75) (by decide); unfold x_r; omega) ?_
    refine x_getC (np := 20) (x := 711) (f := 7) (q := (h4 75 7)) (by decide +kernel) (by decide) (by decide +kernel) rfl (fun l59 => ?_)
    refine x_const (np := 21) (x := 9223372043297226753) (a := 2147483649) (by decide +kernel) (by decide) (by decide) ?_
    refine x_iadd (np := 22) (x := 0) (v := (1 + (h4 75 7))) (by decide +kernel) l17 (by decide) (by first | decide | omega) (by first | decide | omega) ?_
    refine x_putI (np := 25) (x := 711) (f := 7) (by decide +kernel) (by decide +kernel) (by first | decide | omega) (Or.inl (by decide)) ?_
    have j61 := jU (e := 7) (v := (1 + (h4 75 7))) 0 j5 rg_75_7_0_1 (by first | decide | omega) (by first | decide | omega) (by first | decide | omega)
    have f63 := jF (e := 7) (v := (1 + (h4 75 7))) 0 f13 rg_75_7_0_1 (by first | decide | omega) (by first | decide | omega) (by decide)
    generalize e62 : x_up h4 75 7 (1 + (h4 75 7)) = h60 at j61 f63 ⊢
    refine x_const (np := 26) (x := 9223372043297226753) (a := 2147483649) (by decide +kernel) (by decide) (by decide) ?_
    have q64 : h60 75 7 = (1 + (h4 75 7)) := by rw [← e62]; exact x_up_at
    have q65 : h60 75 7 = (1 + (h4 75 7)) := by rw [← e62]; exact x_up_at
    have q66 : h60 75 7 = (1 + (h4 75 7)) := by rw [← e62]; exact x_up_at
    have q67 : h4 75 8 = h 75 8 := jK 0 f6 rg_75_8_0_1 (by first | decide | omega) (by first | decide | omega) (by decide)
    have m69 := Tq.fr hT f6 (by decide) (by decide)
    have z68 := m69.1
    have q70 : h4 79 u30 = h 79 u30 := jK u30 f6 rg_79_0_1_400 (by first | decide | omega) (by first | decide | omega) (by decide)
    have z71 := Tq.at (p := (h4 75 7)) (u := u30) m69 (by first | decide | omega) (by first | decide | omega)
    have q72 : h60 75 9 = h4 75 9 := by rw [← e62]; exact x_up_i (by first | decide | omega)
    refine x_retI (np := 27) (x := 0) (by decide +kernel) (by decide) (Or.inr ⟨by decide +kernel, by first | decide | omega, by first | decide | omega⟩) ⟨_, rfl, (by decide), ?_⟩
    exact ⟨j61, f63, (by first | decide | omega), (by first | decide | omega), (fun z => by first | decide | omega), (sg1 c11 ⟨by first | decide | omega, by first | decide | omega⟩ (by first | decide | omega) (by first | decide | omega)), (Eq.trans (show h60 75 9 = h4 75 9 by first | decide | omega) c12)⟩
  have q58 : ¬ (2147483649 ≠ 2147483648) := q58
  exfalso; omega
set_option maxHeartbeats 0 in
/-- LentNamesModel.readPart()Z -/
theorem c188_75 {sc : Nat × Nat} {d  : Nat} {h : xh} {tB : Nat → Nat} {tN : Nat} (hJ : J h) (hr0 : (h 75 13) + 5 ≤ (h 75 7)) (hT : Tq tB tN h) : X sc 188 (d + 5) (xI fun r h' => J h' ∧ Fr 89128961 h h' ∧ (2147483648 ≤ r ∧ r ≤ 2147483649) ∧ (r = 2147483649 → h' 75 13 + h 75 7 ≤ h' 75 7 + h 75 13) ∧ (r = 2147483649 → h 75 7 + 0 ≤ h' 75 7) ∧ (r = 2147483649 → h 75 13 ≤ h' 75 13) ∧ Kp h h' (h 75 13 - 2147483648) ∧ (r = 2147483649 → Seg (sg h') (h 75 13 - 2147483648) (h' 75 13 - 2147483648)) ∧ (∀ l, G tB tN Kd.part l (sk tB tN (h 75 7)) (rs r (sk tB tN (h' 75 7)))) ∧ (r = 2147483648 → ∀ l, GF tB tN Kd.part l (sk tB tN (h 75 7)) (h' 75 9))) 0 0 0 [x_r 75, 147573952589676412928] [] h := by
  have hF := Fr.refl 89128961 h
  have b1 := jB (e := 13) 0 hJ rg_75_13_0_1 (by first | decide | omega) (by first | decide | omega)
  have b2 := jB (e := 7) 0 hJ rg_75_7_0_1 (by first | decide | omega) (by first | decide | omega)
  refine x_aload (np := 1) (x := 0) (by decide +kernel) rfl (x_nc_le (by decide)) ?_
  refine x_cV (t := 6) (mj := 169) (n := 1) (rc := 12) (ml := 1) (nr := 0) (np := 4) (as := [x_r 75]) (rest := []) (lo1 := [x_r 75]) (by decide +kernel) (by decide) (by decide +kernel) (x_rb_of (by decide +kernel)) rfl rfl (x_wr (by decide) x_wn) x_wn (by decide) rfl (c169_75 hJ  hT) (fun h6 q5 => ?_)
  obtain ⟨j7, f8, c11, c12, c13, c14⟩ := q5
  have f15 := Fr.trans hF f8 (by decide)
  have b16 := jB (e := 9) 0 j7 rg_75_9_0_1 (by first | decide | omega) (by first | decide | omega)
  have b17 := jB (e := 7) 0 j7 rg_75_7_0_1 (by first | decide | omega) (by first | decide | omega)
  refine x_aload (np := 5) (x := 0) (by decide +kernel) rfl (x_nc_le (by decide)) ?_
  refine x_getC (np := 8) (x := 711) (f := 7) (q := (h6 75 7)) (by decide +kernel) (by decide) (by decide +kernel) rfl (fun l18 => ?_)
  refine x_aload (np := 9) (x := 0) (by decide +kernel) rfl (x_nc_le (by decide)) ?_
  refine x_getC (np := 12) (x := 713) (f := 9) (q := (h6 75 9)) (by decide +kernel) (by decide) (by decide +kernel) rfl (fun l19 => ?_)
  refine x_icmp (k := 1) (tg := 34) (np := 15) (by decide +kernel) (by decide) l18 l19 (fun q20 => ?_) (fun q21 => ?_)
  · have q20 : (h6 75 7) ≠ (h6 75 9) := q20
    refine x_aload (np := 35) (x := 0) (by decide +kernel) rfl (x_nc_le (by decide)) ?_
    refine x_ldcB (i := 2) (idx := 147) (tx := "day") (by rw [tb_y188]; exact List.mem_of_getElem? (i := 37) rfl) (by decide) (by rw [tb_b188]; decide +kernel) ?_
    have m25 := Tq.fr hT f8 (by decide) (by decide)
    refine x_cP (t := 6) (mj := 170) (n := 2) (rc := 12) (ml := 4) (nr := 0) (np := 40) (as := [x_r 75, x_b (2 + 1)]) (rest := []) (lo1 := [x_r 75, x_b (2 + 1), 147573952589676412928, 147573952589676412928]) (by decide +kernel) (by decide) (by decide +kernel) (x_rb_of (by decide +kernel)) rfl rfl (x_wr (by decide) (x_wB (by decide) x_wn)) x_wn (by decide) rfl (c170_75_S0 j7  (by decide) m25) (fun v22 l23 q24 => ?_)
    obtain ⟨b28, c26, c27⟩ := q24
    have b29 : iv_tl 2 = 3 := by decide
    refine x_ifz (k := 0) (tg := 47) (np := 43) (by decide +kernel) (by decide) l23 (fun q30 => ?_) (fun q31 => ?_)
    · have q30 : v22 = 2147483648 := q30
      refine x_aload (np := 48) (x := 0) (by decide +kernel) rfl (x_nc_le (by decide)) ?_
      refine x_ldcB (i := 27) (idx := 226) (tx := "days") (by rw [tb_y188]; exact List.mem_of_getElem? (i := 62) rfl) (by decide) (by rw [tb_b188]; decide +kernel) ?_
      refine x_cP (t := 6) (mj := 170) (n := 2) (rc := 12) (ml := 4) (nr := 0) (np := 53) (as := [x_r 75, x_b (27 + 1)]) (rest := []) (lo1 := [x_r 75, x_b (27 + 1), 147573952589676412928, 147573952589676412928]) (by decide +kernel) (by decide) (by decide +kernel) (x_rb_of (by decide +kernel)) rfl rfl (x_wr (by decide) (x_wB (by decide) x_wn)) x_wn (by decide) rfl (c170_75_S0 j7  (by decide) m25) (fun v32 l33 q34 => ?_)
      obtain ⟨b37, c35, c36⟩ := q34
      have b38 : iv_tl 27 = 4 := by decide
      refine x_ifz (k := 0) (tg := 60) (np := 56) (by decide +kernel) (by decide) l33 (fun q39 => ?_) (fun q40 => ?_)
      · have q39 : v32 = 2147483648 := q39
        refine x_aload (np := 61) (x := 0) (by decide +kernel) rfl (x_nc_le (by decide)) ?_
        refine x_ldcB (i := 5) (idx := 158) (tx := "pledge") (by rw [tb_y188]; exact List.mem_of_getElem? (i := 40) rfl) (by decide) (by rw [tb_b188]; decide +kernel) ?_
        refine x_cP (t := 6) (mj := 170) (n := 2) (rc := 12) (ml := 4) (nr := 0) (np := 66) (as := [x_r 75, x_b (5 + 1)]) (rest := []) (lo1 := [x_r 75, x_b (5 + 1), 147573952589676412928, 147573952589676412928]) (by decide +kernel) (by decide) (by decide +kernel) (x_rb_of (by decide +kernel)) rfl rfl (x_wr (by decide) (x_wB (by decide) x_wn)) x_wn (by decide) rfl (c170_75_S0 j7  (by decide) m25) (fun v41 l42 q43 => ?_)
        obtain ⟨b46, c44, c45⟩ := q43
        have b47 : iv_tl 5 = 6 := by decide
        refine x_ifz (k := 0) (tg := 73) (np := 69) (by decide +kernel) (by decide) l42 (fun q48 => ?_) (fun q49 => ?_)
        · have q48 : v41 = 2147483648 := q48
          refine x_aload (np := 74) (x := 0) (by decide +kernel) rfl (x_nc_le (by decide)) ?_
          refine x_ldcB (i := 28) (idx := 228) (tx := "deep") (by rw [tb_y188]; exact List.mem_of_getElem? (i := 63) rfl) (by decide) (by rw [tb_b188]; decide +kernel) ?_
          refine x_cP (t := 6) (mj := 170) (n := 2) (rc := 12) (ml := 4) (nr := 0) (np := 79) (as := [x_r 75, x_b (28 + 1)]) (rest := []) (lo1 := [x_r 75, x_b (28 + 1), 147573952589676412928, 147573952589676412928]) (by decide +kernel) (by decide) (by decide +kernel) (x_rb_of (by decide +kernel)) rfl rfl (x_wr (by decide) (x_wB (by decide) x_wn)) x_wn (by decide) rfl (c170_75_S0 j7  (by decide) m25) (fun v50 l51 q52 => ?_)
          obtain ⟨b55, c53, c54⟩ := q52
          have b56 : iv_tl 28 = 4 := by decide
          refine x_ifz (k := 0) (tg := 86) (np := 82) (by decide +kernel) (by decide) l51 (fun q57 => ?_) (fun q58 => ?_)
          · have q57 : v50 = 2147483648 := q57
            refine x_aload (np := 87) (x := 0) (by decide +kernel) rfl (x_nc_le (by decide)) ?_
            refine x_ldcB (i := 29) (idx := 230) (tx := "gives") (by rw [tb_y188]; exact List.mem_of_getElem? (i := 64) rfl) (by decide) (by rw [tb_b188]; decide +kernel) ?_
            refine x_cP (t := 6) (mj := 170) (n := 2) (rc := 12) (ml := 4) (nr := 0) (np := 92) (as := [x_r 75, x_b (29 + 1)]) (rest := []) (lo1 := [x_r 75, x_b (29 + 1), 147573952589676412928, 147573952589676412928]) (by decide +kernel) (by decide) (by decide +kernel) (x_rb_of (by decide +kernel)) rfl rfl (x_wr (by decide) (x_wB (by decide) x_wn)) x_wn (by decide) rfl (c170_75_S0 j7  (by decide) m25) (fun v59 l60 q61 => ?_)
            obtain ⟨b64, c62, c63⟩ := q61
            have b65 : iv_tl 29 = 5 := by decide
            refine x_ifz (k := 0) (tg := 99) (np := 95) (by decide +kernel) (by decide) l60 (fun q66 => ?_) (fun q67 => ?_)
            · have q66 : v59 = 2147483648 := q66
              refine x_aload (np := 100) (x := 0) (by decide +kernel) rfl (x_nc_le (by decide)) ?_
              refine x_ldcB (i := 30) (idx := 232) (tx := "takes") (by rw [tb_y188]; exact List.mem_of_getElem? (i := 65) rfl) (by decide) (by rw [tb_b188]; decide +kernel) ?_
              refine x_cP (t := 6) (mj := 170) (n := 2) (rc := 12) (ml := 4) (nr := 0) (np := 105) (as := [x_r 75, x_b (30 + 1)]) (rest := []) (lo1 := [x_r 75, x_b (30 + 1), 147573952589676412928, 147573952589676412928]) (by decide +kernel) (by decide) (by decide +kernel) (x_rb_of (by decide +kernel)) rfl rfl (x_wr (by decide) (x_wB (by decide) x_wn)) x_wn (by decide) rfl (c170_75_S0 j7  (by decide) m25) (fun v68 l69 q70 => ?_)
              obtain ⟨b73, c71, c72⟩ := q70
              have b74 : iv_tl 30 = 5 := by decide
              refine x_ifz (k := 0) (tg := 112) (np := 108) (by decide +kernel) (by decide) l69 (fun q75 => ?_) (fun q76 => ?_)
              · have q75 : v68 = 2147483648 := q75
                refine x_const (np := 113) (x := 9223372034707292159) (a := 2147483647) (by decide +kernel) (by decide) (by decide) ?_
                refine x_istore (np := 114) (x := 1) (lo' := [x_r 75, iv_c 2147483647]) (by decide +kernel) (by decide) (Nat.le_of_ble_eq_true rfl) rfl ?_
                refine x_aload (np := 115) (x := 0) (by decide +kernel) rfl (x_nc_le (by decide)) ?_
                refine x_iload (np := 116) (x := 1) (by decide +kernel) rfl (by decide) ?_
                refine x_const (np := 117) (x := 9223372039002259456) (a := 2147483648) (by decide +kernel) (by decide) (by decide) ?_
                refine x_nV (t := 6) (mj := 187) (n := 3) (rc := 12) (ml := 3) (nr := 0) (np := 120) (as := [x_r 75, iv_c 2147483647, iv_c 2147483648]) (rest := []) (lo1 := [x_r 75, iv_c 2147483647, iv_c 2147483648]) (by decide +kernel) (by decide) (by decide +kernel) (x_rb_of (by decide +kernel)) rfl rfl (x_wr (by decide) (x_wi (by decide) (x_wi (by decide) x_wn))) x_wn (by decide) rfl ?_
                refine x_aload (np := 1) (x := 0) (by decide +kernel) rfl (x_nc_le (by decide)) ?_
                have q77 : h6 75 1 = 76 := by have z := jB (e := 1) 0 j7 rg_75_1_0_1 (by decide) (by decide); omega
                refine x_getR (np := 4) (x := 705) (f := 1) (q := 76) (by decide +kernel) (by decide) (by decide +kernel) q77 ?_
                refine x_const (np := 7) (x := 9223376986804585600) (a := 2147484800) (by decide +kernel) (by decide) (by decide) ?_
                refine x_const (np := 8) (x := 9223372047592194050) (a := 2147483650) (by decide +kernel) (by decide) (by decide) ?_
                refine x_aload (np := 9) (x := 0) (by decide +kernel) rfl (x_nc_le (by decide)) ?_
                have q78 : h6 75 13 = h 75 13 := jK 0 f8 rg_75_13_0_1 (by first | decide | omega) (by first | decide | omega) (by decide)
                refine x_getC (np := 12) (x := 717) (f := 13) (q := (h 75 13)) (by decide +kernel) (by decide) (by decide +kernel) q78 (fun l79 => ?_)
                obtain ⟨u80, q81⟩ : ∃ z, (h 75 13) = 2147483648 + z := ⟨(h 75 13) - 2147483648, by first | decide | omega⟩
                refine x_imul (np := 13) (x := 0) (i := 2) (j := u80) (v := (2147483648 + 2 * u80)) (by decide +kernel) (by first | decide | omega) (by first | decide | omega) (by first | decide | omega) (by first | decide | omega) (by decide) l79 ?_
                refine x_iadd (np := 14) (x := 0) (v := (2147484800 + 2 * u80)) (by decide +kernel) (by decide) (by first | decide | omega) (by first | decide | omega) (by first | decide | omega) ?_
                refine x_iload (np := 15) (x := 1) (by decide +kernel) rfl (by decide) ?_
                refine x_ast (np := 16) (x := 0) (kd := 1) (n := 1952) (i := (1152 + 2 * u80)) (by decide +kernel) (Or.inl rfl) (by decide +kernel) (by first | decide | omega) (by first | decide | omega) (by decide) (by decide) (fun z => absurd z (by decide)) ?_
                have j84 := jU (e := (1152 + 2 * u80)) (v := 2147483647) u80 j7 rg_76_1152_2_395 (by first | decide | omega) (by first | decide | omega) (by first | decide | omega)
                have f86 := jF (e := (1152 + 2 * u80)) (v := 2147483647) u80 f15 rg_76_1152_2_395 (by first | decide | omega) (by first | decide | omega) (by decide)
                generalize e85 : x_up h6 76 (1152 + 2 * u80) 2147483647 = h83 at j84 f86 ⊢
                refine x_aload (np := 17) (x := 0) (by decide +kernel) rfl (x_nc_le (by decide)) ?_
                have q87 : h83 75 1 = 76 := by have z := jB (e := 1) 0 j84 rg_75_1_0_1 (by decide) (by decide); omega
                refine x_getR (np := 20) (x := 705) (f := 1) (q := 76) (by decide +kernel) (by decide) (by decide +kernel) q87 ?_
                refine x_const (np := 23) (x := 9223376986804585600) (a := 2147484800) (by decide +kernel) (by decide) (by decide) ?_
                refine x_const (np := 24) (x := 9223372047592194050) (a := 2147483650) (by decide +kernel) (by decide) (by decide) ?_
                refine x_aload (np := 25) (x := 0) (by decide +kernel) rfl (x_nc_le (by decide)) ?_
                have q88 : h83 75 13 = h6 75 13 := by rw [← e85]; exact x_up_k (by decide)
                have q89 : h6 75 13 = h 75 13 := jK 0 f8 rg_75_13_0_1 (by first | decide | omega) (by first | decide | omega) (by decide)
                refine x_getC (np := 28) (x := 717) (f := 13) (q := (h 75 13)) (by decide +kernel) (by decide) (by decide +kernel) (q88.trans q89) (fun l90 => ?_)
                refine x_imul (np := 29) (x := 0) (i := 2) (j := u80) (v := (2147483648 + 2 * u80)) (by decide +kernel) (by first | decide | omega) (by first | decide | omega) (by first | decide | omega) (by first | decide | omega) (by decide) l79 ?_
                refine x_iadd (np := 30) (x := 0) (v := (2147484800 + 2 * u80)) (by decide +kernel) (by decide) (by first | decide | omega) (by first | decide | omega) (by first | decide | omega) ?_
                refine x_const (np := 31) (x := 9223372043297226753) (a := 2147483649) (by decide +kernel) (by decide) (by decide) ?_
                refine x_iadd (np := 32) (x := 0) (v := (2147484801 + 2 * u80)) (by decide +kernel) (by first | decide | omega) (by decide) (by first | decide | omega) (by first | decide | omega) ?_
                refine x_iload (np := 33) (x := 2) (by decide +kernel) rfl (by decide) ?_
                refine x_ast (np := 34) (x := 0) (kd := 1) (n := 1952) (i := (1153 + 2 * u80)) (by decide +kernel) (Or.inl rfl) (by decide +kernel) (by first | decide | omega) (by first | decide | omega) (by decide) (by decide) (fun z => absurd z (by decide)) ?_
                have j93 := jU (e := (1153 + 2 * u80)) (v := 2147483648) u80 j84 rg_76_1153_2_395 (by first | decide | omega) (by first | decide | omega) (by first | decide | omega)
                have f95 := jF (e := (1153 + 2 * u80)) (v := 2147483648) u80 f86 rg_76_1153_2_395 (by first | decide | omega) (by first | decide | omega) (by decide)
                generalize e94 : x_up h83 76 (1153 + 2 * u80) 2147483648 = h92 at j93 f95 ⊢
                refine x_aload (np := 35) (x := 0) (by decide +kernel) rfl (x_nc_le (by decide)) ?_
                refine x_dup (np := 36) (x := 0) (by decide +kernel) (by have z := x_nc_le (k := 75) (by decide); unfold x_r; omega) ?_
                have q96 : h92 75 13 = h83 75 13 := by rw [← e94]; exact x_up_k (by decide)
                have q97 : h83 75 13 = h6 75 13 := by rw [← e85]; exact x_up_k (by decide)
                have q98 : h6 75 13 = h 75 13 := jK 0 f8 rg_75_13_0_1 (by first | decide | omega) (by first | decide | omega) (by decide)
                refine x_getC (np := 39) (x := 717) (f := 13) (q := (h 75 13)) (by decide +kernel) (by decide) (by decide +kernel) ((q96.trans q97).trans q98) (fun l99 => ?_)
                refine x_const (np := 40) (x := 9223372043297226753) (a := 2147483649) (by decide +kernel) (by decide) (by decide) ?_
                refine x_iadd (np := 41) (x := 0) (v := (1 + (h 75 13))) (by decide +kernel) l79 (by decide) (by first | decide | omega) (by first | decide | omega) ?_
                refine x_putI (np := 44) (x := 717) (f := 13) (by decide +kernel) (by decide +kernel) (by first | decide | omega) (Or.inl (by decide)) ?_
                have j101 := jU (e := 13) (v := (1 + (h 75 13))) 0 j93 rg_75_13_0_1 (by first | decide | omega) (by first | decide | omega) (by first | decide | omega)
                have f103 := jF (e := 13) (v := (1 + (h 75 13))) 0 f95 rg_75_13_0_1 (by first | decide | omega) (by first | decide | omega) (by decide)
                generalize e102 : x_up h92 75 13 (1 + (h 75 13)) = h100 at j101 f103 ⊢
                refine x_retV (np := 45) (x := 0) (by decide +kernel) (by decide +kernel) ⟨rfl, ?_⟩
                have q104 : h100 75 13 = (1 + (h 75 13)) := by rw [← e102]; exact x_up_at
                refine x_iload (np := 121) (x := 1) (by decide +kernel) rfl (by decide) ?_
                refine x_ifz (k := 2) (tg := 128) (np := 124) (by decide +kernel) (by decide) (by decide) (fun q105 => ?_) (fun q106 => ?_)
                · have q105 : 2147483647 < 2147483648 := q105
                  refine x_const (np := 129) (x := 9223372039002259456) (a := 2147483648) (by decide +kernel) (by decide) (by decide) ?_
                  have q107 : h100 75 13 = (1 + (h 75 13)) := by rw [← e102]; exact x_up_at
                  have q108 : h100 75 7 = h92 75 7 := by rw [← e102]; exact x_up_i (by first | decide | omega)
                  have q109 : h92 75 7 = h83 75 7 := by rw [← e94]; exact x_up_k (by decide)
                  have q110 : h83 75 7 = h6 75 7 := by rw [← e85]; exact x_up_k (by decide)
                  have q111 : h100 75 7 = h92 75 7 := by rw [← e102]; exact x_up_i (by first | decide | omega)
                  have q112 : h92 75 7 = h83 75 7 := by rw [← e94]; exact x_up_k (by decide)
                  have q113 : h83 75 7 = h6 75 7 := by rw [← e85]; exact x_up_k (by decide)
                  have q114 : h100 75 13 = (1 + (h 75 13)) := by rw [← e102]; exact x_up_at
                  have k118 : Kp h h6 (h 75 13 - 2147483648) := Kp.fr Kp.refl f8 (by first | decide | omega) (by decide)
                  have k117 : Kp h h83 (h 75 13 - 2147483648) := by rw [← e85]; exact Kp.up k118 (by first | decide | omega) (fun i hi => by first | decide | omega)
                  have k116 : Kp h h92 (h 75 13 - 2147483648) := by rw [← e94]; exact Kp.up k117 (by first | decide | omega) (fun i hi => by first | decide | omega)
                  have k115 : Kp h h100 (h 75 13 - 2147483648) := by rw [← e102]; exact Kp.oth k116 (by decide)
                  have w119 : ¬ Wd tB tN 2 (sk tB tN (h 75 7)) := by rw [← c13]; exact Wd.no (by decide) (Is.no c27 (by first | decide | omega)) c14
                  have w120 : ¬ Wd tB tN 27 (sk tB tN (h 75 7)) := by rw [← c13]; exact Wd.no (by decide) (Is.no c36 (by first | decide | omega)) c14
                  have w121 : ¬ Wd tB tN 5 (sk tB tN (h 75 7)) := by rw [← c13]; exact Wd.no (by decide) (Is.no c45 (by first | decide | omega)) c14
                  have w122 : ¬ Wd tB tN 28 (sk tB tN (h 75 7)) := by rw [← c13]; exact Wd.no (by decide) (Is.no c54 (by first | decide | omega)) c14
                  have w123 : ¬ Wd tB tN 29 (sk tB tN (h 75 7)) := by rw [← c13]; exact Wd.no (by decide) (Is.no c63 (by first | decide | omega)) c14
                  have w124 : ¬ Wd tB tN 30 (sk tB tN (h 75 7)) := by rw [← c13]; exact Wd.no (by decide) (Is.no c72 (by first | decide | omega)) c14
                  have n125 : Ltr tB tN (sk tB tN (h 75 7)) := by rw [← c13]; exact ltr_of (by rw [← c14]; omega)
                  have w126 : ¬ Wd tB tN 2 (sk tB tN (h 75 7)) := by rw [← c13]; exact Wd.no (by decide) (Is.no c27 (by first | decide | omega)) c14
                  have w127 : ¬ Wd tB tN 27 (sk tB tN (h 75 7)) := by rw [← c13]; exact Wd.no (by decide) (Is.no c36 (by first | decide | omega)) c14
                  have w128 : ¬ Wd tB tN 5 (sk tB tN (h 75 7)) := by rw [← c13]; exact Wd.no (by decide) (Is.no c45 (by first | decide | omega)) c14
                  have w129 : ¬ Wd tB tN 28 (sk tB tN (h 75 7)) := by rw [← c13]; exact Wd.no (by decide) (Is.no c54 (by first | decide | omega)) c14
                  have w130 : ¬ Wd tB tN 29 (sk tB tN (h 75 7)) := by rw [← c13]; exact Wd.no (by decide) (Is.no c63 (by first | decide | omega)) c14
                  have w131 : ¬ Wd tB tN 30 (sk tB tN (h 75 7)) := by rw [← c13]; exact Wd.no (by decide) (Is.no c72 (by first | decide | omega)) c14
                  have n132 : Ltr tB tN (sk tB tN (h 75 7)) := by rw [← c13]; exact ltr_of (by rw [← c14]; omega)
                  have q133 : h100 75 9 = h92 75 9 := by rw [← e102]; exact x_up_i (by first | decide | omega)
                  have q134 : h92 75 9 = h83 75 9 := by rw [← e94]; exact x_up_k (by decide)
                  have q135 : h83 75 9 = h6 75 9 := by rw [← e85]; exact x_up_k (by decide)
                  refine x_retI (np := 130) (x := 0) (by decide +kernel) (by decide) (Or.inr ⟨by decide +kernel, by first | decide | omega, by first | decide | omega⟩) ⟨_, rfl, (by decide), ?_⟩
                  exact ⟨j101, f103, (by first | decide | omega), (fun z => by first | decide | omega), (fun z => by first | decide | omega), (fun z => by first | decide | omega), k115, (fun z => absurd z (by first | decide | omega)), (fun l => gP_no (ltr_nb n125) w119 w120 w121 w122 w123 w124 (by first | decide | omega)), (fun _ l => fP_no (ltr_nb n132) w126 w127 w128 w129 w130 w131 (Eq.trans (show h100 75 9 = h6 75 9 by first | decide | omega) c13))⟩
                have q106 : ¬ (2147483647 < 2147483648) := q106
                exfalso; omega
              have q76 : ¬ (v68 = 2147483648) := q76
              have b136 := c71 (by first | decide | omega)
              refine x_const (np := 109) (x := 9223372060477095941) (a := 2147483653) (by decide +kernel) (by decide) (by decide) ?_
              refine x_goto (np := 112) (x := 113) (by decide +kernel) ?_
              refine x_istore (np := 114) (x := 1) (lo' := [x_r 75, iv_c 2147483653]) (by decide +kernel) (by decide) (Nat.le_of_ble_eq_true rfl) rfl ?_
              refine x_aload (np := 115) (x := 0) (by decide +kernel) rfl (x_nc_le (by decide)) ?_
              refine x_iload (np := 116) (x := 1) (by decide +kernel) rfl (by decide) ?_
              refine x_const (np := 117) (x := 9223372039002259456) (a := 2147483648) (by decide +kernel) (by decide) (by decide) ?_
              refine x_nV (t := 6) (mj := 187) (n := 3) (rc := 12) (ml := 3) (nr := 0) (np := 120) (as := [x_r 75, iv_c 2147483653, iv_c 2147483648]) (rest := []) (lo1 := [x_r 75, iv_c 2147483653, iv_c 2147483648]) (by decide +kernel) (by decide) (by decide +kernel) (x_rb_of (by decide +kernel)) rfl rfl (x_wr (by decide) (x_wi (by decide) (x_wi (by decide) x_wn))) x_wn (by decide) rfl ?_
              refine x_aload (np := 1) (x := 0) (by decide +kernel) rfl (x_nc_le (by decide)) ?_
              have q137 : h6 75 1 = 76 := by have z := jB (e := 1) 0 j7 rg_75_1_0_1 (by decide) (by decide); omega
              refine x_getR (np := 4) (x := 705) (f := 1) (q := 76) (by decide +kernel) (by decide) (by decide +kernel) q137 ?_
              refine x_const (np := 7) (x := 9223376986804585600) (a := 2147484800) (by decide +kernel) (by decide) (by decide) ?_
              refine x_const (np := 8) (x := 9223372047592194050) (a := 2147483650) (by decide +kernel) (by decide) (by decide) ?_
              refine x_aload (np := 9) (x := 0) (by decide +kernel) rfl (x_nc_le (by decide)) ?_
              have q138 : h6 75 13 = h 75 13 := jK 0 f8 rg_75_13_0_1 (by first | decide | omega) (by first | decide | omega) (by decide)
              refine x_getC (np := 12) (x := 717) (f := 13) (q := (h 75 13)) (by decide +kernel) (by decide) (by decide +kernel) q138 (fun l139 => ?_)
              obtain ⟨u140, q141⟩ : ∃ z, (h 75 13) = 2147483648 + z := ⟨(h 75 13) - 2147483648, by first | decide | omega⟩
              refine x_imul (np := 13) (x := 0) (i := 2) (j := u140) (v := (2147483648 + 2 * u140)) (by decide +kernel) (by first | decide | omega) (by first | decide | omega) (by first | decide | omega) (by first | decide | omega) (by decide) l139 ?_
              refine x_iadd (np := 14) (x := 0) (v := (2147484800 + 2 * u140)) (by decide +kernel) (by decide) (by first | decide | omega) (by first | decide | omega) (by first | decide | omega) ?_
              refine x_iload (np := 15) (x := 1) (by decide +kernel) rfl (by decide) ?_
              refine x_ast (np := 16) (x := 0) (kd := 1) (n := 1952) (i := (1152 + 2 * u140)) (by decide +kernel) (Or.inl rfl) (by decide +kernel) (by first | decide | omega) (by first | decide | omega) (by decide) (by decide) (fun z => absurd z (by decide)) ?_
              have j144 := jU (e := (1152 + 2 * u140)) (v := 2147483653) u140 j7 rg_76_1152_2_391 (by first | decide | omega) (by first | decide | omega) (by first | decide | omega)
              have f146 := jF (e := (1152 + 2 * u140)) (v := 2147483653) u140 f15 rg_76_1152_2_391 (by first | decide | omega) (by first | decide | omega) (by decide)
              generalize e145 : x_up h6 76 (1152 + 2 * u140) 2147483653 = h143 at j144 f146 ⊢
              refine x_aload (np := 17) (x := 0) (by decide +kernel) rfl (x_nc_le (by decide)) ?_
              have q147 : h143 75 1 = 76 := by have z := jB (e := 1) 0 j144 rg_75_1_0_1 (by decide) (by decide); omega
              refine x_getR (np := 20) (x := 705) (f := 1) (q := 76) (by decide +kernel) (by decide) (by decide +kernel) q147 ?_
              refine x_const (np := 23) (x := 9223376986804585600) (a := 2147484800) (by decide +kernel) (by decide) (by decide) ?_
              refine x_const (np := 24) (x := 9223372047592194050) (a := 2147483650) (by decide +kernel) (by decide) (by decide) ?_
              refine x_aload (np := 25) (x := 0) (by decide +kernel) rfl (x_nc_le (by decide)) ?_
              have q148 : h143 75 13 = h6 75 13 := by rw [← e145]; exact x_up_k (by decide)
              have q149 : h6 75 13 = h 75 13 := jK 0 f8 rg_75_13_0_1 (by first | decide | omega) (by first | decide | omega) (by decide)
              refine x_getC (np := 28) (x := 717) (f := 13) (q := (h 75 13)) (by decide +kernel) (by decide) (by decide +kernel) (q148.trans q149) (fun l150 => ?_)
              refine x_imul (np := 29) (x := 0) (i := 2) (j := u140) (v := (2147483648 + 2 * u140)) (by decide +kernel) (by first | decide | omega) (by first | decide | omega) (by first | decide | omega) (by first | decide | omega) (by decide) l139 ?_
              refine x_iadd (np := 30) (x := 0) (v := (2147484800 + 2 * u140)) (by decide +kernel) (by decide) (by first | decide | omega) (by first | decide | omega) (by first | decide | omega) ?_
              refine x_const (np := 31) (x := 9223372043297226753) (a := 2147483649) (by decide +kernel) (by decide) (by decide) ?_
              refine x_iadd (np := 32) (x := 0) (v := (2147484801 + 2 * u140)) (by decide +kernel) (by first | decide | omega) (by decide) (by first | decide | omega) (by first | decide | omega) ?_
              refine x_iload (np := 33) (x := 2) (by decide +kernel) rfl (by decide) ?_
              refine x_ast (np := 34) (x := 0) (kd := 1) (n := 1952) (i := (1153 + 2 * u140)) (by decide +kernel) (Or.inl rfl) (by decide +kernel) (by first | decide | omega) (by first | decide | omega) (by decide) (by decide) (fun z => absurd z (by decide)) ?_
              have j153 := jU (e := (1153 + 2 * u140)) (v := 2147483648) u140 j144 rg_76_1153_2_391 (by first | decide | omega) (by first | decide | omega) (by first | decide | omega)
              have f155 := jF (e := (1153 + 2 * u140)) (v := 2147483648) u140 f146 rg_76_1153_2_391 (by first | decide | omega) (by first | decide | omega) (by decide)
              generalize e154 : x_up h143 76 (1153 + 2 * u140) 2147483648 = h152 at j153 f155 ⊢
              refine x_aload (np := 35) (x := 0) (by decide +kernel) rfl (x_nc_le (by decide)) ?_
              refine x_dup (np := 36) (x := 0) (by decide +kernel) (by have z := x_nc_le (k := 75) (by decide); unfold x_r; omega) ?_
              have q156 : h152 75 13 = h143 75 13 := by rw [← e154]; exact x_up_k (by decide)
              have q157 : h143 75 13 = h6 75 13 := by rw [← e145]; exact x_up_k (by decide)
              have q158 : h6 75 13 = h 75 13 := jK 0 f8 rg_75_13_0_1 (by first | decide | omega) (by first | decide | omega) (by decide)
              refine x_getC (np := 39) (x := 717) (f := 13) (q := (h 75 13)) (by decide +kernel) (by decide) (by decide +kernel) ((q156.trans q157).trans q158) (fun l159 => ?_)
              refine x_const (np := 40) (x := 9223372043297226753) (a := 2147483649) (by decide +kernel) (by decide) (by decide) ?_
              refine x_iadd (np := 41) (x := 0) (v := (1 + (h 75 13))) (by decide +kernel) l139 (by decide) (by first | decide | omega) (by first | decide | omega) ?_
              refine x_putI (np := 44) (x := 717) (f := 13) (by decide +kernel) (by decide +kernel) (by first | decide | omega) (Or.inl (by decide)) ?_
              have j161 := jU (e := 13) (v := (1 + (h 75 13))) 0 j153 rg_75_13_0_1 (by first | decide | omega) (by first | decide | omega) (by first | decide | omega)
              have f163 := jF (e := 13) (v := (1 + (h 75 13))) 0 f155 rg_75_13_0_1 (by first | decide | omega) (by first | decide | omega) (by decide)
              generalize e162 : x_up h152 75 13 (1 + (h 75 13)) = h160 at j161 f163 ⊢
              refine x_retV (np := 45) (x := 0) (by decide +kernel) (by decide +kernel) ⟨rfl, ?_⟩
              have q164 : h160 75 13 = (1 + (h 75 13)) := by rw [← e162]; exact x_up_at
              refine x_iload (np := 121) (x := 1) (by decide +kernel) rfl (by decide) ?_
              refine x_ifz (k := 2) (tg := 128) (np := 124) (by decide +kernel) (by decide) (by decide) (fun q165 => ?_) (fun q166 => ?_)
              · have q165 : 2147483653 < 2147483648 := q165
                exfalso; omega
              have q166 : ¬ (2147483653 < 2147483648) := q166
              refine x_const (np := 125) (x := 9223372043297226753) (a := 2147483649) (by decide +kernel) (by decide) (by decide) ?_
              refine x_goto (np := 128) (x := 129) (by decide +kernel) ?_
              have q167 : h160 75 13 = (1 + (h 75 13)) := by rw [← e162]; exact x_up_at
              have q168 : h160 75 7 = h152 75 7 := by rw [← e162]; exact x_up_i (by first | decide | omega)
              have q169 : h152 75 7 = h143 75 7 := by rw [← e154]; exact x_up_k (by decide)
              have q170 : h143 75 7 = h6 75 7 := by rw [← e145]; exact x_up_k (by decide)
              have q171 : h160 75 7 = h152 75 7 := by rw [← e162]; exact x_up_i (by first | decide | omega)
              have q172 : h152 75 7 = h143 75 7 := by rw [← e154]; exact x_up_k (by decide)
              have q173 : h143 75 7 = h6 75 7 := by rw [← e145]; exact x_up_k (by decide)
              have q174 : h160 75 13 = (1 + (h 75 13)) := by rw [← e162]; exact x_up_at
              have k178 : Kp h h6 (h 75 13 - 2147483648) := Kp.fr Kp.refl f8 (by first | decide | omega) (by decide)
              have k177 : Kp h h143 (h 75 13 - 2147483648) := by rw [← e145]; exact Kp.up k178 (by first | decide | omega) (fun i hi => by first | decide | omega)
              have k176 : Kp h h152 (h 75 13 - 2147483648) := by rw [← e154]; exact Kp.up k177 (by first | decide | omega) (fun i hi => by first | decide | omega)
              have k175 : Kp h h160 (h 75 13 - 2147483648) := by rw [← e162]; exact Kp.oth k176 (by decide)
              have q179 : h160 75 13 = (1 + (h 75 13)) := by rw [← e162]; exact x_up_at
              have q181 : h160 76 (1152 + 2 * u140) = h152 76 (1152 + 2 * u140) := by rw [← e162]; exact x_up_k (by decide)
              have q182 : h152 76 (1152 + 2 * u140) = h143 76 (1152 + 2 * u140) := by rw [← e154]; exact x_up_i (by first | decide | omega)
              have q183 : h143 76 (1152 + 2 * u140) = 2147483653 := by rw [← e145]; exact x_up_at
              have s180 : Seg (sg h160) u140 (u140 + 1) := Seg.push (show 2147483648 ≤ h160 76 (1152 + 2 * u140) by first | decide | omega) (show h160 76 (1152 + 2 * u140) ≤ 2147483656 by first | decide | omega)
              have s184 : Seg (sg h160) (h 75 13 - 2147483648) (h160 75 13 - 2147483648) := Seg.cast (Seg.kp s180 Kp.refl) (by first | decide | omega) (by first | decide | omega)
              have w185 : ¬ Wd tB tN 2 (sk tB tN (h 75 7)) := by rw [← c13]; exact Wd.no (by decide) (Is.no c27 (by first | decide | omega)) c14
              have w186 : ¬ Wd tB tN 27 (sk tB tN (h 75 7)) := by rw [← c13]; exact Wd.no (by decide) (Is.no c36 (by first | decide | omega)) c14
              have w187 : ¬ Wd tB tN 5 (sk tB tN (h 75 7)) := by rw [← c13]; exact Wd.no (by decide) (Is.no c45 (by first | decide | omega)) c14
              have w188 : ¬ Wd tB tN 28 (sk tB tN (h 75 7)) := by rw [← c13]; exact Wd.no (by decide) (Is.no c54 (by first | decide | omega)) c14
              have w189 : ¬ Wd tB tN 29 (sk tB tN (h 75 7)) := by rw [← c13]; exact Wd.no (by decide) (Is.no c63 (by first | decide | omega)) c14
              have y190 := Is.yes c72 (by first | decide | omega)
              have w191 : Wd tB tN 30 (sk tB tN (h 75 7)) := by rw [← c13]; exact Wd.of' (by decide) y190 c14
              have q193 : h160 75 7 = h152 75 7 := by rw [← e162]; exact x_up_i (by first | decide | omega)
              have q194 : h152 75 7 = h143 75 7 := by rw [← e154]; exact x_up_k (by decide)
              have q195 : h143 75 7 = h6 75 7 := by rw [← e145]; exact x_up_k (by decide)
              have e192 : sk tB tN (h6 75 7) = sk tB tN (sk tB tN (h 75 7) + iv_tl 30) := by rw [← c13, ← y190.1]
              have q196 : h160 75 7 = h152 75 7 := by rw [← e162]; exact x_up_i (by first | decide | omega)
              have q197 : h152 75 7 = h143 75 7 := by rw [← e154]; exact x_up_k (by decide)
              have q198 : h143 75 7 = h6 75 7 := by rw [← e145]; exact x_up_k (by decide)
              refine x_retI (np := 130) (x := 0) (by decide +kernel) (by decide) (Or.inr ⟨by decide +kernel, by first | decide | omega, by first | decide | omega⟩) ⟨_, rfl, (by decide), ?_⟩
              exact ⟨j161, f163, (by first | decide | omega), (fun z => by first | decide | omega), (fun z => by first | decide | omega), (fun z => by first | decide | omega), k175, (fun _ => s184), (fun l => gP_wd (i := 30) (by unfold six; decide) w191 rfl e192 (by first | decide | omega) (congrArg (sk tB tN) (show h6 75 7 = h160 75 7 by first | decide | omega))), (fun z => absurd z (by first | decide | omega))⟩
            have q67 : ¬ (v59 = 2147483648) := q67
            have b199 := c62 (by first | decide | omega)
            refine x_const (np := 96) (x := 9223372056182128644) (a := 2147483652) (by decide +kernel) (by decide) (by decide) ?_
            refine x_goto (np := 99) (x := 113) (by decide +kernel) ?_
            refine x_istore (np := 114) (x := 1) (lo' := [x_r 75, iv_c 2147483652]) (by decide +kernel) (by decide) (Nat.le_of_ble_eq_true rfl) rfl ?_
            refine x_aload (np := 115) (x := 0) (by decide +kernel) rfl (x_nc_le (by decide)) ?_
            refine x_iload (np := 116) (x := 1) (by decide +kernel) rfl (by decide) ?_
            refine x_const (np := 117) (x := 9223372039002259456) (a := 2147483648) (by decide +kernel) (by decide) (by decide) ?_
            refine x_nV (t := 6) (mj := 187) (n := 3) (rc := 12) (ml := 3) (nr := 0) (np := 120) (as := [x_r 75, iv_c 2147483652, iv_c 2147483648]) (rest := []) (lo1 := [x_r 75, iv_c 2147483652, iv_c 2147483648]) (by decide +kernel) (by decide) (by decide +kernel) (x_rb_of (by decide +kernel)) rfl rfl (x_wr (by decide) (x_wi (by decide) (x_wi (by decide) x_wn))) x_wn (by decide) rfl ?_
            refine x_aload (np := 1) (x := 0) (by decide +kernel) rfl (x_nc_le (by decide)) ?_
            have q200 : h6 75 1 = 76 := by have z := jB (e := 1) 0 j7 rg_75_1_0_1 (by decide) (by decide); omega
            refine x_getR (np := 4) (x := 705) (f := 1) (q := 76) (by decide +kernel) (by decide) (by decide +kernel) q200 ?_
            refine x_const (np := 7) (x := 9223376986804585600) (a := 2147484800) (by decide +kernel) (by decide) (by decide) ?_
            refine x_const (np := 8) (x := 9223372047592194050) (a := 2147483650) (by decide +kernel) (by decide) (by decide) ?_
            refine x_aload (np := 9) (x := 0) (by decide +kernel) rfl (x_nc_le (by decide)) ?_
            have q201 : h6 75 13 = h 75 13 := jK 0 f8 rg_75_13_0_1 (by first | decide | omega) (by first | decide | omega) (by decide)
            refine x_getC (np := 12) (x := 717) (f := 13) (q := (h 75 13)) (by decide +kernel) (by decide) (by decide +kernel) q201 (fun l202 => ?_)
            obtain ⟨u203, q204⟩ : ∃ z, (h 75 13) = 2147483648 + z := ⟨(h 75 13) - 2147483648, by first | decide | omega⟩
            refine x_imul (np := 13) (x := 0) (i := 2) (j := u203) (v := (2147483648 + 2 * u203)) (by decide +kernel) (by first | decide | omega) (by first | decide | omega) (by first | decide | omega) (by first | decide | omega) (by decide) l202 ?_
            refine x_iadd (np := 14) (x := 0) (v := (2147484800 + 2 * u203)) (by decide +kernel) (by decide) (by first | decide | omega) (by first | decide | omega) (by first | decide | omega) ?_
            refine x_iload (np := 15) (x := 1) (by decide +kernel) rfl (by decide) ?_
            refine x_ast (np := 16) (x := 0) (kd := 1) (n := 1952) (i := (1152 + 2 * u203)) (by decide +kernel) (Or.inl rfl) (by decide +kernel) (by first | decide | omega) (by first | decide | omega) (by decide) (by decide) (fun z => absurd z (by decide)) ?_
            have j207 := jU (e := (1152 + 2 * u203)) (v := 2147483652) u203 j7 rg_76_1152_2_391 (by first | decide | omega) (by first | decide | omega) (by first | decide | omega)
            have f209 := jF (e := (1152 + 2 * u203)) (v := 2147483652) u203 f15 rg_76_1152_2_391 (by first | decide | omega) (by first | decide | omega) (by decide)
            generalize e208 : x_up h6 76 (1152 + 2 * u203) 2147483652 = h206 at j207 f209 ⊢
            refine x_aload (np := 17) (x := 0) (by decide +kernel) rfl (x_nc_le (by decide)) ?_
            have q210 : h206 75 1 = 76 := by have z := jB (e := 1) 0 j207 rg_75_1_0_1 (by decide) (by decide); omega
            refine x_getR (np := 20) (x := 705) (f := 1) (q := 76) (by decide +kernel) (by decide) (by decide +kernel) q210 ?_
            refine x_const (np := 23) (x := 9223376986804585600) (a := 2147484800) (by decide +kernel) (by decide) (by decide) ?_
            refine x_const (np := 24) (x := 9223372047592194050) (a := 2147483650) (by decide +kernel) (by decide) (by decide) ?_
            refine x_aload (np := 25) (x := 0) (by decide +kernel) rfl (x_nc_le (by decide)) ?_
            have q211 : h206 75 13 = h6 75 13 := by rw [← e208]; exact x_up_k (by decide)
            have q212 : h6 75 13 = h 75 13 := jK 0 f8 rg_75_13_0_1 (by first | decide | omega) (by first | decide | omega) (by decide)
            refine x_getC (np := 28) (x := 717) (f := 13) (q := (h 75 13)) (by decide +kernel) (by decide) (by decide +kernel) (q211.trans q212) (fun l213 => ?_)
            refine x_imul (np := 29) (x := 0) (i := 2) (j := u203) (v := (2147483648 + 2 * u203)) (by decide +kernel) (by first | decide | omega) (by first | decide | omega) (by first | decide | omega) (by first | decide | omega) (by decide) l202 ?_
            refine x_iadd (np := 30) (x := 0) (v := (2147484800 + 2 * u203)) (by decide +kernel) (by decide) (by first | decide | omega) (by first | decide | omega) (by first | decide | omega) ?_
            refine x_const (np := 31) (x := 9223372043297226753) (a := 2147483649) (by decide +kernel) (by decide) (by decide) ?_
            refine x_iadd (np := 32) (x := 0) (v := (2147484801 + 2 * u203)) (by decide +kernel) (by first | decide | omega) (by decide) (by first | decide | omega) (by first | decide | omega) ?_
            refine x_iload (np := 33) (x := 2) (by decide +kernel) rfl (by decide) ?_
            refine x_ast (np := 34) (x := 0) (kd := 1) (n := 1952) (i := (1153 + 2 * u203)) (by decide +kernel) (Or.inl rfl) (by decide +kernel) (by first | decide | omega) (by first | decide | omega) (by decide) (by decide) (fun z => absurd z (by decide)) ?_
            have j216 := jU (e := (1153 + 2 * u203)) (v := 2147483648) u203 j207 rg_76_1153_2_391 (by first | decide | omega) (by first | decide | omega) (by first | decide | omega)
            have f218 := jF (e := (1153 + 2 * u203)) (v := 2147483648) u203 f209 rg_76_1153_2_391 (by first | decide | omega) (by first | decide | omega) (by decide)
            generalize e217 : x_up h206 76 (1153 + 2 * u203) 2147483648 = h215 at j216 f218 ⊢
            refine x_aload (np := 35) (x := 0) (by decide +kernel) rfl (x_nc_le (by decide)) ?_
            refine x_dup (np := 36) (x := 0) (by decide +kernel) (by have z := x_nc_le (k := 75) (by decide); unfold x_r; omega) ?_
            have q219 : h215 75 13 = h206 75 13 := by rw [← e217]; exact x_up_k (by decide)
            have q220 : h206 75 13 = h6 75 13 := by rw [← e208]; exact x_up_k (by decide)
            have q221 : h6 75 13 = h 75 13 := jK 0 f8 rg_75_13_0_1 (by first | decide | omega) (by first | decide | omega) (by decide)
            refine x_getC (np := 39) (x := 717) (f := 13) (q := (h 75 13)) (by decide +kernel) (by decide) (by decide +kernel) ((q219.trans q220).trans q221) (fun l222 => ?_)
            refine x_const (np := 40) (x := 9223372043297226753) (a := 2147483649) (by decide +kernel) (by decide) (by decide) ?_
            refine x_iadd (np := 41) (x := 0) (v := (1 + (h 75 13))) (by decide +kernel) l202 (by decide) (by first | decide | omega) (by first | decide | omega) ?_
            refine x_putI (np := 44) (x := 717) (f := 13) (by decide +kernel) (by decide +kernel) (by first | decide | omega) (Or.inl (by decide)) ?_
            have j224 := jU (e := 13) (v := (1 + (h 75 13))) 0 j216 rg_75_13_0_1 (by first | decide | omega) (by first | decide | omega) (by first | decide | omega)
            have f226 := jF (e := 13) (v := (1 + (h 75 13))) 0 f218 rg_75_13_0_1 (by first | decide | omega) (by first | decide | omega) (by decide)
            generalize e225 : x_up h215 75 13 (1 + (h 75 13)) = h223 at j224 f226 ⊢
            refine x_retV (np := 45) (x := 0) (by decide +kernel) (by decide +kernel) ⟨rfl, ?_⟩
            have q227 : h223 75 13 = (1 + (h 75 13)) := by rw [← e225]; exact x_up_at
            refine x_iload (np := 121) (x := 1) (by decide +kernel) rfl (by decide) ?_
            refine x_ifz (k := 2) (tg := 128) (np := 124) (by decide +kernel) (by decide) (by decide) (fun q228 => ?_) (fun q229 => ?_)
            · have q228 : 2147483652 < 2147483648 := q228
              exfalso; omega
            have q229 : ¬ (2147483652 < 2147483648) := q229
            refine x_const (np := 125) (x := 9223372043297226753) (a := 2147483649) (by decide +kernel) (by decide) (by decide) ?_
            refine x_goto (np := 128) (x := 129) (by decide +kernel) ?_
            have q230 : h223 75 13 = (1 + (h 75 13)) := by rw [← e225]; exact x_up_at
            have q231 : h223 75 7 = h215 75 7 := by rw [← e225]; exact x_up_i (by first | decide | omega)
            have q232 : h215 75 7 = h206 75 7 := by rw [← e217]; exact x_up_k (by decide)
            have q233 : h206 75 7 = h6 75 7 := by rw [← e208]; exact x_up_k (by decide)
            have q234 : h223 75 7 = h215 75 7 := by rw [← e225]; exact x_up_i (by first | decide | omega)
            have q235 : h215 75 7 = h206 75 7 := by rw [← e217]; exact x_up_k (by decide)
            have q236 : h206 75 7 = h6 75 7 := by rw [← e208]; exact x_up_k (by decide)
            have q237 : h223 75 13 = (1 + (h 75 13)) := by rw [← e225]; exact x_up_at
            have k241 : Kp h h6 (h 75 13 - 2147483648) := Kp.fr Kp.refl f8 (by first | decide | omega) (by decide)
            have k240 : Kp h h206 (h 75 13 - 2147483648) := by rw [← e208]; exact Kp.up k241 (by first | decide | omega) (fun i hi => by first | decide | omega)
            have k239 : Kp h h215 (h 75 13 - 2147483648) := by rw [← e217]; exact Kp.up k240 (by first | decide | omega) (fun i hi => by first | decide | omega)
            have k238 : Kp h h223 (h 75 13 - 2147483648) := by rw [← e225]; exact Kp.oth k239 (by decide)
            have q242 : h223 75 13 = (1 + (h 75 13)) := by rw [← e225]; exact x_up_at
            have q244 : h223 76 (1152 + 2 * u203) = h215 76 (1152 + 2 * u203) := by rw [← e225]; exact x_up_k (by decide)
            have q245 : h215 76 (1152 + 2 * u203) = h206 76 (1152 + 2 * u203) := by rw [← e217]; exact x_up_i (by first | decide | omega)
            have q246 : h206 76 (1152 + 2 * u203) = 2147483652 := by rw [← e208]; exact x_up_at
            have s243 : Seg (sg h223) u203 (u203 + 1) := Seg.push (show 2147483648 ≤ h223 76 (1152 + 2 * u203) by first | decide | omega) (show h223 76 (1152 + 2 * u203) ≤ 2147483656 by first | decide | omega)
            have s247 : Seg (sg h223) (h 75 13 - 2147483648) (h223 75 13 - 2147483648) := Seg.cast (Seg.kp s243 Kp.refl) (by first | decide | omega) (by first | decide | omega)
            have w248 : ¬ Wd tB tN 2 (sk tB tN (h 75 7)) := by rw [← c13]; exact Wd.no (by decide) (Is.no c27 (by first | decide | omega)) c14
            have w249 : ¬ Wd tB tN 27 (sk tB tN (h 75 7)) := by rw [← c13]; exact Wd.no (by decide) (Is.no c36 (by first | decide | omega)) c14
            have w250 : ¬ Wd tB tN 5 (sk tB tN (h 75 7)) := by rw [← c13]; exact Wd.no (by decide) (Is.no c45 (by first | decide | omega)) c14
            have w251 : ¬ Wd tB tN 28 (sk tB tN (h 75 7)) := by rw [← c13]; exact Wd.no (by decide) (Is.no c54 (by first | decide | omega)) c14
            have y252 := Is.yes c63 (by first | decide | omega)
            have w253 : Wd tB tN 29 (sk tB tN (h 75 7)) := by rw [← c13]; exact Wd.of' (by decide) y252 c14
            have q255 : h223 75 7 = h215 75 7 := by rw [← e225]; exact x_up_i (by first | decide | omega)
            have q256 : h215 75 7 = h206 75 7 := by rw [← e217]; exact x_up_k (by decide)
            have q257 : h206 75 7 = h6 75 7 := by rw [← e208]; exact x_up_k (by decide)
            have e254 : sk tB tN (h6 75 7) = sk tB tN (sk tB tN (h 75 7) + iv_tl 29) := by rw [← c13, ← y252.1]
            have q258 : h223 75 7 = h215 75 7 := by rw [← e225]; exact x_up_i (by first | decide | omega)
            have q259 : h215 75 7 = h206 75 7 := by rw [← e217]; exact x_up_k (by decide)
            have q260 : h206 75 7 = h6 75 7 := by rw [← e208]; exact x_up_k (by decide)
            refine x_retI (np := 130) (x := 0) (by decide +kernel) (by decide) (Or.inr ⟨by decide +kernel, by first | decide | omega, by first | decide | omega⟩) ⟨_, rfl, (by decide), ?_⟩
            exact ⟨j224, f226, (by first | decide | omega), (fun z => by first | decide | omega), (fun z => by first | decide | omega), (fun z => by first | decide | omega), k238, (fun _ => s247), (fun l => gP_wd (i := 29) (by unfold six; decide) w253 rfl e254 (by first | decide | omega) (congrArg (sk tB tN) (show h6 75 7 = h223 75 7 by first | decide | omega))), (fun z => absurd z (by first | decide | omega))⟩
          have q58 : ¬ (v50 = 2147483648) := q58
          have b261 := c53 (by first | decide | omega)
          refine x_const (np := 83) (x := 9223372051887161347) (a := 2147483651) (by decide +kernel) (by decide) (by decide) ?_
          refine x_goto (np := 86) (x := 113) (by decide +kernel) ?_
          refine x_istore (np := 114) (x := 1) (lo' := [x_r 75, iv_c 2147483651]) (by decide +kernel) (by decide) (Nat.le_of_ble_eq_true rfl) rfl ?_
          refine x_aload (np := 115) (x := 0) (by decide +kernel) rfl (x_nc_le (by decide)) ?_
          refine x_iload (np := 116) (x := 1) (by decide +kernel) rfl (by decide) ?_
          refine x_const (np := 117) (x := 9223372039002259456) (a := 2147483648) (by decide +kernel) (by decide) (by decide) ?_
          refine x_nV (t := 6) (mj := 187) (n := 3) (rc := 12) (ml := 3) (nr := 0) (np := 120) (as := [x_r 75, iv_c 2147483651, iv_c 2147483648]) (rest := []) (lo1 := [x_r 75, iv_c 2147483651, iv_c 2147483648]) (by decide +kernel) (by decide) (by decide +kernel) (x_rb_of (by decide +kernel)) rfl rfl (x_wr (by decide) (x_wi (by decide) (x_wi (by decide) x_wn))) x_wn (by decide) rfl ?_
          refine x_aload (np := 1) (x := 0) (by decide +kernel) rfl (x_nc_le (by decide)) ?_
          have q262 : h6 75 1 = 76 := by have z := jB (e := 1) 0 j7 rg_75_1_0_1 (by decide) (by decide); omega
          refine x_getR (np := 4) (x := 705) (f := 1) (q := 76) (by decide +kernel) (by decide) (by decide +kernel) q262 ?_
          refine x_const (np := 7) (x := 9223376986804585600) (a := 2147484800) (by decide +kernel) (by decide) (by decide) ?_
          refine x_const (np := 8) (x := 9223372047592194050) (a := 2147483650) (by decide +kernel) (by decide) (by decide) ?_
          refine x_aload (np := 9) (x := 0) (by decide +kernel) rfl (x_nc_le (by decide)) ?_
          have q263 : h6 75 13 = h 75 13 := jK 0 f8 rg_75_13_0_1 (by first | decide | omega) (by first | decide | omega) (by decide)
          refine x_getC (np := 12) (x := 717) (f := 13) (q := (h 75 13)) (by decide +kernel) (by decide) (by decide +kernel) q263 (fun l264 => ?_)
          obtain ⟨u265, q266⟩ : ∃ z, (h 75 13) = 2147483648 + z := ⟨(h 75 13) - 2147483648, by first | decide | omega⟩
          refine x_imul (np := 13) (x := 0) (i := 2) (j := u265) (v := (2147483648 + 2 * u265)) (by decide +kernel) (by first | decide | omega) (by first | decide | omega) (by first | decide | omega) (by first | decide | omega) (by decide) l264 ?_
          refine x_iadd (np := 14) (x := 0) (v := (2147484800 + 2 * u265)) (by decide +kernel) (by decide) (by first | decide | omega) (by first | decide | omega) (by first | decide | omega) ?_
          refine x_iload (np := 15) (x := 1) (by decide +kernel) rfl (by decide) ?_
          refine x_ast (np := 16) (x := 0) (kd := 1) (n := 1952) (i := (1152 + 2 * u265)) (by decide +kernel) (Or.inl rfl) (by decide +kernel) (by first | decide | omega) (by first | decide | omega) (by decide) (by decide) (fun z => absurd z (by decide)) ?_
          have j269 := jU (e := (1152 + 2 * u265)) (v := 2147483651) u265 j7 rg_76_1152_2_392 (by first | decide | omega) (by first | decide | omega) (by first | decide | omega)
          have f271 := jF (e := (1152 + 2 * u265)) (v := 2147483651) u265 f15 rg_76_1152_2_392 (by first | decide | omega) (by first | decide | omega) (by decide)
          generalize e270 : x_up h6 76 (1152 + 2 * u265) 2147483651 = h268 at j269 f271 ⊢
          refine x_aload (np := 17) (x := 0) (by decide +kernel) rfl (x_nc_le (by decide)) ?_
          have q272 : h268 75 1 = 76 := by have z := jB (e := 1) 0 j269 rg_75_1_0_1 (by decide) (by decide); omega
          refine x_getR (np := 20) (x := 705) (f := 1) (q := 76) (by decide +kernel) (by decide) (by decide +kernel) q272 ?_
          refine x_const (np := 23) (x := 9223376986804585600) (a := 2147484800) (by decide +kernel) (by decide) (by decide) ?_
          refine x_const (np := 24) (x := 9223372047592194050) (a := 2147483650) (by decide +kernel) (by decide) (by decide) ?_
          refine x_aload (np := 25) (x := 0) (by decide +kernel) rfl (x_nc_le (by decide)) ?_
          have q273 : h268 75 13 = h6 75 13 := by rw [← e270]; exact x_up_k (by decide)
          have q274 : h6 75 13 = h 75 13 := jK 0 f8 rg_75_13_0_1 (by first | decide | omega) (by first | decide | omega) (by decide)
          refine x_getC (np := 28) (x := 717) (f := 13) (q := (h 75 13)) (by decide +kernel) (by decide) (by decide +kernel) (q273.trans q274) (fun l275 => ?_)
          refine x_imul (np := 29) (x := 0) (i := 2) (j := u265) (v := (2147483648 + 2 * u265)) (by decide +kernel) (by first | decide | omega) (by first | decide | omega) (by first | decide | omega) (by first | decide | omega) (by decide) l264 ?_
          refine x_iadd (np := 30) (x := 0) (v := (2147484800 + 2 * u265)) (by decide +kernel) (by decide) (by first | decide | omega) (by first | decide | omega) (by first | decide | omega) ?_
          refine x_const (np := 31) (x := 9223372043297226753) (a := 2147483649) (by decide +kernel) (by decide) (by decide) ?_
          refine x_iadd (np := 32) (x := 0) (v := (2147484801 + 2 * u265)) (by decide +kernel) (by first | decide | omega) (by decide) (by first | decide | omega) (by first | decide | omega) ?_
          refine x_iload (np := 33) (x := 2) (by decide +kernel) rfl (by decide) ?_
          refine x_ast (np := 34) (x := 0) (kd := 1) (n := 1952) (i := (1153 + 2 * u265)) (by decide +kernel) (Or.inl rfl) (by decide +kernel) (by first | decide | omega) (by first | decide | omega) (by decide) (by decide) (fun z => absurd z (by decide)) ?_
          have j278 := jU (e := (1153 + 2 * u265)) (v := 2147483648) u265 j269 rg_76_1153_2_392 (by first | decide | omega) (by first | decide | omega) (by first | decide | omega)
          have f280 := jF (e := (1153 + 2 * u265)) (v := 2147483648) u265 f271 rg_76_1153_2_392 (by first | decide | omega) (by first | decide | omega) (by decide)
          generalize e279 : x_up h268 76 (1153 + 2 * u265) 2147483648 = h277 at j278 f280 ⊢
          refine x_aload (np := 35) (x := 0) (by decide +kernel) rfl (x_nc_le (by decide)) ?_
          refine x_dup (np := 36) (x := 0) (by decide +kernel) (by have z := x_nc_le (k := 75) (by decide); unfold x_r; omega) ?_
          have q281 : h277 75 13 = h268 75 13 := by rw [← e279]; exact x_up_k (by decide)
          have q282 : h268 75 13 = h6 75 13 := by rw [← e270]; exact x_up_k (by decide)
          have q283 : h6 75 13 = h 75 13 := jK 0 f8 rg_75_13_0_1 (by first | decide | omega) (by first | decide | omega) (by decide)
          refine x_getC (np := 39) (x := 717) (f := 13) (q := (h 75 13)) (by decide +kernel) (by decide) (by decide +kernel) ((q281.trans q282).trans q283) (fun l284 => ?_)
          refine x_const (np := 40) (x := 9223372043297226753) (a := 2147483649) (by decide +kernel) (by decide) (by decide) ?_
          refine x_iadd (np := 41) (x := 0) (v := (1 + (h 75 13))) (by decide +kernel) l264 (by decide) (by first | decide | omega) (by first | decide | omega) ?_
          refine x_putI (np := 44) (x := 717) (f := 13) (by decide +kernel) (by decide +kernel) (by first | decide | omega) (Or.inl (by decide)) ?_
          have j286 := jU (e := 13) (v := (1 + (h 75 13))) 0 j278 rg_75_13_0_1 (by first | decide | omega) (by first | decide | omega) (by first | decide | omega)
          have f288 := jF (e := 13) (v := (1 + (h 75 13))) 0 f280 rg_75_13_0_1 (by first | decide | omega) (by first | decide | omega) (by decide)
          generalize e287 : x_up h277 75 13 (1 + (h 75 13)) = h285 at j286 f288 ⊢
          refine x_retV (np := 45) (x := 0) (by decide +kernel) (by decide +kernel) ⟨rfl, ?_⟩
          have q289 : h285 75 13 = (1 + (h 75 13)) := by rw [← e287]; exact x_up_at
          refine x_iload (np := 121) (x := 1) (by decide +kernel) rfl (by decide) ?_
          refine x_ifz (k := 2) (tg := 128) (np := 124) (by decide +kernel) (by decide) (by decide) (fun q290 => ?_) (fun q291 => ?_)
          · have q290 : 2147483651 < 2147483648 := q290
            exfalso; omega
          have q291 : ¬ (2147483651 < 2147483648) := q291
          refine x_const (np := 125) (x := 9223372043297226753) (a := 2147483649) (by decide +kernel) (by decide) (by decide) ?_
          refine x_goto (np := 128) (x := 129) (by decide +kernel) ?_
          have q292 : h285 75 13 = (1 + (h 75 13)) := by rw [← e287]; exact x_up_at
          have q293 : h285 75 7 = h277 75 7 := by rw [← e287]; exact x_up_i (by first | decide | omega)
          have q294 : h277 75 7 = h268 75 7 := by rw [← e279]; exact x_up_k (by decide)
          have q295 : h268 75 7 = h6 75 7 := by rw [← e270]; exact x_up_k (by decide)
          have q296 : h285 75 7 = h277 75 7 := by rw [← e287]; exact x_up_i (by first | decide | omega)
          have q297 : h277 75 7 = h268 75 7 := by rw [← e279]; exact x_up_k (by decide)
          have q298 : h268 75 7 = h6 75 7 := by rw [← e270]; exact x_up_k (by decide)
          have q299 : h285 75 13 = (1 + (h 75 13)) := by rw [← e287]; exact x_up_at
          have k303 : Kp h h6 (h 75 13 - 2147483648) := Kp.fr Kp.refl f8 (by first | decide | omega) (by decide)
          have k302 : Kp h h268 (h 75 13 - 2147483648) := by rw [← e270]; exact Kp.up k303 (by first | decide | omega) (fun i hi => by first | decide | omega)
          have k301 : Kp h h277 (h 75 13 - 2147483648) := by rw [← e279]; exact Kp.up k302 (by first | decide | omega) (fun i hi => by first | decide | omega)
          have k300 : Kp h h285 (h 75 13 - 2147483648) := by rw [← e287]; exact Kp.oth k301 (by decide)
          have q304 : h285 75 13 = (1 + (h 75 13)) := by rw [← e287]; exact x_up_at
          have q306 : h285 76 (1152 + 2 * u265) = h277 76 (1152 + 2 * u265) := by rw [← e287]; exact x_up_k (by decide)
          have q307 : h277 76 (1152 + 2 * u265) = h268 76 (1152 + 2 * u265) := by rw [← e279]; exact x_up_i (by first | decide | omega)
          have q308 : h268 76 (1152 + 2 * u265) = 2147483651 := by rw [← e270]; exact x_up_at
          have s305 : Seg (sg h285) u265 (u265 + 1) := Seg.push (show 2147483648 ≤ h285 76 (1152 + 2 * u265) by first | decide | omega) (show h285 76 (1152 + 2 * u265) ≤ 2147483656 by first | decide | omega)
          have s309 : Seg (sg h285) (h 75 13 - 2147483648) (h285 75 13 - 2147483648) := Seg.cast (Seg.kp s305 Kp.refl) (by first | decide | omega) (by first | decide | omega)
          have w310 : ¬ Wd tB tN 2 (sk tB tN (h 75 7)) := by rw [← c13]; exact Wd.no (by decide) (Is.no c27 (by first | decide | omega)) c14
          have w311 : ¬ Wd tB tN 27 (sk tB tN (h 75 7)) := by rw [← c13]; exact Wd.no (by decide) (Is.no c36 (by first | decide | omega)) c14
          have w312 : ¬ Wd tB tN 5 (sk tB tN (h 75 7)) := by rw [← c13]; exact Wd.no (by decide) (Is.no c45 (by first | decide | omega)) c14
          have y313 := Is.yes c54 (by first | decide | omega)
          have w314 : Wd tB tN 28 (sk tB tN (h 75 7)) := by rw [← c13]; exact Wd.of' (by decide) y313 c14
          have q316 : h285 75 7 = h277 75 7 := by rw [← e287]; exact x_up_i (by first | decide | omega)
          have q317 : h277 75 7 = h268 75 7 := by rw [← e279]; exact x_up_k (by decide)
          have q318 : h268 75 7 = h6 75 7 := by rw [← e270]; exact x_up_k (by decide)
          have e315 : sk tB tN (h6 75 7) = sk tB tN (sk tB tN (h 75 7) + iv_tl 28) := by rw [← c13, ← y313.1]
          have q319 : h285 75 7 = h277 75 7 := by rw [← e287]; exact x_up_i (by first | decide | omega)
          have q320 : h277 75 7 = h268 75 7 := by rw [← e279]; exact x_up_k (by decide)
          have q321 : h268 75 7 = h6 75 7 := by rw [← e270]; exact x_up_k (by decide)
          refine x_retI (np := 130) (x := 0) (by decide +kernel) (by decide) (Or.inr ⟨by decide +kernel, by first | decide | omega, by first | decide | omega⟩) ⟨_, rfl, (by decide), ?_⟩
          exact ⟨j286, f288, (by first | decide | omega), (fun z => by first | decide | omega), (fun z => by first | decide | omega), (fun z => by first | decide | omega), k300, (fun _ => s309), (fun l => gP_wd (i := 28) (by unfold six; decide) w314 rfl e315 (by first | decide | omega) (congrArg (sk tB tN) (show h6 75 7 = h285 75 7 by first | decide | omega))), (fun z => absurd z (by first | decide | omega))⟩
        have q49 : ¬ (v41 = 2147483648) := q49
        have b322 := c44 (by first | decide | omega)
        refine x_const (np := 70) (x := 9223372047592194050) (a := 2147483650) (by decide +kernel) (by decide) (by decide) ?_
        refine x_goto (np := 73) (x := 113) (by decide +kernel) ?_
        refine x_istore (np := 114) (x := 1) (lo' := [x_r 75, iv_c 2147483650]) (by decide +kernel) (by decide) (Nat.le_of_ble_eq_true rfl) rfl ?_
        refine x_aload (np := 115) (x := 0) (by decide +kernel) rfl (x_nc_le (by decide)) ?_
        refine x_iload (np := 116) (x := 1) (by decide +kernel) rfl (by decide) ?_
        refine x_const (np := 117) (x := 9223372039002259456) (a := 2147483648) (by decide +kernel) (by decide) (by decide) ?_
        refine x_nV (t := 6) (mj := 187) (n := 3) (rc := 12) (ml := 3) (nr := 0) (np := 120) (as := [x_r 75, iv_c 2147483650, iv_c 2147483648]) (rest := []) (lo1 := [x_r 75, iv_c 2147483650, iv_c 2147483648]) (by decide +kernel) (by decide) (by decide +kernel) (x_rb_of (by decide +kernel)) rfl rfl (x_wr (by decide) (x_wi (by decide) (x_wi (by decide) x_wn))) x_wn (by decide) rfl ?_
        refine x_aload (np := 1) (x := 0) (by decide +kernel) rfl (x_nc_le (by decide)) ?_
        have q323 : h6 75 1 = 76 := by have z := jB (e := 1) 0 j7 rg_75_1_0_1 (by decide) (by decide); omega
        refine x_getR (np := 4) (x := 705) (f := 1) (q := 76) (by decide +kernel) (by decide) (by decide +kernel) q323 ?_
        refine x_const (np := 7) (x := 9223376986804585600) (a := 2147484800) (by decide +kernel) (by decide) (by decide) ?_
        refine x_const (np := 8) (x := 9223372047592194050) (a := 2147483650) (by decide +kernel) (by decide) (by decide) ?_
        refine x_aload (np := 9) (x := 0) (by decide +kernel) rfl (x_nc_le (by decide)) ?_
        have q324 : h6 75 13 = h 75 13 := jK 0 f8 rg_75_13_0_1 (by first | decide | omega) (by first | decide | omega) (by decide)
        refine x_getC (np := 12) (x := 717) (f := 13) (q := (h 75 13)) (by decide +kernel) (by decide) (by decide +kernel) q324 (fun l325 => ?_)
        obtain ⟨u326, q327⟩ : ∃ z, (h 75 13) = 2147483648 + z := ⟨(h 75 13) - 2147483648, by first | decide | omega⟩
        refine x_imul (np := 13) (x := 0) (i := 2) (j := u326) (v := (2147483648 + 2 * u326)) (by decide +kernel) (by first | decide | omega) (by first | decide | omega) (by first | decide | omega) (by first | decide | omega) (by decide) l325 ?_
        refine x_iadd (np := 14) (x := 0) (v := (2147484800 + 2 * u326)) (by decide +kernel) (by decide) (by first | decide | omega) (by first | decide | omega) (by first | decide | omega) ?_
        refine x_iload (np := 15) (x := 1) (by decide +kernel) rfl (by decide) ?_
        refine x_ast (np := 16) (x := 0) (kd := 1) (n := 1952) (i := (1152 + 2 * u326)) (by decide +kernel) (Or.inl rfl) (by decide +kernel) (by first | decide | omega) (by first | decide | omega) (by decide) (by decide) (fun z => absurd z (by decide)) ?_
        have j330 := jU (e := (1152 + 2 * u326)) (v := 2147483650) u326 j7 rg_76_1152_2_390 (by first | decide | omega) (by first | decide | omega) (by first | decide | omega)
        have f332 := jF (e := (1152 + 2 * u326)) (v := 2147483650) u326 f15 rg_76_1152_2_390 (by first | decide | omega) (by first | decide | omega) (by decide)
        generalize e331 : x_up h6 76 (1152 + 2 * u326) 2147483650 = h329 at j330 f332 ⊢
        refine x_aload (np := 17) (x := 0) (by decide +kernel) rfl (x_nc_le (by decide)) ?_
        have q333 : h329 75 1 = 76 := by have z := jB (e := 1) 0 j330 rg_75_1_0_1 (by decide) (by decide); omega
        refine x_getR (np := 20) (x := 705) (f := 1) (q := 76) (by decide +kernel) (by decide) (by decide +kernel) q333 ?_
        refine x_const (np := 23) (x := 9223376986804585600) (a := 2147484800) (by decide +kernel) (by decide) (by decide) ?_
        refine x_const (np := 24) (x := 9223372047592194050) (a := 2147483650) (by decide +kernel) (by decide) (by decide) ?_
        refine x_aload (np := 25) (x := 0) (by decide +kernel) rfl (x_nc_le (by decide)) ?_
        have q334 : h329 75 13 = h6 75 13 := by rw [← e331]; exact x_up_k (by decide)
        have q335 : h6 75 13 = h 75 13 := jK 0 f8 rg_75_13_0_1 (by first | decide | omega) (by first | decide | omega) (by decide)
        refine x_getC (np := 28) (x := 717) (f := 13) (q := (h 75 13)) (by decide +kernel) (by decide) (by decide +kernel) (q334.trans q335) (fun l336 => ?_)
        refine x_imul (np := 29) (x := 0) (i := 2) (j := u326) (v := (2147483648 + 2 * u326)) (by decide +kernel) (by first | decide | omega) (by first | decide | omega) (by first | decide | omega) (by first | decide | omega) (by decide) l325 ?_
        refine x_iadd (np := 30) (x := 0) (v := (2147484800 + 2 * u326)) (by decide +kernel) (by decide) (by first | decide | omega) (by first | decide | omega) (by first | decide | omega) ?_
        refine x_const (np := 31) (x := 9223372043297226753) (a := 2147483649) (by decide +kernel) (by decide) (by decide) ?_
        refine x_iadd (np := 32) (x := 0) (v := (2147484801 + 2 * u326)) (by decide +kernel) (by first | decide | omega) (by decide) (by first | decide | omega) (by first | decide | omega) ?_
        refine x_iload (np := 33) (x := 2) (by decide +kernel) rfl (by decide) ?_
        refine x_ast (np := 34) (x := 0) (kd := 1) (n := 1952) (i := (1153 + 2 * u326)) (by decide +kernel) (Or.inl rfl) (by decide +kernel) (by first | decide | omega) (by first | decide | omega) (by decide) (by decide) (fun z => absurd z (by decide)) ?_
        have j339 := jU (e := (1153 + 2 * u326)) (v := 2147483648) u326 j330 rg_76_1153_2_390 (by first | decide | omega) (by first | decide | omega) (by first | decide | omega)
        have f341 := jF (e := (1153 + 2 * u326)) (v := 2147483648) u326 f332 rg_76_1153_2_390 (by first | decide | omega) (by first | decide | omega) (by decide)
        generalize e340 : x_up h329 76 (1153 + 2 * u326) 2147483648 = h338 at j339 f341 ⊢
        refine x_aload (np := 35) (x := 0) (by decide +kernel) rfl (x_nc_le (by decide)) ?_
        refine x_dup (np := 36) (x := 0) (by decide +kernel) (by have z := x_nc_le (k := 75) (by decide); unfold x_r; omega) ?_
        have q342 : h338 75 13 = h329 75 13 := by rw [← e340]; exact x_up_k (by decide)
        have q343 : h329 75 13 = h6 75 13 := by rw [← e331]; exact x_up_k (by decide)
        have q344 : h6 75 13 = h 75 13 := jK 0 f8 rg_75_13_0_1 (by first | decide | omega) (by first | decide | omega) (by decide)
        refine x_getC (np := 39) (x := 717) (f := 13) (q := (h 75 13)) (by decide +kernel) (by decide) (by decide +kernel) ((q342.trans q343).trans q344) (fun l345 => ?_)
        refine x_const (np := 40) (x := 9223372043297226753) (a := 2147483649) (by decide +kernel) (by decide) (by decide) ?_
        refine x_iadd (np := 41) (x := 0) (v := (1 + (h 75 13))) (by decide +kernel) l325 (by decide) (by first | decide | omega) (by first | decide | omega) ?_
        refine x_putI (np := 44) (x := 717) (f := 13) (by decide +kernel) (by decide +kernel) (by first | decide | omega) (Or.inl (by decide)) ?_
        have j347 := jU (e := 13) (v := (1 + (h 75 13))) 0 j339 rg_75_13_0_1 (by first | decide | omega) (by first | decide | omega) (by first | decide | omega)
        have f349 := jF (e := 13) (v := (1 + (h 75 13))) 0 f341 rg_75_13_0_1 (by first | decide | omega) (by first | decide | omega) (by decide)
        generalize e348 : x_up h338 75 13 (1 + (h 75 13)) = h346 at j347 f349 ⊢
        refine x_retV (np := 45) (x := 0) (by decide +kernel) (by decide +kernel) ⟨rfl, ?_⟩
        have q350 : h346 75 13 = (1 + (h 75 13)) := by rw [← e348]; exact x_up_at
        refine x_iload (np := 121) (x := 1) (by decide +kernel) rfl (by decide) ?_
        refine x_ifz (k := 2) (tg := 128) (np := 124) (by decide +kernel) (by decide) (by decide) (fun q351 => ?_) (fun q352 => ?_)
        · have q351 : 2147483650 < 2147483648 := q351
          exfalso; omega
        have q352 : ¬ (2147483650 < 2147483648) := q352
        refine x_const (np := 125) (x := 9223372043297226753) (a := 2147483649) (by decide +kernel) (by decide) (by decide) ?_
        refine x_goto (np := 128) (x := 129) (by decide +kernel) ?_
        have q353 : h346 75 13 = (1 + (h 75 13)) := by rw [← e348]; exact x_up_at
        have q354 : h346 75 7 = h338 75 7 := by rw [← e348]; exact x_up_i (by first | decide | omega)
        have q355 : h338 75 7 = h329 75 7 := by rw [← e340]; exact x_up_k (by decide)
        have q356 : h329 75 7 = h6 75 7 := by rw [← e331]; exact x_up_k (by decide)
        have q357 : h346 75 7 = h338 75 7 := by rw [← e348]; exact x_up_i (by first | decide | omega)
        have q358 : h338 75 7 = h329 75 7 := by rw [← e340]; exact x_up_k (by decide)
        have q359 : h329 75 7 = h6 75 7 := by rw [← e331]; exact x_up_k (by decide)
        have q360 : h346 75 13 = (1 + (h 75 13)) := by rw [← e348]; exact x_up_at
        have k364 : Kp h h6 (h 75 13 - 2147483648) := Kp.fr Kp.refl f8 (by first | decide | omega) (by decide)
        have k363 : Kp h h329 (h 75 13 - 2147483648) := by rw [← e331]; exact Kp.up k364 (by first | decide | omega) (fun i hi => by first | decide | omega)
        have k362 : Kp h h338 (h 75 13 - 2147483648) := by rw [← e340]; exact Kp.up k363 (by first | decide | omega) (fun i hi => by first | decide | omega)
        have k361 : Kp h h346 (h 75 13 - 2147483648) := by rw [← e348]; exact Kp.oth k362 (by decide)
        have q365 : h346 75 13 = (1 + (h 75 13)) := by rw [← e348]; exact x_up_at
        have q367 : h346 76 (1152 + 2 * u326) = h338 76 (1152 + 2 * u326) := by rw [← e348]; exact x_up_k (by decide)
        have q368 : h338 76 (1152 + 2 * u326) = h329 76 (1152 + 2 * u326) := by rw [← e340]; exact x_up_i (by first | decide | omega)
        have q369 : h329 76 (1152 + 2 * u326) = 2147483650 := by rw [← e331]; exact x_up_at
        have s366 : Seg (sg h346) u326 (u326 + 1) := Seg.push (show 2147483648 ≤ h346 76 (1152 + 2 * u326) by first | decide | omega) (show h346 76 (1152 + 2 * u326) ≤ 2147483656 by first | decide | omega)
        have s370 : Seg (sg h346) (h 75 13 - 2147483648) (h346 75 13 - 2147483648) := Seg.cast (Seg.kp s366 Kp.refl) (by first | decide | omega) (by first | decide | omega)
        have w371 : ¬ Wd tB tN 2 (sk tB tN (h 75 7)) := by rw [← c13]; exact Wd.no (by decide) (Is.no c27 (by first | decide | omega)) c14
        have w372 : ¬ Wd tB tN 27 (sk tB tN (h 75 7)) := by rw [← c13]; exact Wd.no (by decide) (Is.no c36 (by first | decide | omega)) c14
        have y373 := Is.yes c45 (by first | decide | omega)
        have w374 : Wd tB tN 5 (sk tB tN (h 75 7)) := by rw [← c13]; exact Wd.of' (by decide) y373 c14
        have q376 : h346 75 7 = h338 75 7 := by rw [← e348]; exact x_up_i (by first | decide | omega)
        have q377 : h338 75 7 = h329 75 7 := by rw [← e340]; exact x_up_k (by decide)
        have q378 : h329 75 7 = h6 75 7 := by rw [← e331]; exact x_up_k (by decide)
        have e375 : sk tB tN (h6 75 7) = sk tB tN (sk tB tN (h 75 7) + iv_tl 5) := by rw [← c13, ← y373.1]
        have q379 : h346 75 7 = h338 75 7 := by rw [← e348]; exact x_up_i (by first | decide | omega)
        have q380 : h338 75 7 = h329 75 7 := by rw [← e340]; exact x_up_k (by decide)
        have q381 : h329 75 7 = h6 75 7 := by rw [← e331]; exact x_up_k (by decide)
        refine x_retI (np := 130) (x := 0) (by decide +kernel) (by decide) (Or.inr ⟨by decide +kernel, by first | decide | omega, by first | decide | omega⟩) ⟨_, rfl, (by decide), ?_⟩
        exact ⟨j347, f349, (by first | decide | omega), (fun z => by first | decide | omega), (fun z => by first | decide | omega), (fun z => by first | decide | omega), k361, (fun _ => s370), (fun l => gP_wd (i := 5) (by unfold six; decide) w374 rfl e375 (by first | decide | omega) (congrArg (sk tB tN) (show h6 75 7 = h346 75 7 by first | decide | omega))), (fun z => absurd z (by first | decide | omega))⟩
      have q40 : ¬ (v32 = 2147483648) := q40
      have b382 := c35 (by first | decide | omega)
      refine x_const (np := 57) (x := 9223372043297226753) (a := 2147483649) (by decide +kernel) (by decide) (by decide) ?_
      refine x_goto (np := 60) (x := 113) (by decide +kernel) ?_
      refine x_istore (np := 114) (x := 1) (lo' := [x_r 75, iv_c 2147483649]) (by decide +kernel) (by decide) (Nat.le_of_ble_eq_true rfl) rfl ?_
      refine x_aload (np := 115) (x := 0) (by decide +kernel) rfl (x_nc_le (by decide)) ?_
      refine x_iload (np := 116) (x := 1) (by decide +kernel) rfl (by decide) ?_
      refine x_const (np := 117) (x := 9223372039002259456) (a := 2147483648) (by decide +kernel) (by decide) (by decide) ?_
      refine x_nV (t := 6) (mj := 187) (n := 3) (rc := 12) (ml := 3) (nr := 0) (np := 120) (as := [x_r 75, iv_c 2147483649, iv_c 2147483648]) (rest := []) (lo1 := [x_r 75, iv_c 2147483649, iv_c 2147483648]) (by decide +kernel) (by decide) (by decide +kernel) (x_rb_of (by decide +kernel)) rfl rfl (x_wr (by decide) (x_wi (by decide) (x_wi (by decide) x_wn))) x_wn (by decide) rfl ?_
      refine x_aload (np := 1) (x := 0) (by decide +kernel) rfl (x_nc_le (by decide)) ?_
      have q383 : h6 75 1 = 76 := by have z := jB (e := 1) 0 j7 rg_75_1_0_1 (by decide) (by decide); omega
      refine x_getR (np := 4) (x := 705) (f := 1) (q := 76) (by decide +kernel) (by decide) (by decide +kernel) q383 ?_
      refine x_const (np := 7) (x := 9223376986804585600) (a := 2147484800) (by decide +kernel) (by decide) (by decide) ?_
      refine x_const (np := 8) (x := 9223372047592194050) (a := 2147483650) (by decide +kernel) (by decide) (by decide) ?_
      refine x_aload (np := 9) (x := 0) (by decide +kernel) rfl (x_nc_le (by decide)) ?_
      have q384 : h6 75 13 = h 75 13 := jK 0 f8 rg_75_13_0_1 (by first | decide | omega) (by first | decide | omega) (by decide)
      refine x_getC (np := 12) (x := 717) (f := 13) (q := (h 75 13)) (by decide +kernel) (by decide) (by decide +kernel) q384 (fun l385 => ?_)
      obtain ⟨u386, q387⟩ : ∃ z, (h 75 13) = 2147483648 + z := ⟨(h 75 13) - 2147483648, by first | decide | omega⟩
      refine x_imul (np := 13) (x := 0) (i := 2) (j := u386) (v := (2147483648 + 2 * u386)) (by decide +kernel) (by first | decide | omega) (by first | decide | omega) (by first | decide | omega) (by first | decide | omega) (by decide) l385 ?_
      refine x_iadd (np := 14) (x := 0) (v := (2147484800 + 2 * u386)) (by decide +kernel) (by decide) (by first | decide | omega) (by first | decide | omega) (by first | decide | omega) ?_
      refine x_iload (np := 15) (x := 1) (by decide +kernel) rfl (by decide) ?_
      refine x_ast (np := 16) (x := 0) (kd := 1) (n := 1952) (i := (1152 + 2 * u386)) (by decide +kernel) (Or.inl rfl) (by decide +kernel) (by first | decide | omega) (by first | decide | omega) (by decide) (by decide) (fun z => absurd z (by decide)) ?_
      have j390 := jU (e := (1152 + 2 * u386)) (v := 2147483649) u386 j7 rg_76_1152_2_392 (by first | decide | omega) (by first | decide | omega) (by first | decide | omega)
      have f392 := jF (e := (1152 + 2 * u386)) (v := 2147483649) u386 f15 rg_76_1152_2_392 (by first | decide | omega) (by first | decide | omega) (by decide)
      generalize e391 : x_up h6 76 (1152 + 2 * u386) 2147483649 = h389 at j390 f392 ⊢
      refine x_aload (np := 17) (x := 0) (by decide +kernel) rfl (x_nc_le (by decide)) ?_
      have q393 : h389 75 1 = 76 := by have z := jB (e := 1) 0 j390 rg_75_1_0_1 (by decide) (by decide); omega
      refine x_getR (np := 20) (x := 705) (f := 1) (q := 76) (by decide +kernel) (by decide) (by decide +kernel) q393 ?_
      refine x_const (np := 23) (x := 9223376986804585600) (a := 2147484800) (by decide +kernel) (by decide) (by decide) ?_
      refine x_const (np := 24) (x := 9223372047592194050) (a := 2147483650) (by decide +kernel) (by decide) (by decide) ?_
      refine x_aload (np := 25) (x := 0) (by decide +kernel) rfl (x_nc_le (by decide)) ?_
      have q394 : h389 75 13 = h6 75 13 := by rw [← e391]; exact x_up_k (by decide)
      have q395 : h6 75 13 = h 75 13 := jK 0 f8 rg_75_13_0_1 (by first | decide | omega) (by first | decide | omega) (by decide)
      refine x_getC (np := 28) (x := 717) (f := 13) (q := (h 75 13)) (by decide +kernel) (by decide) (by decide +kernel) (q394.trans q395) (fun l396 => ?_)
      refine x_imul (np := 29) (x := 0) (i := 2) (j := u386) (v := (2147483648 + 2 * u386)) (by decide +kernel) (by first | decide | omega) (by first | decide | omega) (by first | decide | omega) (by first | decide | omega) (by decide) l385 ?_
      refine x_iadd (np := 30) (x := 0) (v := (2147484800 + 2 * u386)) (by decide +kernel) (by decide) (by first | decide | omega) (by first | decide | omega) (by first | decide | omega) ?_
      refine x_const (np := 31) (x := 9223372043297226753) (a := 2147483649) (by decide +kernel) (by decide) (by decide) ?_
      refine x_iadd (np := 32) (x := 0) (v := (2147484801 + 2 * u386)) (by decide +kernel) (by first | decide | omega) (by decide) (by first | decide | omega) (by first | decide | omega) ?_
      refine x_iload (np := 33) (x := 2) (by decide +kernel) rfl (by decide) ?_
      refine x_ast (np := 34) (x := 0) (kd := 1) (n := 1952) (i := (1153 + 2 * u386)) (by decide +kernel) (Or.inl rfl) (by decide +kernel) (by first | decide | omega) (by first | decide | omega) (by decide) (by decide) (fun z => absurd z (by decide)) ?_
      have j399 := jU (e := (1153 + 2 * u386)) (v := 2147483648) u386 j390 rg_76_1153_2_392 (by first | decide | omega) (by first | decide | omega) (by first | decide | omega)
      have f401 := jF (e := (1153 + 2 * u386)) (v := 2147483648) u386 f392 rg_76_1153_2_392 (by first | decide | omega) (by first | decide | omega) (by decide)
      generalize e400 : x_up h389 76 (1153 + 2 * u386) 2147483648 = h398 at j399 f401 ⊢
      refine x_aload (np := 35) (x := 0) (by decide +kernel) rfl (x_nc_le (by decide)) ?_
      refine x_dup (np := 36) (x := 0) (by decide +kernel) (by have z := x_nc_le (k := 75) (by decide); unfold x_r; omega) ?_
      have q402 : h398 75 13 = h389 75 13 := by rw [← e400]; exact x_up_k (by decide)
      have q403 : h389 75 13 = h6 75 13 := by rw [← e391]; exact x_up_k (by decide)
      have q404 : h6 75 13 = h 75 13 := jK 0 f8 rg_75_13_0_1 (by first | decide | omega) (by first | decide | omega) (by decide)
      refine x_getC (np := 39) (x := 717) (f := 13) (q := (h 75 13)) (by decide +kernel) (by decide) (by decide +kernel) ((q402.trans q403).trans q404) (fun l405 => ?_)
      refine x_const (np := 40) (x := 9223372043297226753) (a := 2147483649) (by decide +kernel) (by decide) (by decide) ?_
      refine x_iadd (np := 41) (x := 0) (v := (1 + (h 75 13))) (by decide +kernel) l385 (by decide) (by first | decide | omega) (by first | decide | omega) ?_
      refine x_putI (np := 44) (x := 717) (f := 13) (by decide +kernel) (by decide +kernel) (by first | decide | omega) (Or.inl (by decide)) ?_
      have j407 := jU (e := 13) (v := (1 + (h 75 13))) 0 j399 rg_75_13_0_1 (by first | decide | omega) (by first | decide | omega) (by first | decide | omega)
      have f409 := jF (e := 13) (v := (1 + (h 75 13))) 0 f401 rg_75_13_0_1 (by first | decide | omega) (by first | decide | omega) (by decide)
      generalize e408 : x_up h398 75 13 (1 + (h 75 13)) = h406 at j407 f409 ⊢
      refine x_retV (np := 45) (x := 0) (by decide +kernel) (by decide +kernel) ⟨rfl, ?_⟩
      have q410 : h406 75 13 = (1 + (h 75 13)) := by rw [← e408]; exact x_up_at
      refine x_iload (np := 121) (x := 1) (by decide +kernel) rfl (by decide) ?_
      refine x_ifz (k := 2) (tg := 128) (np := 124) (by decide +kernel) (by decide) (by decide) (fun q411 => ?_) (fun q412 => ?_)
      · have q411 : 2147483649 < 2147483648 := q411
        exfalso; omega
      have q412 : ¬ (2147483649 < 2147483648) := q412
      refine x_const (np := 125) (x := 9223372043297226753) (a := 2147483649) (by decide +kernel) (by decide) (by decide) ?_
      refine x_goto (np := 128) (x := 129) (by decide +kernel) ?_
      have q413 : h406 75 13 = (1 + (h 75 13)) := by rw [← e408]; exact x_up_at
      have q414 : h406 75 7 = h398 75 7 := by rw [← e408]; exact x_up_i (by first | decide | omega)
      have q415 : h398 75 7 = h389 75 7 := by rw [← e400]; exact x_up_k (by decide)
      have q416 : h389 75 7 = h6 75 7 := by rw [← e391]; exact x_up_k (by decide)
      have q417 : h406 75 7 = h398 75 7 := by rw [← e408]; exact x_up_i (by first | decide | omega)
      have q418 : h398 75 7 = h389 75 7 := by rw [← e400]; exact x_up_k (by decide)
      have q419 : h389 75 7 = h6 75 7 := by rw [← e391]; exact x_up_k (by decide)
      have q420 : h406 75 13 = (1 + (h 75 13)) := by rw [← e408]; exact x_up_at
      have k424 : Kp h h6 (h 75 13 - 2147483648) := Kp.fr Kp.refl f8 (by first | decide | omega) (by decide)
      have k423 : Kp h h389 (h 75 13 - 2147483648) := by rw [← e391]; exact Kp.up k424 (by first | decide | omega) (fun i hi => by first | decide | omega)
      have k422 : Kp h h398 (h 75 13 - 2147483648) := by rw [← e400]; exact Kp.up k423 (by first | decide | omega) (fun i hi => by first | decide | omega)
      have k421 : Kp h h406 (h 75 13 - 2147483648) := by rw [← e408]; exact Kp.oth k422 (by decide)
      have q425 : h406 75 13 = (1 + (h 75 13)) := by rw [← e408]; exact x_up_at
      have q427 : h406 76 (1152 + 2 * u386) = h398 76 (1152 + 2 * u386) := by rw [← e408]; exact x_up_k (by decide)
      have q428 : h398 76 (1152 + 2 * u386) = h389 76 (1152 + 2 * u386) := by rw [← e400]; exact x_up_i (by first | decide | omega)
      have q429 : h389 76 (1152 + 2 * u386) = 2147483649 := by rw [← e391]; exact x_up_at
      have s426 : Seg (sg h406) u386 (u386 + 1) := Seg.push (show 2147483648 ≤ h406 76 (1152 + 2 * u386) by first | decide | omega) (show h406 76 (1152 + 2 * u386) ≤ 2147483656 by first | decide | omega)
      have s430 : Seg (sg h406) (h 75 13 - 2147483648) (h406 75 13 - 2147483648) := Seg.cast (Seg.kp s426 Kp.refl) (by first | decide | omega) (by first | decide | omega)
      have w431 : ¬ Wd tB tN 2 (sk tB tN (h 75 7)) := by rw [← c13]; exact Wd.no (by decide) (Is.no c27 (by first | decide | omega)) c14
      have y432 := Is.yes c36 (by first | decide | omega)
      have w433 : Wd tB tN 27 (sk tB tN (h 75 7)) := by rw [← c13]; exact Wd.of' (by decide) y432 c14
      have q435 : h406 75 7 = h398 75 7 := by rw [← e408]; exact x_up_i (by first | decide | omega)
      have q436 : h398 75 7 = h389 75 7 := by rw [← e400]; exact x_up_k (by decide)
      have q437 : h389 75 7 = h6 75 7 := by rw [← e391]; exact x_up_k (by decide)
      have e434 : sk tB tN (h6 75 7) = sk tB tN (sk tB tN (h 75 7) + iv_tl 27) := by rw [← c13, ← y432.1]
      have q438 : h406 75 7 = h398 75 7 := by rw [← e408]; exact x_up_i (by first | decide | omega)
      have q439 : h398 75 7 = h389 75 7 := by rw [← e400]; exact x_up_k (by decide)
      have q440 : h389 75 7 = h6 75 7 := by rw [← e391]; exact x_up_k (by decide)
      refine x_retI (np := 130) (x := 0) (by decide +kernel) (by decide) (Or.inr ⟨by decide +kernel, by first | decide | omega, by first | decide | omega⟩) ⟨_, rfl, (by decide), ?_⟩
      exact ⟨j407, f409, (by first | decide | omega), (fun z => by first | decide | omega), (fun z => by first | decide | omega), (fun z => by first | decide | omega), k421, (fun _ => s430), (fun l => gP_wd (i := 27) (by unfold six; decide) w433 rfl e434 (by first | decide | omega) (congrArg (sk tB tN) (show h6 75 7 = h406 75 7 by first | decide | omega))), (fun z => absurd z (by first | decide | omega))⟩
    have q31 : ¬ (v22 = 2147483648) := q31
    have b441 := c26 (by first | decide | omega)
    refine x_const (np := 44) (x := 9223372039002259456) (a := 2147483648) (by decide +kernel) (by decide) (by decide) ?_
    refine x_goto (np := 47) (x := 113) (by decide +kernel) ?_
    refine x_istore (np := 114) (x := 1) (lo' := [x_r 75, iv_c 2147483648]) (by decide +kernel) (by decide) (Nat.le_of_ble_eq_true rfl) rfl ?_
    refine x_aload (np := 115) (x := 0) (by decide +kernel) rfl (x_nc_le (by decide)) ?_
    refine x_iload (np := 116) (x := 1) (by decide +kernel) rfl (by decide) ?_
    refine x_const (np := 117) (x := 9223372039002259456) (a := 2147483648) (by decide +kernel) (by decide) (by decide) ?_
    refine x_nV (t := 6) (mj := 187) (n := 3) (rc := 12) (ml := 3) (nr := 0) (np := 120) (as := [x_r 75, iv_c 2147483648, iv_c 2147483648]) (rest := []) (lo1 := [x_r 75, iv_c 2147483648, iv_c 2147483648]) (by decide +kernel) (by decide) (by decide +kernel) (x_rb_of (by decide +kernel)) rfl rfl (x_wr (by decide) (x_wi (by decide) (x_wi (by decide) x_wn))) x_wn (by decide) rfl ?_
    refine x_aload (np := 1) (x := 0) (by decide +kernel) rfl (x_nc_le (by decide)) ?_
    have q442 : h6 75 1 = 76 := by have z := jB (e := 1) 0 j7 rg_75_1_0_1 (by decide) (by decide); omega
    refine x_getR (np := 4) (x := 705) (f := 1) (q := 76) (by decide +kernel) (by decide) (by decide +kernel) q442 ?_
    refine x_const (np := 7) (x := 9223376986804585600) (a := 2147484800) (by decide +kernel) (by decide) (by decide) ?_
    refine x_const (np := 8) (x := 9223372047592194050) (a := 2147483650) (by decide +kernel) (by decide) (by decide) ?_
    refine x_aload (np := 9) (x := 0) (by decide +kernel) rfl (x_nc_le (by decide)) ?_
    have q443 : h6 75 13 = h 75 13 := jK 0 f8 rg_75_13_0_1 (by first | decide | omega) (by first | decide | omega) (by decide)
    refine x_getC (np := 12) (x := 717) (f := 13) (q := (h 75 13)) (by decide +kernel) (by decide) (by decide +kernel) q443 (fun l444 => ?_)
    obtain ⟨u445, q446⟩ : ∃ z, (h 75 13) = 2147483648 + z := ⟨(h 75 13) - 2147483648, by first | decide | omega⟩
    refine x_imul (np := 13) (x := 0) (i := 2) (j := u445) (v := (2147483648 + 2 * u445)) (by decide +kernel) (by first | decide | omega) (by first | decide | omega) (by first | decide | omega) (by first | decide | omega) (by decide) l444 ?_
    refine x_iadd (np := 14) (x := 0) (v := (2147484800 + 2 * u445)) (by decide +kernel) (by decide) (by first | decide | omega) (by first | decide | omega) (by first | decide | omega) ?_
    refine x_iload (np := 15) (x := 1) (by decide +kernel) rfl (by decide) ?_
    refine x_ast (np := 16) (x := 0) (kd := 1) (n := 1952) (i := (1152 + 2 * u445)) (by decide +kernel) (Or.inl rfl) (by decide +kernel) (by first | decide | omega) (by first | decide | omega) (by decide) (by decide) (fun z => absurd z (by decide)) ?_
    have j449 := jU (e := (1152 + 2 * u445)) (v := 2147483648) u445 j7 rg_76_1152_2_393 (by first | decide | omega) (by first | decide | omega) (by first | decide | omega)
    have f451 := jF (e := (1152 + 2 * u445)) (v := 2147483648) u445 f15 rg_76_1152_2_393 (by first | decide | omega) (by first | decide | omega) (by decide)
    generalize e450 : x_up h6 76 (1152 + 2 * u445) 2147483648 = h448 at j449 f451 ⊢
    refine x_aload (np := 17) (x := 0) (by decide +kernel) rfl (x_nc_le (by decide)) ?_
    have q452 : h448 75 1 = 76 := by have z := jB (e := 1) 0 j449 rg_75_1_0_1 (by decide) (by decide); omega
    refine x_getR (np := 20) (x := 705) (f := 1) (q := 76) (by decide +kernel) (by decide) (by decide +kernel) q452 ?_
    refine x_const (np := 23) (x := 9223376986804585600) (a := 2147484800) (by decide +kernel) (by decide) (by decide) ?_
    refine x_const (np := 24) (x := 9223372047592194050) (a := 2147483650) (by decide +kernel) (by decide) (by decide) ?_
    refine x_aload (np := 25) (x := 0) (by decide +kernel) rfl (x_nc_le (by decide)) ?_
    have q453 : h448 75 13 = h6 75 13 := by rw [← e450]; exact x_up_k (by decide)
    have q454 : h6 75 13 = h 75 13 := jK 0 f8 rg_75_13_0_1 (by first | decide | omega) (by first | decide | omega) (by decide)
    refine x_getC (np := 28) (x := 717) (f := 13) (q := (h 75 13)) (by decide +kernel) (by decide) (by decide +kernel) (q453.trans q454) (fun l455 => ?_)
    refine x_imul (np := 29) (x := 0) (i := 2) (j := u445) (v := (2147483648 + 2 * u445)) (by decide +kernel) (by first | decide | omega) (by first | decide | omega) (by first | decide | omega) (by first | decide | omega) (by decide) l444 ?_
    refine x_iadd (np := 30) (x := 0) (v := (2147484800 + 2 * u445)) (by decide +kernel) (by decide) (by first | decide | omega) (by first | decide | omega) (by first | decide | omega) ?_
    refine x_const (np := 31) (x := 9223372043297226753) (a := 2147483649) (by decide +kernel) (by decide) (by decide) ?_
    refine x_iadd (np := 32) (x := 0) (v := (2147484801 + 2 * u445)) (by decide +kernel) (by first | decide | omega) (by decide) (by first | decide | omega) (by first | decide | omega) ?_
    refine x_iload (np := 33) (x := 2) (by decide +kernel) rfl (by decide) ?_
    refine x_ast (np := 34) (x := 0) (kd := 1) (n := 1952) (i := (1153 + 2 * u445)) (by decide +kernel) (Or.inl rfl) (by decide +kernel) (by first | decide | omega) (by first | decide | omega) (by decide) (by decide) (fun z => absurd z (by decide)) ?_
    have j458 := jU (e := (1153 + 2 * u445)) (v := 2147483648) u445 j449 rg_76_1153_2_393 (by first | decide | omega) (by first | decide | omega) (by first | decide | omega)
    have f460 := jF (e := (1153 + 2 * u445)) (v := 2147483648) u445 f451 rg_76_1153_2_393 (by first | decide | omega) (by first | decide | omega) (by decide)
    generalize e459 : x_up h448 76 (1153 + 2 * u445) 2147483648 = h457 at j458 f460 ⊢
    refine x_aload (np := 35) (x := 0) (by decide +kernel) rfl (x_nc_le (by decide)) ?_
    refine x_dup (np := 36) (x := 0) (by decide +kernel) (by have z := x_nc_le (k := 75) (by decide); unfold x_r; omega) ?_
    have q461 : h457 75 13 = h448 75 13 := by rw [← e459]; exact x_up_k (by decide)
    have q462 : h448 75 13 = h6 75 13 := by rw [← e450]; exact x_up_k (by decide)
    have q463 : h6 75 13 = h 75 13 := jK 0 f8 rg_75_13_0_1 (by first | decide | omega) (by first | decide | omega) (by decide)
    refine x_getC (np := 39) (x := 717) (f := 13) (q := (h 75 13)) (by decide +kernel) (by decide) (by decide +kernel) ((q461.trans q462).trans q463) (fun l464 => ?_)
    refine x_const (np := 40) (x := 9223372043297226753) (a := 2147483649) (by decide +kernel) (by decide) (by decide) ?_
    refine x_iadd (np := 41) (x := 0) (v := (1 + (h 75 13))) (by decide +kernel) l444 (by decide) (by first | decide | omega) (by first | decide | omega) ?_
    refine x_putI (np := 44) (x := 717) (f := 13) (by decide +kernel) (by decide +kernel) (by first | decide | omega) (Or.inl (by decide)) ?_
    have j466 := jU (e := 13) (v := (1 + (h 75 13))) 0 j458 rg_75_13_0_1 (by first | decide | omega) (by first | decide | omega) (by first | decide | omega)
    have f468 := jF (e := 13) (v := (1 + (h 75 13))) 0 f460 rg_75_13_0_1 (by first | decide | omega) (by first | decide | omega) (by decide)
    generalize e467 : x_up h457 75 13 (1 + (h 75 13)) = h465 at j466 f468 ⊢
    refine x_retV (np := 45) (x := 0) (by decide +kernel) (by decide +kernel) ⟨rfl, ?_⟩
    have q469 : h465 75 13 = (1 + (h 75 13)) := by rw [← e467]; exact x_up_at
    refine x_iload (np := 121) (x := 1) (by decide +kernel) rfl (by decide) ?_
    refine x_ifz (k := 2) (tg := 128) (np := 124) (by decide +kernel) (by decide) (by decide) (fun q470 => ?_) (fun q471 => ?_)
    · have q470 : 2147483648 < 2147483648 := q470
      exfalso; omega
    have q471 : ¬ (2147483648 < 2147483648) := q471
    refine x_const (np := 125) (x := 9223372043297226753) (a := 2147483649) (by decide +kernel) (by decide) (by decide) ?_
    refine x_goto (np := 128) (x := 129) (by decide +kernel) ?_
    have q472 : h465 75 13 = (1 + (h 75 13)) := by rw [← e467]; exact x_up_at
    have q473 : h465 75 7 = h457 75 7 := by rw [← e467]; exact x_up_i (by first | decide | omega)
    have q474 : h457 75 7 = h448 75 7 := by rw [← e459]; exact x_up_k (by decide)
    have q475 : h448 75 7 = h6 75 7 := by rw [← e450]; exact x_up_k (by decide)
    have q476 : h465 75 7 = h457 75 7 := by rw [← e467]; exact x_up_i (by first | decide | omega)
    have q477 : h457 75 7 = h448 75 7 := by rw [← e459]; exact x_up_k (by decide)
    have q478 : h448 75 7 = h6 75 7 := by rw [← e450]; exact x_up_k (by decide)
    have q479 : h465 75 13 = (1 + (h 75 13)) := by rw [← e467]; exact x_up_at
    have k483 : Kp h h6 (h 75 13 - 2147483648) := Kp.fr Kp.refl f8 (by first | decide | omega) (by decide)
    have k482 : Kp h h448 (h 75 13 - 2147483648) := by rw [← e450]; exact Kp.up k483 (by first | decide | omega) (fun i hi => by first | decide | omega)
    have k481 : Kp h h457 (h 75 13 - 2147483648) := by rw [← e459]; exact Kp.up k482 (by first | decide | omega) (fun i hi => by first | decide | omega)
    have k480 : Kp h h465 (h 75 13 - 2147483648) := by rw [← e467]; exact Kp.oth k481 (by decide)
    have q484 : h465 75 13 = (1 + (h 75 13)) := by rw [← e467]; exact x_up_at
    have q486 : h465 76 (1152 + 2 * u445) = h457 76 (1152 + 2 * u445) := by rw [← e467]; exact x_up_k (by decide)
    have q487 : h457 76 (1152 + 2 * u445) = h448 76 (1152 + 2 * u445) := by rw [← e459]; exact x_up_i (by first | decide | omega)
    have q488 : h448 76 (1152 + 2 * u445) = 2147483648 := by rw [← e450]; exact x_up_at
    have s485 : Seg (sg h465) u445 (u445 + 1) := Seg.push (show 2147483648 ≤ h465 76 (1152 + 2 * u445) by first | decide | omega) (show h465 76 (1152 + 2 * u445) ≤ 2147483656 by first | decide | omega)
    have s489 : Seg (sg h465) (h 75 13 - 2147483648) (h465 75 13 - 2147483648) := Seg.cast (Seg.kp s485 Kp.refl) (by first | decide | omega) (by first | decide | omega)
    have y490 := Is.yes c27 (by first | decide | omega)
    have w491 : Wd tB tN 2 (sk tB tN (h 75 7)) := by rw [← c13]; exact Wd.of' (by decide) y490 c14
    have q493 : h465 75 7 = h457 75 7 := by rw [← e467]; exact x_up_i (by first | decide | omega)
    have q494 : h457 75 7 = h448 75 7 := by rw [← e459]; exact x_up_k (by decide)
    have q495 : h448 75 7 = h6 75 7 := by rw [← e450]; exact x_up_k (by decide)
    have e492 : sk tB tN (h6 75 7) = sk tB tN (sk tB tN (h 75 7) + iv_tl 2) := by rw [← c13, ← y490.1]
    have q496 : h465 75 7 = h457 75 7 := by rw [← e467]; exact x_up_i (by first | decide | omega)
    have q497 : h457 75 7 = h448 75 7 := by rw [← e459]; exact x_up_k (by decide)
    have q498 : h448 75 7 = h6 75 7 := by rw [← e450]; exact x_up_k (by decide)
    refine x_retI (np := 130) (x := 0) (by decide +kernel) (by decide) (Or.inr ⟨by decide +kernel, by first | decide | omega, by first | decide | omega⟩) ⟨_, rfl, (by decide), ?_⟩
    exact ⟨j466, f468, (by first | decide | omega), (fun z => by first | decide | omega), (fun z => by first | decide | omega), (fun z => by first | decide | omega), k480, (fun _ => s489), (fun l => gP_wd (i := 2) (by unfold six; decide) w491 rfl e492 (by first | decide | omega) (congrArg (sk tB tN) (show h6 75 7 = h465 75 7 by first | decide | omega))), (fun z => absurd z (by first | decide | omega))⟩
  have q21 : ¬ ((h6 75 7) ≠ (h6 75 9)) := q21
  refine x_aload (np := 16) (x := 0) (by decide +kernel) rfl (x_nc_le (by decide)) ?_
  refine x_const (np := 17) (x := 9223372039002259456) (a := 2147483648) (by decide +kernel) (by decide) (by decide) ?_
  refine x_const (np := 20) (x := 9223376329674589159) (a := 2147484647) (by decide +kernel) (by decide) (by decide) ?_
  have m502 := Tq.fr hT f8 (by decide) (by decide)
  refine x_cI (t := 6) (mj := 174) (n := 3) (rc := 12) (ml := 4) (nr := 0) (np := 23) (as := [x_r 75, iv_c 2147483648, iv_c 2147484647]) (rest := []) (lo1 := [x_r 75, iv_c 2147483648, iv_c 2147484647, 147573952589676412928]) (by decide +kernel) (by decide) (by decide +kernel) (x_rb_of (by decide +kernel)) rfl rfl (x_wr (by decide) (x_wi (by decide) (x_wi (by decide) x_wn))) x_wn (by decide) rfl (c174_75 j7  (by first | decide | omega) (by first | decide | omega) m502) (fun v499 h503 l500 q501 => ?_)
  obtain ⟨j504, f505, b506, c507, c508, c509, c510, c511, c512, c513⟩ := q501
  have f514 := Fr.trans f15 f505 (by decide)
  have b515 := jB (e := 7) 0 j504 rg_75_7_0_1 (by first | decide | omega) (by first | decide | omega)
  have b516 := c511 (by first | decide | omega)
  refine x_istore (np := 24) (x := 1) (lo' := [x_r 75, iv_c v499]) (by decide +kernel) l500 (Nat.le_of_ble_eq_true rfl) rfl ?_
  refine x_aload (np := 25) (x := 0) (by decide +kernel) rfl (x_nc_le (by decide)) ?_
  refine x_const (np := 27) (x := 9223372073361997832) (a := 2147483656) (by decide +kernel) (by decide) (by decide) ?_
  refine x_iload (np := 28) (x := 1) (by decide +kernel) rfl l500 ?_
  refine x_nV (t := 6) (mj := 187) (n := 3) (rc := 12) (ml := 3) (nr := 0) (np := 31) (as := [x_r 75, iv_c 2147483656, iv_c v499]) (rest := []) (lo1 := [x_r 75, iv_c 2147483656, iv_c v499]) (by decide +kernel) (by decide) (by decide +kernel) (x_rb_of (by decide +kernel)) rfl rfl (x_wr (by decide) (x_wi (by decide) (x_wi l500 x_wn))) x_wn (by decide) rfl ?_
  refine x_aload (np := 1) (x := 0) (by decide +kernel) rfl (x_nc_le (by decide)) ?_
  have q517 : h503 75 1 = 76 := by have z := jB (e := 1) 0 j504 rg_75_1_0_1 (by decide) (by decide); omega
  refine x_getR (np := 4) (x := 705) (f := 1) (q := 76) (by decide +kernel) (by decide) (by decide +kernel) q517 ?_
  refine x_const (np := 7) (x := 9223376986804585600) (a := 2147484800) (by decide +kernel) (by decide) (by decide) ?_
  refine x_const (np := 8) (x := 9223372047592194050) (a := 2147483650) (by decide +kernel) (by decide) (by decide) ?_
  refine x_aload (np := 9) (x := 0) (by decide +kernel) rfl (x_nc_le (by decide)) ?_
  have q518 : h503 75 13 = h6 75 13 := jK 0 f505 rg_75_13_0_1 (by first | decide | omega) (by first | decide | omega) (by decide)
  have q519 : h6 75 13 = h 75 13 := jK 0 f8 rg_75_13_0_1 (by first | decide | omega) (by first | decide | omega) (by decide)
  refine x_getC (np := 12) (x := 717) (f := 13) (q := (h 75 13)) (by decide +kernel) (by decide) (by decide +kernel) (q518.trans q519) (fun l520 => ?_)
  obtain ⟨u521, q522⟩ : ∃ z, (h 75 13) = 2147483648 + z := ⟨(h 75 13) - 2147483648, by first | decide | omega⟩
  refine x_imul (np := 13) (x := 0) (i := 2) (j := u521) (v := (2147483648 + 2 * u521)) (by decide +kernel) (by first | decide | omega) (by first | decide | omega) (by first | decide | omega) (by first | decide | omega) (by decide) l520 ?_
  refine x_iadd (np := 14) (x := 0) (v := (2147484800 + 2 * u521)) (by decide +kernel) (by decide) (by first | decide | omega) (by first | decide | omega) (by first | decide | omega) ?_
  refine x_iload (np := 15) (x := 1) (by decide +kernel) rfl (by decide) ?_
  refine x_ast (np := 16) (x := 0) (kd := 1) (n := 1952) (i := (1152 + 2 * u521)) (by decide +kernel) (Or.inl rfl) (by decide +kernel) (by first | decide | omega) (by first | decide | omega) (by decide) (by decide) (fun z => absurd z (by decide)) ?_
  have j525 := jU (e := (1152 + 2 * u521)) (v := 2147483656) u521 j504 rg_76_1152_2_396 (by first | decide | omega) (by first | decide | omega) (by first | decide | omega)
  have f527 := jF (e := (1152 + 2 * u521)) (v := 2147483656) u521 f514 rg_76_1152_2_396 (by first | decide | omega) (by first | decide | omega) (by decide)
  generalize e526 : x_up h503 76 (1152 + 2 * u521) 2147483656 = h524 at j525 f527 ⊢
  refine x_aload (np := 17) (x := 0) (by decide +kernel) rfl (x_nc_le (by decide)) ?_
  have q528 : h524 75 1 = 76 := by have z := jB (e := 1) 0 j525 rg_75_1_0_1 (by decide) (by decide); omega
  refine x_getR (np := 20) (x := 705) (f := 1) (q := 76) (by decide +kernel) (by decide) (by decide +kernel) q528 ?_
  refine x_const (np := 23) (x := 9223376986804585600) (a := 2147484800) (by decide +kernel) (by decide) (by decide) ?_
  refine x_const (np := 24) (x := 9223372047592194050) (a := 2147483650) (by decide +kernel) (by decide) (by decide) ?_
  refine x_aload (np := 25) (x := 0) (by decide +kernel) rfl (x_nc_le (by decide)) ?_
  have q529 : h524 75 13 = h503 75 13 := by rw [← e526]; exact x_up_k (by decide)
  have q530 : h503 75 13 = h6 75 13 := jK 0 f505 rg_75_13_0_1 (by first | decide | omega) (by first | decide | omega) (by decide)
  have q531 : h6 75 13 = h 75 13 := jK 0 f8 rg_75_13_0_1 (by first | decide | omega) (by first | decide | omega) (by decide)
  refine x_getC (np := 28) (x := 717) (f := 13) (q := (h 75 13)) (by decide +kernel) (by decide) (by decide +kernel) ((q529.trans q530).trans q531) (fun l532 => ?_)
  refine x_imul (np := 29) (x := 0) (i := 2) (j := u521) (v := (2147483648 + 2 * u521)) (by decide +kernel) (by first | decide | omega) (by first | decide | omega) (by first | decide | omega) (by first | decide | omega) (by decide) l520 ?_
  refine x_iadd (np := 30) (x := 0) (v := (2147484800 + 2 * u521)) (by decide +kernel) (by decide) (by first | decide | omega) (by first | decide | omega) (by first | decide | omega) ?_
  refine x_const (np := 31) (x := 9223372043297226753) (a := 2147483649) (by decide +kernel) (by decide) (by decide) ?_
  refine x_iadd (np := 32) (x := 0) (v := (2147484801 + 2 * u521)) (by decide +kernel) (by first | decide | omega) (by decide) (by first | decide | omega) (by first | decide | omega) ?_
  refine x_iload (np := 33) (x := 2) (by decide +kernel) rfl l500 ?_
  refine x_ast (np := 34) (x := 0) (kd := 1) (n := 1952) (i := (1153 + 2 * u521)) (by decide +kernel) (Or.inl rfl) (by decide +kernel) (by first | decide | omega) (by first | decide | omega) (by decide) l500 (fun z => absurd z (by decide)) ?_
  have j535 := jU (e := (1153 + 2 * u521)) (v := v499) u521 j525 rg_76_1153_2_396 (by first | decide | omega) (by first | decide | omega) (by first | decide | omega)
  have f537 := jF (e := (1153 + 2 * u521)) (v := v499) u521 f527 rg_76_1153_2_396 (by first | decide | omega) (by first | decide | omega) (by decide)
  generalize e536 : x_up h524 76 (1153 + 2 * u521) v499 = h534 at j535 f537 ⊢
  refine x_aload (np := 35) (x := 0) (by decide +kernel) rfl (x_nc_le (by decide)) ?_
  refine x_dup (np := 36) (x := 0) (by decide +kernel) (by have z := x_nc_le (k := 75) (by decide); unfold x_r; omega) ?_
  have q538 : h534 75 13 = h524 75 13 := by rw [← e536]; exact x_up_k (by decide)
  have q539 : h524 75 13 = h503 75 13 := by rw [← e526]; exact x_up_k (by decide)
  have q540 : h503 75 13 = h6 75 13 := jK 0 f505 rg_75_13_0_1 (by first | decide | omega) (by first | decide | omega) (by decide)
  have q541 : h6 75 13 = h 75 13 := jK 0 f8 rg_75_13_0_1 (by first | decide | omega) (by first | decide | omega) (by decide)
  refine x_getC (np := 39) (x := 717) (f := 13) (q := (h 75 13)) (by decide +kernel) (by decide) (by decide +kernel) (((q538.trans q539).trans q540).trans q541) (fun l542 => ?_)
  refine x_const (np := 40) (x := 9223372043297226753) (a := 2147483649) (by decide +kernel) (by decide) (by decide) ?_
  refine x_iadd (np := 41) (x := 0) (v := (1 + (h 75 13))) (by decide +kernel) l520 (by decide) (by first | decide | omega) (by first | decide | omega) ?_
  refine x_putI (np := 44) (x := 717) (f := 13) (by decide +kernel) (by decide +kernel) (by first | decide | omega) (Or.inl (by decide)) ?_
  have j544 := jU (e := 13) (v := (1 + (h 75 13))) 0 j535 rg_75_13_0_1 (by first | decide | omega) (by first | decide | omega) (by first | decide | omega)
  have f546 := jF (e := 13) (v := (1 + (h 75 13))) 0 f537 rg_75_13_0_1 (by first | decide | omega) (by first | decide | omega) (by decide)
  generalize e545 : x_up h534 75 13 (1 + (h 75 13)) = h543 at j544 f546 ⊢
  refine x_retV (np := 45) (x := 0) (by decide +kernel) (by decide +kernel) ⟨rfl, ?_⟩
  have q547 : h543 75 13 = (1 + (h 75 13)) := by rw [← e545]; exact x_up_at
  refine x_goto (np := 34) (x := 120) (by decide +kernel) ?_
  refine x_iload (np := 121) (x := 1) (by decide +kernel) rfl l500 ?_
  refine x_ifz (k := 2) (tg := 128) (np := 124) (by decide +kernel) (by decide) l500 (fun q548 => ?_) (fun q549 => ?_)
  · have q548 : v499 < 2147483648 := q548
    refine x_const (np := 129) (x := 9223372039002259456) (a := 2147483648) (by decide +kernel) (by decide) (by decide) ?_
    have q550 : h543 75 13 = (1 + (h 75 13)) := by rw [← e545]; exact x_up_at
    have q551 : h543 75 7 = h534 75 7 := by rw [← e545]; exact x_up_i (by first | decide | omega)
    have q552 : h534 75 7 = h524 75 7 := by rw [← e536]; exact x_up_k (by decide)
    have q553 : h524 75 7 = h503 75 7 := by rw [← e526]; exact x_up_k (by decide)
    have q554 : h543 75 7 = h534 75 7 := by rw [← e545]; exact x_up_i (by first | decide | omega)
    have q555 : h534 75 7 = h524 75 7 := by rw [← e536]; exact x_up_k (by decide)
    have q556 : h524 75 7 = h503 75 7 := by rw [← e526]; exact x_up_k (by decide)
    have q557 : h543 75 13 = (1 + (h 75 13)) := by rw [← e545]; exact x_up_at
    have k562 : Kp h h6 (h 75 13 - 2147483648) := Kp.fr Kp.refl f8 (by first | decide | omega) (by decide)
    have k561 : Kp h h503 (h 75 13 - 2147483648) := Kp.fr k562 f505 (by first | decide | omega) (by decide)
    have k560 : Kp h h524 (h 75 13 - 2147483648) := by rw [← e526]; exact Kp.up k561 (by first | decide | omega) (fun i hi => by first | decide | omega)
    have k559 : Kp h h534 (h 75 13 - 2147483648) := by rw [← e536]; exact Kp.up k560 (by first | decide | omega) (fun i hi => by first | decide | omega)
    have k558 : Kp h h543 (h 75 13 - 2147483648) := by rw [← e545]; exact Kp.oth k559 (by decide)
    have e563 : sk tB tN (h6 75 7) = sk tB tN (h 75 7) := (congrArg (sk tB tN) ((show h6 75 7 = h6 75 9 by first | decide | omega).trans c13)).trans sk_idem
    have n564 : ¬ Ltr tB tN (sk tB tN (h 75 7)) := by rw [← c13, show h6 75 9 = h6 75 7 by first | decide | omega, c14]; exact le9_end
    have e565 : sk tB tN (h6 75 7) = sk tB tN (h 75 7) := (congrArg (sk tB tN) ((show h6 75 7 = h6 75 9 by first | decide | omega).trans c13)).trans sk_idem
    have n566 : ¬ Ltr tB tN (sk tB tN (h 75 7)) := by rw [← c13, show h6 75 9 = h6 75 7 by first | decide | omega, c14]; exact le9_end
    have q567 : h543 75 9 = h534 75 9 := by rw [← e545]; exact x_up_i (by first | decide | omega)
    have q568 : h534 75 9 = h524 75 9 := by rw [← e536]; exact x_up_k (by decide)
    have q569 : h524 75 9 = h503 75 9 := by rw [← e526]; exact x_up_k (by decide)
    have b570 := jB (e := 9) 0 j504 rg_75_9_0_1 (by first | decide | omega) (by first | decide | omega)
    have e571 : sk tB tN (h6 75 7) = sk tB tN (h 75 7) := (congrArg (sk tB tN) ((show h6 75 7 = h6 75 9 by first | decide | omega).trans c13)).trans sk_idem
    refine x_retI (np := 130) (x := 0) (by decide +kernel) (by decide) (Or.inr ⟨by decide +kernel, by first | decide | omega, by first | decide | omega⟩) ⟨_, rfl, (by decide), ?_⟩
    exact ⟨j544, f546, (by first | decide | omega), (fun z => by first | decide | omega), (fun z => by first | decide | omega), (fun z => by first | decide | omega), k558, (fun z => absurd z (by first | decide | omega)), (fun l => gP_nol (Nr.nb (Nr.cast c512 e563) (by first | decide | omega)) n564 (by first | decide | omega)), (fun _ l => fP_nol (Nr.nb (Nr.cast c512 e565) (by first | decide | omega)) n566 (Eq.trans (Eq.trans (show h543 75 9 = h503 75 9 by first | decide | omega) c513) e571))⟩
  have q549 : ¬ (v499 < 2147483648) := q549
  have b572 := c508 (by first | decide | omega)
  have b573 := c509 (by first | decide | omega)
  have b574 := c510 (by first | decide | omega)
  refine x_const (np := 125) (x := 9223372043297226753) (a := 2147483649) (by decide +kernel) (by decide) (by decide) ?_
  refine x_goto (np := 128) (x := 129) (by decide +kernel) ?_
  have q575 : h543 75 13 = (1 + (h 75 13)) := by rw [← e545]; exact x_up_at
  have q576 : h543 75 7 = h534 75 7 := by rw [← e545]; exact x_up_i (by first | decide | omega)
  have q577 : h534 75 7 = h524 75 7 := by rw [← e536]; exact x_up_k (by decide)
  have q578 : h524 75 7 = h503 75 7 := by rw [← e526]; exact x_up_k (by decide)
  have q579 : h543 75 7 = h534 75 7 := by rw [← e545]; exact x_up_i (by first | decide | omega)
  have q580 : h534 75 7 = h524 75 7 := by rw [← e536]; exact x_up_k (by decide)
  have q581 : h524 75 7 = h503 75 7 := by rw [← e526]; exact x_up_k (by decide)
  have q582 : h543 75 13 = (1 + (h 75 13)) := by rw [← e545]; exact x_up_at
  have k587 : Kp h h6 (h 75 13 - 2147483648) := Kp.fr Kp.refl f8 (by first | decide | omega) (by decide)
  have k586 : Kp h h503 (h 75 13 - 2147483648) := Kp.fr k587 f505 (by first | decide | omega) (by decide)
  have k585 : Kp h h524 (h 75 13 - 2147483648) := by rw [← e526]; exact Kp.up k586 (by first | decide | omega) (fun i hi => by first | decide | omega)
  have k584 : Kp h h534 (h 75 13 - 2147483648) := by rw [← e536]; exact Kp.up k585 (by first | decide | omega) (fun i hi => by first | decide | omega)
  have k583 : Kp h h543 (h 75 13 - 2147483648) := by rw [← e545]; exact Kp.oth k584 (by decide)
  have q588 : h543 75 13 = (1 + (h 75 13)) := by rw [← e545]; exact x_up_at
  have q590 : h543 76 (1152 + 2 * u521) = h534 76 (1152 + 2 * u521) := by rw [← e545]; exact x_up_k (by decide)
  have q591 : h534 76 (1152 + 2 * u521) = h524 76 (1152 + 2 * u521) := by rw [← e536]; exact x_up_i (by first | decide | omega)
  have q592 : h524 76 (1152 + 2 * u521) = 2147483656 := by rw [← e526]; exact x_up_at
  have s589 : Seg (sg h543) u521 (u521 + 1) := Seg.push (show 2147483648 ≤ h543 76 (1152 + 2 * u521) by first | decide | omega) (show h543 76 (1152 + 2 * u521) ≤ 2147483656 by first | decide | omega)
  have s593 : Seg (sg h543) (h 75 13 - 2147483648) (h543 75 13 - 2147483648) := Seg.cast (Seg.kp s589 Kp.refl) (by first | decide | omega) (by first | decide | omega)
  have e594 : sk tB tN (h6 75 7) = sk tB tN (h 75 7) := (congrArg (sk tB tN) ((show h6 75 7 = h6 75 9 by first | decide | omega).trans c13)).trans sk_idem
  have q595 : h543 75 7 = h534 75 7 := by rw [← e545]; exact x_up_i (by first | decide | omega)
  have q596 : h534 75 7 = h524 75 7 := by rw [← e536]; exact x_up_k (by decide)
  have q597 : h524 75 7 = h503 75 7 := by rw [← e526]; exact x_up_k (by decide)
  refine x_retI (np := 130) (x := 0) (by decide +kernel) (by decide) (Or.inr ⟨by decide +kernel, by first | decide | omega, by first | decide | omega⟩) ⟨_, rfl, (by decide), ?_⟩
  exact ⟨j544, f546, (by first | decide | omega), (fun z => by first | decide | omega), (fun z => by first | decide | omega), (fun z => by first | decide | omega), k583, (fun _ => s593), (fun l => gP_num c512 e594 (by first | decide | omega) (by first | decide | omega) (congrArg (sk tB tN) (show h503 75 7 = h543 75 7 by first | decide | omega))), (fun z => absurd z (by first | decide | omega))⟩
