/-! ===== methods ===== -/
set_option maxHeartbeats 0 in
/-- LentNamesModel.readTownLine()Z -/
theorem c186_75 {sc : Nat × Nat} {d  : Nat} {h : xh} {tB : Nat → Nat} {tN : Nat} (hJ : J h) (hC : Cl h) (hT : Tq tB tN h) (hp0 : h 75 7 = le9 tB tN (h 75 9)) : X sc 186 (d + 7) (xI fun r h' => J h' ∧ Fr 16140901064769536001 h h' ∧ (2147483648 ≤ r ∧ r ≤ 2147483649) ∧ (r = 2147483649 → h' 78 0 = h 78 0) ∧ (r = 2147483649 → h' 78 1 = h 78 1) ∧ (r = 2147483649 → Cl h') ∧ line9 tB tN (h 76 0) (h 78 2) (h 78 3) (h 78 4) (h 78 5) (h 75 9) (rs5 r (sk tB tN (h' 75 7)) (h' 78 2) (h' 78 3) (h' 78 4) (h' 78 5)) ∧ (r = 2147483649 → Wl (wdr h) (wdr h') (h 78 3) (h' 78 3)) ∧ (r = 2147483649 → Lx tB tN (h 76 0) (h 75 9) (xd h) (xd h')) ∧ (r = 2147483649 → Sl tB tN (h 76 0) (h 78 5) (h 75 9) (ab (adr h) (bdr h)) (ab (adr h') (bdr h')))) 0 0 0 [x_r 75] [] h := by
  have hF := Fr.refl 16140901064769536001 h
  refine x_aload (np := 1) (x := 0) (by decide +kernel) rfl (x_nc_le (by decide)) ?_
  refine x_ldcB (i := 0) (idx := 183) (tx := "lend") (by rw [tb_y186]; exact List.mem_of_getElem? (i := 35) rfl) (by decide) (by rw [tb_b186]; decide +kernel) ?_
  refine x_cP (t := 6) (mj := 170) (n := 2) (rc := 12) (ml := 4) (nr := 0) (np := 6) (as := [x_r 75, x_b (0 + 1)]) (rest := []) (lo1 := [x_r 75, x_b (0 + 1), 147573952589676412928, 147573952589676412928]) (by decide +kernel) (by decide) (by decide +kernel) (x_rb_of (by decide +kernel)) rfl rfl (x_wr (by decide) (x_wB (by decide) x_wn)) x_wn (by decide) rfl (c170_75_S0 hJ  (by decide) hT) (fun v1 l2 q3 => ?_)
  obtain ⟨b6, c4, c5⟩ := q3
  have b7 := jB (e := 7) 0 hJ rg_75_7_0_1 (by first | decide | omega) (by first | decide | omega)
  have b8 := jB (e := 9) 0 hJ rg_75_9_0_1 (by first | decide | omega) (by first | decide | omega)
  have b9 : iv_tl 0 = 4 := by decide
  refine x_ifz (k := 0) (tg := 14) (np := 9) (by decide +kernel) (by decide) l2 (fun q10 => ?_) (fun q11 => ?_)
  · have q10 : v1 = 2147483648 := q10
    refine x_aload (np := 15) (x := 0) (by decide +kernel) rfl (x_nc_le (by decide)) ?_
    refine x_ldcB (i := 17) (idx := 189) (tx := "late") (by rw [tb_y186]; exact List.mem_of_getElem? (i := 41) rfl) (by decide) (by rw [tb_b186]; decide +kernel) ?_
    refine x_cP (t := 6) (mj := 170) (n := 2) (rc := 12) (ml := 4) (nr := 0) (np := 20) (as := [x_r 75, x_b (17 + 1)]) (rest := []) (lo1 := [x_r 75, x_b (17 + 1), 147573952589676412928, 147573952589676412928]) (by decide +kernel) (by decide) (by decide +kernel) (x_rb_of (by decide +kernel)) rfl rfl (x_wr (by decide) (x_wB (by decide) x_wn)) x_wn (by decide) rfl (c170_75_S0 hJ  (by decide) hT) (fun v12 l13 q14 => ?_)
    obtain ⟨b17, c15, c16⟩ := q14
    have b18 : iv_tl 17 = 4 := by decide
    refine x_ifz (k := 0) (tg := 28) (np := 23) (by decide +kernel) (by decide) l13 (fun q19 => ?_) (fun q20 => ?_)
    · have q19 : v12 = 2147483648 := q19
      refine x_aload (np := 29) (x := 0) (by decide +kernel) rfl (x_nc_le (by decide)) ?_
      refine x_ldcB (i := 19) (idx := 194) (tx := "dies") (by rw [tb_y186]; exact List.mem_of_getElem? (i := 43) rfl) (by decide) (by rw [tb_b186]; decide +kernel) ?_
      refine x_cP (t := 6) (mj := 170) (n := 2) (rc := 12) (ml := 4) (nr := 0) (np := 34) (as := [x_r 75, x_b (19 + 1)]) (rest := []) (lo1 := [x_r 75, x_b (19 + 1), 147573952589676412928, 147573952589676412928]) (by decide +kernel) (by decide) (by decide +kernel) (x_rb_of (by decide +kernel)) rfl rfl (x_wr (by decide) (x_wB (by decide) x_wn)) x_wn (by decide) rfl (c170_75_S0 hJ  (by decide) hT) (fun v21 l22 q23 => ?_)
      obtain ⟨b26, c24, c25⟩ := q23
      have b27 : iv_tl 19 = 4 := by decide
      refine x_ifz (k := 0) (tg := 42) (np := 37) (by decide +kernel) (by decide) l22 (fun q28 => ?_) (fun q29 => ?_)
      · have q28 : v21 = 2147483648 := q28
        refine x_aload (np := 43) (x := 0) (by decide +kernel) rfl (x_nc_le (by decide)) ?_
        refine x_ldcB (i := 20) (idx := 199) (tx := "court") (by rw [tb_y186]; exact List.mem_of_getElem? (i := 44) rfl) (by decide) (by rw [tb_b186]; decide +kernel) ?_
        refine x_cP (t := 6) (mj := 170) (n := 2) (rc := 12) (ml := 4) (nr := 0) (np := 48) (as := [x_r 75, x_b (20 + 1)]) (rest := []) (lo1 := [x_r 75, x_b (20 + 1), 147573952589676412928, 147573952589676412928]) (by decide +kernel) (by decide) (by decide +kernel) (x_rb_of (by decide +kernel)) rfl rfl (x_wr (by decide) (x_wB (by decide) x_wn)) x_wn (by decide) rfl (c170_75_S0 hJ  (by decide) hT) (fun v30 l31 q32 => ?_)
        obtain ⟨b35, c33, c34⟩ := q32
        have b36 : iv_tl 20 = 5 := by decide
        refine x_ifz (k := 0) (tg := 56) (np := 51) (by decide +kernel) (by decide) l31 (fun q37 => ?_) (fun q38 => ?_)
        · have q37 : v30 = 2147483648 := q37
          refine x_aload (np := 57) (x := 0) (by decide +kernel) rfl (x_nc_le (by decide)) ?_
          refine x_ldcB (i := 6) (idx := 204) (tx := "letter") (by rw [tb_y186]; exact List.mem_of_getElem? (i := 45) rfl) (by decide) (by rw [tb_b186]; decide +kernel) ?_
          refine x_cP (t := 6) (mj := 170) (n := 2) (rc := 12) (ml := 4) (nr := 0) (np := 62) (as := [x_r 75, x_b (6 + 1)]) (rest := []) (lo1 := [x_r 75, x_b (6 + 1), 147573952589676412928, 147573952589676412928]) (by decide +kernel) (by decide) (by decide +kernel) (x_rb_of (by decide +kernel)) rfl rfl (x_wr (by decide) (x_wB (by decide) x_wn)) x_wn (by decide) rfl (c170_75_S0 hJ  (by decide) hT) (fun v39 l40 q41 => ?_)
          obtain ⟨b44, c42, c43⟩ := q41
          have b45 : iv_tl 6 = 6 := by decide
          refine x_ifz (k := 0) (tg := 70) (np := 65) (by decide +kernel) (by decide) l40 (fun q46 => ?_) (fun q47 => ?_)
          · have q46 : v39 = 2147483648 := q46
            refine x_aload (np := 71) (x := 0) (by decide +kernel) rfl (x_nc_le (by decide)) ?_
            refine x_ldcB (i := 8) (idx := 209) (tx := "debt") (by rw [tb_y186]; exact List.mem_of_getElem? (i := 47) rfl) (by decide) (by rw [tb_b186]; decide +kernel) ?_
            refine x_cP (t := 6) (mj := 170) (n := 2) (rc := 12) (ml := 4) (nr := 0) (np := 76) (as := [x_r 75, x_b (8 + 1)]) (rest := []) (lo1 := [x_r 75, x_b (8 + 1), 147573952589676412928, 147573952589676412928]) (by decide +kernel) (by decide) (by decide +kernel) (x_rb_of (by decide +kernel)) rfl rfl (x_wr (by decide) (x_wB (by decide) x_wn)) x_wn (by decide) rfl (c170_75_S0 hJ  (by decide) hT) (fun v48 l49 q50 => ?_)
            obtain ⟨b53, c51, c52⟩ := q50
            have b54 : iv_tl 8 = 4 := by decide
            refine x_ifz (k := 0) (tg := 84) (np := 79) (by decide +kernel) (by decide) l49 (fun q55 => ?_) (fun q56 => ?_)
            · have q55 : v48 = 2147483648 := q55
              refine x_aload (np := 85) (x := 0) (by decide +kernel) rfl (x_nc_le (by decide)) ?_
              refine x_ldcB (i := 13) (idx := 214) (tx := "seen") (by rw [tb_y186]; exact List.mem_of_getElem? (i := 52) rfl) (by decide) (by rw [tb_b186]; decide +kernel) ?_
              refine x_cP (t := 6) (mj := 170) (n := 2) (rc := 12) (ml := 4) (nr := 0) (np := 90) (as := [x_r 75, x_b (13 + 1)]) (rest := []) (lo1 := [x_r 75, x_b (13 + 1), 147573952589676412928, 147573952589676412928]) (by decide +kernel) (by decide) (by decide +kernel) (x_rb_of (by decide +kernel)) rfl rfl (x_wr (by decide) (x_wB (by decide) x_wn)) x_wn (by decide) rfl (c170_75_S0 hJ  (by decide) hT) (fun v57 l58 q59 => ?_)
              obtain ⟨b62, c60, c61⟩ := q59
              have b63 : iv_tl 13 = 4 := by decide
              refine x_ifz (k := 0) (tg := 104) (np := 93) (by decide +kernel) (by decide) l58 (fun q64 => ?_) (fun q65 => ?_)
              · have q64 : v57 = 2147483648 := q64
                refine x_const (np := 105) (x := 9223372039002259456) (a := 2147483648) (by decide +kernel) (by decide) (by decide) ?_
                have b66 := jB (e := 0) 0 hJ rg_78_0_0_1 (by first | decide | omega) (by first | decide | omega)
                have b67 := jB (e := 0) 0 hJ rg_76_0_0_1 (by first | decide | omega) (by first | decide | omega)
                have b68 := jB (e := 2) 0 hJ rg_78_2_0_1 (by first | decide | omega) (by first | decide | omega)
                have b69 := jB (e := 3) 0 hJ rg_78_3_0_1 (by first | decide | omega) (by first | decide | omega)
                have b70 := jB (e := 4) 0 hJ rg_78_4_0_1 (by first | decide | omega) (by first | decide | omega)
                have b71 := jB (e := 5) 0 hJ rg_78_5_0_1 (by first | decide | omega) (by first | decide | omega)
                refine x_retI (np := 106) (x := 0) (by decide +kernel) (by decide) (Or.inr ⟨by decide +kernel, by first | decide | omega, by first | decide | omega⟩) ⟨_, rfl, (by decide), ?_⟩
                exact ⟨hJ, hF, (by first | decide | omega), (fun z => by first | decide | omega), (fun z => by first | decide | omega), (fun z => absurd z (by first | decide | omega)), (l9_no (Wd.no (by decide) (Is.no c5 (by first | decide | omega)) hp0) (Wd.no (by decide) (Is.no c43 (by first | decide | omega)) hp0) (Wd.no (by decide) (Is.no c52 (by first | decide | omega)) hp0) (Wd.no (by decide) (Is.no c61 (by first | decide | omega)) hp0) (Wd.no (by decide) (Is.no c16 (by first | decide | omega)) hp0) (Wd.no (by decide) (Is.no c25 (by first | decide | omega)) hp0) (Wd.no (by decide) (Is.no c34 (by first | decide | omega)) hp0) (by first | decide | omega)), (fun z => absurd z (by first | decide | omega)), (fun z => absurd z (by first | decide | omega)), (fun z => absurd z (by first | decide | omega))⟩
              have q65 : ¬ (v57 = 2147483648) := q65
              have b72 := c60 (by first | decide | omega)
              refine x_aload (np := 94) (x := 0) (by decide +kernel) rfl (x_nc_le (by decide)) ?_
              refine x_cI (t := 6) (mj := 185) (n := 1) (rc := 12) (ml := 4) (nr := 0) (np := 97) (as := [x_r 75]) (rest := []) (lo1 := [x_r 75, 147573952589676412928, 147573952589676412928, 147573952589676412928]) (by decide +kernel) (by decide) (by decide +kernel) (x_rb_of (by decide +kernel)) rfl rfl (x_wr (by decide) x_wn) x_wn (by decide) rfl (c185_75 hJ  hC hT) (fun v73 h76 l74 q75 => ?_)
              obtain ⟨j77, f78, b79, c80, c81, c82, c83, c84, c85, c86, c87, c88⟩ := q75
              have f89 := Fr.trans hF f78 (by decide)
              have b90 := jB (e := 0) 0 hJ rg_78_0_0_1 (by first | decide | omega) (by first | decide | omega)
              have b91 := jB (e := 0) 0 j77 rg_78_0_0_1 (by first | decide | omega) (by first | decide | omega)
              have b92 := jB (e := 2) 0 hJ rg_78_2_0_1 (by first | decide | omega) (by first | decide | omega)
              have b93 := jB (e := 2) 0 j77 rg_78_2_0_1 (by first | decide | omega) (by first | decide | omega)
              have b94 := jB (e := 3) 0 hJ rg_78_3_0_1 (by first | decide | omega) (by first | decide | omega)
              have b95 := jB (e := 3) 0 j77 rg_78_3_0_1 (by first | decide | omega) (by first | decide | omega)
              have b96 := jB (e := 4) 0 hJ rg_78_4_0_1 (by first | decide | omega) (by first | decide | omega)
              have b97 := jB (e := 4) 0 j77 rg_78_4_0_1 (by first | decide | omega) (by first | decide | omega)
              have b98 := jB (e := 5) 0 hJ rg_78_5_0_1 (by first | decide | omega) (by first | decide | omega)
              have b99 := jB (e := 5) 0 j77 rg_78_5_0_1 (by first | decide | omega) (by first | decide | omega)
              refine x_ifz (k := 0) (tg := 104) (np := 100) (by decide +kernel) (by decide) l74 (fun q100 => ?_) (fun q101 => ?_)
              · have q100 : v73 = 2147483648 := q100
                refine x_const (np := 105) (x := 9223372039002259456) (a := 2147483648) (by decide +kernel) (by decide) (by decide) ?_
                have b102 := jB (e := 0) 0 hJ rg_76_0_0_1 (by first | decide | omega) (by first | decide | omega)
                have y103 := Is.yes c61 (by first | decide | omega)
                have k104 : line9 tB tN (h 76 0) (h 78 2) (h 78 3) (h 78 4) (h 78 5) (h 75 9) (rs5 2147483648 (sk tB tN (h76 75 7)) (h76 78 2) (h76 78 3) (h76 78 4) (h76 78 5)) := by
                  rcases c87 with ⟨z1, z2⟩ | ⟨z1, z2⟩
                  · exact l9_seen0 (Wd.of' (by decide) y103 hp0) rfl (by first | decide | omega) (by first | decide | omega)
                  · exact l9_seen (Wd.of' (by decide) y103 hp0) rfl (by first | decide | omega) (congrArg (sk tB tN) y103.1) rfl z2 (by first | decide | omega) (by first | decide | omega) (fun z => by have y0 := c80 z; have y1 := c81 z; have y2 := c82 z; have y3 := c83 z; have y4 := c84 z; have y5 := c85 z; exact ⟨rfl, by first | decide | omega, by first | decide | omega, by first | decide | omega, by first | decide | omega⟩)
                refine x_retI (np := 106) (x := 0) (by decide +kernel) (by decide) (Or.inr ⟨by decide +kernel, by first | decide | omega, by first | decide | omega⟩) ⟨_, rfl, (by decide), ?_⟩
                exact ⟨j77, f89, (by first | decide | omega), (fun z => by first | decide | omega), (fun z => by first | decide | omega), (fun z => absurd z (by first | decide | omega)), k104, (fun z => absurd z (by first | decide | omega)), (fun z => absurd z (by first | decide | omega)), (fun z => absurd z (by first | decide | omega))⟩
              have q101 : ¬ (v73 = 2147483648) := q101
              have b106 := c80 (by first | decide | omega)
              have b107 := c81 (by first | decide | omega)
              have b108 := c82 (by first | decide | omega)
              have b109 := c83 (by first | decide | omega)
              have b110 := c84 (by first | decide | omega)
              have b111 := c85 (by first | decide | omega)
              have m112 := c86 (by first | decide | omega)
              refine x_const (np := 101) (x := 9223372043297226753) (a := 2147483649) (by decide +kernel) (by decide) (by decide) ?_
              refine x_goto (np := 104) (x := 105) (by decide +kernel) ?_
              have b113 := jB (e := 0) 0 hJ rg_76_0_0_1 (by first | decide | omega) (by first | decide | omega)
              have y114 := Is.yes c61 (by first | decide | omega)
              have k115 : line9 tB tN (h 76 0) (h 78 2) (h 78 3) (h 78 4) (h 78 5) (h 75 9) (rs5 2147483649 (sk tB tN (h76 75 7)) (h76 78 2) (h76 78 3) (h76 78 4) (h76 78 5)) := by
                rcases c87 with ⟨z1, z2⟩ | ⟨z1, z2⟩
                · exact l9_seen0 (Wd.of' (by decide) y114 hp0) rfl (by first | decide | omega) (by first | decide | omega)
                · exact l9_seen (Wd.of' (by decide) y114 hp0) rfl (by first | decide | omega) (congrArg (sk tB tN) y114.1) rfl z2 (by first | decide | omega) (by first | decide | omega) (fun z => by have y0 := c80 z; have y1 := c81 z; have y2 := c82 z; have y3 := c83 z; have y4 := c84 z; have y5 := c85 z; exact ⟨rfl, by first | decide | omega, by first | decide | omega, by first | decide | omega, by first | decide | omega⟩)
              have m117 : ∀ u, u < 10 → wdr h76 u = wdr h u := fun u hu => (wdr_gr f78 (by decide) u hu)
              have y118 := Is.yes c61 (by first | decide | omega)
              have m119 : ∀ u, u < 6 → xd h76 u = xd h u := fun u hu => (xd_gr f78 (by decide) u hu)
              have y120 := Is.yes c61 (by first | decide | omega)
              have z121 : h 78 5 < 2147483658 := by
                rcases c87 with ⟨y1, y2⟩ | ⟨y1, y2⟩
                · omega
                · omega
              refine x_retI (np := 106) (x := 0) (by decide +kernel) (by decide) (Or.inr ⟨by decide +kernel, by first | decide | omega, by first | decide | omega⟩) ⟨_, rfl, (by decide), ?_⟩
              exact ⟨j77, f89, (by first | decide | omega), (fun z => by first | decide | omega), (fun z => by first | decide | omega), (fun _ => m112), k115, (fun z => by have y := c83 (by first | decide | omega); exact Wl.refl (by first | decide | omega) m117), (fun _ => Lx.oth (Wd.of' (by decide) y118 hp0) rfl (by decide) (by decide) m119), (fun _ => (Sl.seen (Wd.of' (by decide) y120 hp0) rfl z121 (congrArg (sk tB tN) y120.1) rfl (Sx.cst (pe' := h 76 0) (s' := h 78 5) (c88 (by first | decide | omega)) (by first | decide | omega) (by first | decide | omega))).mp (ab2 (fun _ _ => rfl) (fun _ _ => rfl)) (ab2 (fun _ _ => rfl) (fun _ _ => rfl)))⟩
            have q56 : ¬ (v48 = 2147483648) := q56
            have b122 := c51 (by first | decide | omega)
            refine x_aload (np := 80) (x := 0) (by decide +kernel) rfl (x_nc_le (by decide)) ?_
            refine x_cI (t := 6) (mj := 184) (n := 1) (rc := 12) (ml := 2) (nr := 0) (np := 83) (as := [x_r 75]) (rest := []) (lo1 := [x_r 75, 147573952589676412928]) (by decide +kernel) (by decide) (by decide +kernel) (x_rb_of (by decide +kernel)) rfl rfl (x_wr (by decide) x_wn) x_wn (by decide) rfl (c184_75 hJ  hC hT) (fun v123 h126 l124 q125 => ?_)
            obtain ⟨j127, f128, b129, c130, c131, c132, c133, c134, c135, c136, c137⟩ := q125
            have f138 := Fr.trans hF f128 (by decide)
            have b139 := jB (e := 0) 0 hJ rg_78_0_0_1 (by first | decide | omega) (by first | decide | omega)
            have b140 := jB (e := 0) 0 j127 rg_78_0_0_1 (by first | decide | omega) (by first | decide | omega)
            have b141 := jB (e := 2) 0 hJ rg_78_2_0_1 (by first | decide | omega) (by first | decide | omega)
            have b142 := jB (e := 2) 0 j127 rg_78_2_0_1 (by first | decide | omega) (by first | decide | omega)
            have b143 := jB (e := 3) 0 hJ rg_78_3_0_1 (by first | decide | omega) (by first | decide | omega)
            have b144 := jB (e := 3) 0 j127 rg_78_3_0_1 (by first | decide | omega) (by first | decide | omega)
            have b145 := jB (e := 4) 0 hJ rg_78_4_0_1 (by first | decide | omega) (by first | decide | omega)
            have b146 := jB (e := 4) 0 j127 rg_78_4_0_1 (by first | decide | omega) (by first | decide | omega)
            have b147 := jB (e := 5) 0 hJ rg_78_5_0_1 (by first | decide | omega) (by first | decide | omega)
            have b148 := jB (e := 5) 0 j127 rg_78_5_0_1 (by first | decide | omega) (by first | decide | omega)
            have b149 := jB (e := 0) 0 hJ rg_76_0_0_1 (by first | decide | omega) (by first | decide | omega)
            have y150 := Is.yes c52 (by first | decide | omega)
            have k151 : line9 tB tN (h 76 0) (h 78 2) (h 78 3) (h 78 4) (h 78 5) (h 75 9) (rs5 v123 (sk tB tN (h126 75 7)) (h126 78 2) (h126 78 3) (h126 78 4) (h126 78 5)) := by
              rcases c137 with ⟨z1, z2⟩ | ⟨z1, z2⟩
              · exact l9_debt0 (Wd.of' (by decide) y150 hp0) rfl (by first | decide | omega) (by first | decide | omega)
              · exact l9_debt (Wd.of' (by decide) y150 hp0) rfl (by first | decide | omega) (congrArg (sk tB tN) y150.1) rfl z2 (by first | decide | omega) (by first | decide | omega) (fun z => by have y0 := c130 z; have y1 := c131 z; have y2 := c132 z; have y3 := c133 z; have y4 := c134 z; have y5 := c135 z; exact ⟨rfl, by first | decide | omega, by first | decide | omega, by first | decide | omega, by first | decide | omega⟩)
            have m153 : ∀ u, u < 10 → wdr h126 u = wdr h u := fun u hu => (wdr_gr f128 (by decide) u hu)
            have y154 := Is.yes c52 (by first | decide | omega)
            have m155 : ∀ u, u < 6 → xd h126 u = xd h u := fun u hu => (xd_gr f128 (by decide) u hu)
            have y156 := Is.yes c52 (by first | decide | omega)
            have m157 : ∀ u, u < 10 → adr h126 u = adr h u := fun u hu => (adr_gr f128 (by decide) u hu)
            have m158 : ∀ u, u < 10 → bdr h126 u = bdr h u := fun u hu => (bdr_gr f128 (by decide) u hu)
            refine x_retI (np := 84) (x := 0) (by decide +kernel) l124 (Or.inr ⟨by decide +kernel, by first | decide | omega, by first | decide | omega⟩) ⟨_, rfl, l124, ?_⟩
            exact ⟨j127, f138, (by first | decide | omega), (fun z => by first | decide | omega), (fun z => by first | decide | omega), (fun z => c136 (by first | decide | omega)), k151, (fun z => by have y := c133 (by first | decide | omega); exact Wl.refl (by first | decide | omega) m153), (fun _ => Lx.oth (Wd.of' (by decide) y154 hp0) rfl (by decide) (by decide) m155), (fun _ => Sl.oth (Wd.of' (by decide) y156 hp0) rfl (by decide) (by decide) (ab2 m157 m158))⟩
          have q47 : ¬ (v39 = 2147483648) := q47
          have b159 := c42 (by first | decide | omega)
          refine x_aload (np := 66) (x := 0) (by decide +kernel) rfl (x_nc_le (by decide)) ?_
          refine x_cI (t := 6) (mj := 183) (n := 1) (rc := 12) (ml := 2) (nr := 0) (np := 69) (as := [x_r 75]) (rest := []) (lo1 := [x_r 75, 147573952589676412928]) (by decide +kernel) (by decide) (by decide +kernel) (x_rb_of (by decide +kernel)) rfl rfl (x_wr (by decide) x_wn) x_wn (by decide) rfl (c183_75 hJ  hC hT) (fun v160 h163 l161 q162 => ?_)
          obtain ⟨j164, f165, b166, c167, c168, c169, c170, c171, c172, c173, c174, c175⟩ := q162
          have f176 := Fr.trans hF f165 (by decide)
          have b177 := jB (e := 0) 0 hJ rg_78_0_0_1 (by first | decide | omega) (by first | decide | omega)
          have b178 := jB (e := 0) 0 j164 rg_78_0_0_1 (by first | decide | omega) (by first | decide | omega)
          have b179 := jB (e := 2) 0 hJ rg_78_2_0_1 (by first | decide | omega) (by first | decide | omega)
          have b180 := jB (e := 2) 0 j164 rg_78_2_0_1 (by first | decide | omega) (by first | decide | omega)
          have b181 := jB (e := 3) 0 hJ rg_78_3_0_1 (by first | decide | omega) (by first | decide | omega)
          have b182 := jB (e := 3) 0 j164 rg_78_3_0_1 (by first | decide | omega) (by first | decide | omega)
          have b183 := jB (e := 4) 0 hJ rg_78_4_0_1 (by first | decide | omega) (by first | decide | omega)
          have b184 := jB (e := 4) 0 j164 rg_78_4_0_1 (by first | decide | omega) (by first | decide | omega)
          have b185 := jB (e := 5) 0 hJ rg_78_5_0_1 (by first | decide | omega) (by first | decide | omega)
          have b186 := jB (e := 5) 0 j164 rg_78_5_0_1 (by first | decide | omega) (by first | decide | omega)
          have b187 := jB (e := 0) 0 hJ rg_76_0_0_1 (by first | decide | omega) (by first | decide | omega)
          have y188 := Is.yes c43 (by first | decide | omega)
          have k189 : line9 tB tN (h 76 0) (h 78 2) (h 78 3) (h 78 4) (h 78 5) (h 75 9) (rs5 v160 (sk tB tN (h163 75 7)) (h163 78 2) (h163 78 3) (h163 78 4) (h163 78 5)) := by
            rcases c174 with ⟨z1, z2⟩ | ⟨z1, z2⟩
            · exact l9_letter0 (Wd.of' (by decide) y188 hp0) rfl (by first | decide | omega) (by first | decide | omega)
            · exact l9_letter (Wd.of' (by decide) y188 hp0) rfl (by first | decide | omega) (congrArg (sk tB tN) y188.1) rfl z2 (by first | decide | omega) (by first | decide | omega) (fun z => by have y0 := c167 z; have y1 := c168 z; have y2 := c169 z; have y3 := c170 z; have y4 := c171 z; have y5 := c172 z; exact ⟨rfl, by first | decide | omega, by first | decide | omega, by first | decide | omega, by first | decide | omega⟩)
          have y191 := Is.yes c43 (by first | decide | omega)
          have m192 : ∀ u, u < 6 → xd h163 u = xd h u := fun u hu => (xd_gr f165 (by decide) u hu)
          have y193 := Is.yes c43 (by first | decide | omega)
          have m194 : ∀ u, u < 10 → adr h163 u = adr h u := fun u hu => (adr_gr f165 (by decide) u hu)
          have m195 : ∀ u, u < 10 → bdr h163 u = bdr h u := fun u hu => (bdr_gr f165 (by decide) u hu)
          refine x_retI (np := 70) (x := 0) (by decide +kernel) l161 (Or.inr ⟨by decide +kernel, by first | decide | omega, by first | decide | omega⟩) ⟨_, rfl, l161, ?_⟩
          exact ⟨j164, f176, (by first | decide | omega), (fun z => by first | decide | omega), (fun z => by first | decide | omega), (fun z => c173 (by first | decide | omega)), k189, (fun z => Wl.mp (c175 (by first | decide | omega)) (fun _ _ => rfl) (fun _ _ => rfl) (by first | decide | omega) (by first | decide | omega)), (fun _ => Lx.oth (Wd.of' (by decide) y191 hp0) rfl (by decide) (by decide) m192), (fun _ => Sl.oth (Wd.of' (by decide) y193 hp0) rfl (by decide) (by decide) (ab2 m194 m195))⟩
        have q38 : ¬ (v30 = 2147483648) := q38
        have b196 := c33 (by first | decide | omega)
        refine x_aload (np := 52) (x := 0) (by decide +kernel) rfl (x_nc_le (by decide)) ?_
        refine x_cI (t := 6) (mj := 182) (n := 1) (rc := 12) (ml := 2) (nr := 0) (np := 55) (as := [x_r 75]) (rest := []) (lo1 := [x_r 75, 147573952589676412928]) (by decide +kernel) (by decide) (by decide +kernel) (x_rb_of (by decide +kernel)) rfl rfl (x_wr (by decide) x_wn) x_wn (by decide) rfl (c182_75 hJ  hC hT) (fun v197 h200 l198 q199 => ?_)
        obtain ⟨j201, f202, b203, c204, c205, c206, c207, c208, c209, c210, c211⟩ := q199
        have f212 := Fr.trans hF f202 (by decide)
        have b213 := jB (e := 0) 0 hJ rg_78_0_0_1 (by first | decide | omega) (by first | decide | omega)
        have b214 := jB (e := 0) 0 j201 rg_78_0_0_1 (by first | decide | omega) (by first | decide | omega)
        have b215 := jB (e := 2) 0 hJ rg_78_2_0_1 (by first | decide | omega) (by first | decide | omega)
        have b216 := jB (e := 2) 0 j201 rg_78_2_0_1 (by first | decide | omega) (by first | decide | omega)
        have b217 := jB (e := 3) 0 hJ rg_78_3_0_1 (by first | decide | omega) (by first | decide | omega)
        have b218 := jB (e := 3) 0 j201 rg_78_3_0_1 (by first | decide | omega) (by first | decide | omega)
        have b219 := jB (e := 4) 0 hJ rg_78_4_0_1 (by first | decide | omega) (by first | decide | omega)
        have b220 := jB (e := 4) 0 j201 rg_78_4_0_1 (by first | decide | omega) (by first | decide | omega)
        have b221 := jB (e := 5) 0 hJ rg_78_5_0_1 (by first | decide | omega) (by first | decide | omega)
        have b222 := jB (e := 5) 0 j201 rg_78_5_0_1 (by first | decide | omega) (by first | decide | omega)
        have b223 := jB (e := 0) 0 hJ rg_76_0_0_1 (by first | decide | omega) (by first | decide | omega)
        have y224 := Is.yes c34 (by first | decide | omega)
        have m225 : ∀ u, u < 10 → wdr h200 u = wdr h u := fun u hu => (wdr_gr f202 (by decide) u hu)
        have y226 := Is.yes c34 (by first | decide | omega)
        have m227 : ∀ u, u < 6 → xd h200 u = xd h u := fun u hu => (xd_gr f202 (by decide) u hu)
        have y228 := Is.yes c34 (by first | decide | omega)
        have m229 : ∀ u, u < 10 → adr h200 u = adr h u := fun u hu => (adr_gr f202 (by decide) u hu)
        have m230 : ∀ u, u < 10 → bdr h200 u = bdr h u := fun u hu => (bdr_gr f202 (by decide) u hu)
        refine x_retI (np := 56) (x := 0) (by decide +kernel) l198 (Or.inr ⟨by decide +kernel, by first | decide | omega, by first | decide | omega⟩) ⟨_, rfl, l198, ?_⟩
        exact ⟨j201, f212, (by first | decide | omega), (fun z => by first | decide | omega), (fun z => by first | decide | omega), (fun z => c210 (by first | decide | omega)), (l9_court (Wd.of' (by decide) y224 hp0) rfl (congrArg (sk tB tN) y224.1) rfl c211 (by first | decide | omega) (by first | decide | omega) (fun z => by have y0 := c204 z; have y1 := c205 z; have y2 := c206 z; have y3 := c207 z; have y4 := c208 z; have y5 := c209 z; exact ⟨rfl, by first | decide | omega, by first | decide | omega, by first | decide | omega, by first | decide | omega⟩)), (fun z => by have y := c207 (by first | decide | omega); exact Wl.refl (by first | decide | omega) m225), (fun _ => Lx.oth (Wd.of' (by decide) y226 hp0) rfl (by decide) (by decide) m227), (fun _ => Sl.oth (Wd.of' (by decide) y228 hp0) rfl (by decide) (by decide) (ab2 m229 m230))⟩
      have q29 : ¬ (v21 = 2147483648) := q29
      have b231 := c24 (by first | decide | omega)
      refine x_aload (np := 38) (x := 0) (by decide +kernel) rfl (x_nc_le (by decide)) ?_
      refine x_cI (t := 6) (mj := 181) (n := 1) (rc := 12) (ml := 3) (nr := 0) (np := 41) (as := [x_r 75]) (rest := []) (lo1 := [x_r 75, 147573952589676412928, 147573952589676412928]) (by decide +kernel) (by decide) (by decide +kernel) (x_rb_of (by decide +kernel)) rfl rfl (x_wr (by decide) x_wn) x_wn (by decide) rfl (c181_75 hJ  hC hT) (fun v232 h235 l233 q234 => ?_)
      obtain ⟨j236, f237, b238, c239, c240, c241, c242, c243, c244, c245, c246, c247⟩ := q234
      have f248 := Fr.trans hF f237 (by decide)
      have b249 := jB (e := 0) 0 hJ rg_78_0_0_1 (by first | decide | omega) (by first | decide | omega)
      have q250 : h235 78 0 = h 78 0 := jK 0 f237 rg_78_0_0_1 (by first | decide | omega) (by first | decide | omega) (by decide)
      have q251 : h235 78 1 = h 78 1 := jK 0 f237 rg_78_1_0_1 (by first | decide | omega) (by first | decide | omega) (by decide)
      have b252 := jB (e := 2) 0 hJ rg_78_2_0_1 (by first | decide | omega) (by first | decide | omega)
      have q253 : h235 78 2 = h 78 2 := jK 0 f237 rg_78_2_0_1 (by first | decide | omega) (by first | decide | omega) (by decide)
      have b254 := jB (e := 3) 0 hJ rg_78_3_0_1 (by first | decide | omega) (by first | decide | omega)
      have q255 : h235 78 3 = h 78 3 := jK 0 f237 rg_78_3_0_1 (by first | decide | omega) (by first | decide | omega) (by decide)
      have b256 := jB (e := 4) 0 hJ rg_78_4_0_1 (by first | decide | omega) (by first | decide | omega)
      have q257 : h235 78 4 = h 78 4 := jK 0 f237 rg_78_4_0_1 (by first | decide | omega) (by first | decide | omega) (by decide)
      have b258 := jB (e := 5) 0 hJ rg_78_5_0_1 (by first | decide | omega) (by first | decide | omega)
      have q259 : h235 78 5 = h 78 5 := jK 0 f237 rg_78_5_0_1 (by first | decide | omega) (by first | decide | omega) (by decide)
      have q260 : h235 78 0 = h 78 0 := jK 0 f237 rg_78_0_0_1 (by first | decide | omega) (by first | decide | omega) (by decide)
      have q261 : h235 78 1 = h 78 1 := jK 0 f237 rg_78_1_0_1 (by first | decide | omega) (by first | decide | omega) (by decide)
      have b262 := jB (e := 0) 0 hJ rg_76_0_0_1 (by first | decide | omega) (by first | decide | omega)
      have q263 : h235 78 0 = h 78 0 := jK 0 f237 rg_78_0_0_1 (by first | decide | omega) (by first | decide | omega) (by decide)
      have q264 : h235 78 1 = h 78 1 := jK 0 f237 rg_78_1_0_1 (by first | decide | omega) (by first | decide | omega) (by decide)
      have q265 : h235 78 2 = h 78 2 := jK 0 f237 rg_78_2_0_1 (by first | decide | omega) (by first | decide | omega) (by decide)
      have q266 : h235 78 3 = h 78 3 := jK 0 f237 rg_78_3_0_1 (by first | decide | omega) (by first | decide | omega) (by decide)
      have q267 : h235 78 4 = h 78 4 := jK 0 f237 rg_78_4_0_1 (by first | decide | omega) (by first | decide | omega) (by decide)
      have q268 : h235 78 5 = h 78 5 := jK 0 f237 rg_78_5_0_1 (by first | decide | omega) (by first | decide | omega) (by decide)
      have y269 := Is.yes c25 (by first | decide | omega)
      have q270 : h235 78 3 = h 78 3 := jK 0 f237 rg_78_3_0_1 (by first | decide | omega) (by first | decide | omega) (by decide)
      have q271 : h235 78 3 = h 78 3 := jK 0 f237 rg_78_3_0_1 (by first | decide | omega) (by first | decide | omega) (by decide)
      have m272 : ∀ u, u < 10 → wdr h235 u = wdr h u := fun u hu => (wdr_gr f237 (by decide) u hu)
      have y273 := Is.yes c25 (by first | decide | omega)
      have y274 := Is.yes c25 (by first | decide | omega)
      have m275 : ∀ u, u < 10 → adr h235 u = adr h u := fun u hu => (adr_gr f237 (by decide) u hu)
      have m276 : ∀ u, u < 10 → bdr h235 u = bdr h u := fun u hu => (bdr_gr f237 (by decide) u hu)
      refine x_retI (np := 42) (x := 0) (by decide +kernel) l233 (Or.inr ⟨by decide +kernel, by first | decide | omega, by first | decide | omega⟩) ⟨_, rfl, l233, ?_⟩
      exact ⟨j236, f248, (by first | decide | omega), (fun z => by first | decide | omega), (fun z => by first | decide | omega), (fun z => c245 (by first | decide | omega)), (l9_dies (Wd.of' (by decide) y269 hp0) rfl (congrArg (sk tB tN) y269.1) rfl c246 (by first | decide | omega) (by first | decide | omega) (fun z => by have y0 := c239 z; have y1 := c240 z; have y2 := c241 z; have y3 := c242 z; have y4 := c243 z; have y5 := c244 z; exact ⟨rfl, by first | decide | omega, by first | decide | omega, by first | decide | omega, by first | decide | omega⟩)), (fun z => by have y := c242 (by first | decide | omega); exact Wl.refl (by first | decide | omega) m272), (fun _ => (Lx.cst (Lx.dies (Wd.of' (by decide) y273 hp0) rfl (congrArg (sk tB tN) y273.1) rfl (c247 (by first | decide | omega))) (by first | decide | omega)).mp (fun _ _ => rfl) (fun _ _ => rfl)), (fun _ => Sl.oth (Wd.of' (by decide) y274 hp0) rfl (by decide) (by decide) (ab2 m275 m276))⟩
    have q20 : ¬ (v12 = 2147483648) := q20
    have b277 := c15 (by first | decide | omega)
    refine x_aload (np := 24) (x := 0) (by decide +kernel) rfl (x_nc_le (by decide)) ?_
    refine x_cI (t := 6) (mj := 180) (n := 1) (rc := 12) (ml := 2) (nr := 0) (np := 27) (as := [x_r 75]) (rest := []) (lo1 := [x_r 75, 147573952589676412928]) (by decide +kernel) (by decide) (by decide +kernel) (x_rb_of (by decide +kernel)) rfl rfl (x_wr (by decide) x_wn) x_wn (by decide) rfl (c180_75 hJ  hC hT) (fun v278 h281 l279 q280 => ?_)
    obtain ⟨j282, f283, b284, c285, c286, c287, c288, c289, c290, c291, c292⟩ := q280
    have f293 := Fr.trans hF f283 (by decide)
    have b294 := jB (e := 0) 0 hJ rg_78_0_0_1 (by first | decide | omega) (by first | decide | omega)
    have b295 := jB (e := 0) 0 j282 rg_78_0_0_1 (by first | decide | omega) (by first | decide | omega)
    have b296 := jB (e := 2) 0 hJ rg_78_2_0_1 (by first | decide | omega) (by first | decide | omega)
    have b297 := jB (e := 2) 0 j282 rg_78_2_0_1 (by first | decide | omega) (by first | decide | omega)
    have b298 := jB (e := 3) 0 hJ rg_78_3_0_1 (by first | decide | omega) (by first | decide | omega)
    have b299 := jB (e := 3) 0 j282 rg_78_3_0_1 (by first | decide | omega) (by first | decide | omega)
    have b300 := jB (e := 4) 0 hJ rg_78_4_0_1 (by first | decide | omega) (by first | decide | omega)
    have b301 := jB (e := 4) 0 j282 rg_78_4_0_1 (by first | decide | omega) (by first | decide | omega)
    have b302 := jB (e := 5) 0 hJ rg_78_5_0_1 (by first | decide | omega) (by first | decide | omega)
    have b303 := jB (e := 5) 0 j282 rg_78_5_0_1 (by first | decide | omega) (by first | decide | omega)
    have b304 := jB (e := 0) 0 hJ rg_76_0_0_1 (by first | decide | omega) (by first | decide | omega)
    have y305 := Is.yes c16 (by first | decide | omega)
    have m306 : ∀ u, u < 10 → wdr h281 u = wdr h u := fun u hu => (wdr_gr f283 (by decide) u hu)
    have y307 := Is.yes c16 (by first | decide | omega)
    have m308 : ∀ u, u < 6 → xd h281 u = xd h u := fun u hu => (xd_gr f283 (by decide) u hu)
    have y309 := Is.yes c16 (by first | decide | omega)
    have m310 : ∀ u, u < 10 → adr h281 u = adr h u := fun u hu => (adr_gr f283 (by decide) u hu)
    have m311 : ∀ u, u < 10 → bdr h281 u = bdr h u := fun u hu => (bdr_gr f283 (by decide) u hu)
    refine x_retI (np := 28) (x := 0) (by decide +kernel) l279 (Or.inr ⟨by decide +kernel, by first | decide | omega, by first | decide | omega⟩) ⟨_, rfl, l279, ?_⟩
    exact ⟨j282, f293, (by first | decide | omega), (fun z => by first | decide | omega), (fun z => by first | decide | omega), (fun z => c291 (by first | decide | omega)), (l9_late (Wd.of' (by decide) y305 hp0) rfl (congrArg (sk tB tN) y305.1) rfl c292 (by first | decide | omega) (by first | decide | omega) (fun z => by have y0 := c285 z; have y1 := c286 z; have y2 := c287 z; have y3 := c288 z; have y4 := c289 z; have y5 := c290 z; exact ⟨rfl, by first | decide | omega, by first | decide | omega, by first | decide | omega, by first | decide | omega⟩)), (fun z => by have y := c288 (by first | decide | omega); exact Wl.refl (by first | decide | omega) m306), (fun _ => Lx.oth (Wd.of' (by decide) y307 hp0) rfl (by decide) (by decide) m308), (fun _ => Sl.oth (Wd.of' (by decide) y309 hp0) rfl (by decide) (by decide) (ab2 m310 m311))⟩
  have q11 : ¬ (v1 = 2147483648) := q11
  have b312 := c4 (by first | decide | omega)
  refine x_aload (np := 10) (x := 0) (by decide +kernel) rfl (x_nc_le (by decide)) ?_
  refine x_cI (t := 6) (mj := 179) (n := 1) (rc := 12) (ml := 2) (nr := 0) (np := 13) (as := [x_r 75]) (rest := []) (lo1 := [x_r 75, 147573952589676412928]) (by decide +kernel) (by decide) (by decide +kernel) (x_rb_of (by decide +kernel)) rfl rfl (x_wr (by decide) x_wn) x_wn (by decide) rfl (c179_75 hJ  hC hT) (fun v313 h316 l314 q315 => ?_)
  obtain ⟨j317, f318, b319, c320, c321, c322, c323, c324, c325, c326, c327⟩ := q315
  have f328 := Fr.trans hF f318 (by decide)
  have b329 := jB (e := 0) 0 hJ rg_78_0_0_1 (by first | decide | omega) (by first | decide | omega)
  have b330 := jB (e := 0) 0 j317 rg_78_0_0_1 (by first | decide | omega) (by first | decide | omega)
  have b331 := jB (e := 2) 0 hJ rg_78_2_0_1 (by first | decide | omega) (by first | decide | omega)
  have b332 := jB (e := 2) 0 j317 rg_78_2_0_1 (by first | decide | omega) (by first | decide | omega)
  have b333 := jB (e := 3) 0 hJ rg_78_3_0_1 (by first | decide | omega) (by first | decide | omega)
  have b334 := jB (e := 3) 0 j317 rg_78_3_0_1 (by first | decide | omega) (by first | decide | omega)
  have b335 := jB (e := 4) 0 hJ rg_78_4_0_1 (by first | decide | omega) (by first | decide | omega)
  have b336 := jB (e := 4) 0 j317 rg_78_4_0_1 (by first | decide | omega) (by first | decide | omega)
  have b337 := jB (e := 5) 0 hJ rg_78_5_0_1 (by first | decide | omega) (by first | decide | omega)
  have b338 := jB (e := 5) 0 j317 rg_78_5_0_1 (by first | decide | omega) (by first | decide | omega)
  have b339 := jB (e := 0) 0 hJ rg_76_0_0_1 (by first | decide | omega) (by first | decide | omega)
  have y340 := Is.yes c5 (by first | decide | omega)
  have k341 : line9 tB tN (h 76 0) (h 78 2) (h 78 3) (h 78 4) (h 78 5) (h 75 9) (rs5 v313 (sk tB tN (h316 75 7)) (h316 78 2) (h316 78 3) (h316 78 4) (h316 78 5)) := by
    rcases c327 with ⟨z1, z2⟩ | ⟨z1, z2⟩
    · exact l9_lend0 (Wd.of' (by decide) y340 hp0) rfl (by first | decide | omega) (by first | decide | omega)
    · exact l9_lend (Wd.of' (by decide) y340 hp0) rfl (by first | decide | omega) (congrArg (sk tB tN) y340.1) rfl z2 (by first | decide | omega) (by first | decide | omega) (fun z => by have y0 := c320 z; have y1 := c321 z; have y2 := c322 z; have y3 := c323 z; have y4 := c324 z; have y5 := c325 z; exact ⟨rfl, by first | decide | omega, by first | decide | omega, by first | decide | omega, by first | decide | omega⟩)
  have m343 : ∀ u, u < 10 → wdr h316 u = wdr h u := fun u hu => (wdr_gr f318 (by decide) u hu)
  have y344 := Is.yes c5 (by first | decide | omega)
  have m345 : ∀ u, u < 6 → xd h316 u = xd h u := fun u hu => (xd_gr f318 (by decide) u hu)
  have y346 := Is.yes c5 (by first | decide | omega)
  have m347 : ∀ u, u < 10 → adr h316 u = adr h u := fun u hu => (adr_gr f318 (by decide) u hu)
  have m348 : ∀ u, u < 10 → bdr h316 u = bdr h u := fun u hu => (bdr_gr f318 (by decide) u hu)
  refine x_retI (np := 14) (x := 0) (by decide +kernel) l314 (Or.inr ⟨by decide +kernel, by first | decide | omega, by first | decide | omega⟩) ⟨_, rfl, l314, ?_⟩
  exact ⟨j317, f328, (by first | decide | omega), (fun z => by first | decide | omega), (fun z => by first | decide | omega), (fun z => c326 (by first | decide | omega)), k341, (fun z => by have y := c323 (by first | decide | omega); exact Wl.refl (by first | decide | omega) m343), (fun _ => Lx.oth (Wd.of' (by decide) y344 hp0) rfl (by decide) (by decide) m345), (fun _ => Sl.oth (Wd.of' (by decide) y346 hp0) rfl (by decide) (by decide) (ab2 m347 m348))⟩
set_option maxHeartbeats 0 in
/-- LentNamesModel.readAll(Z)I -/
theorem c194_75_c1 {sc : Nat × Nat} {d  : Nat} {h : xh} {tB : Nat → Nat} {tN : Nat} (hJ : J h) (hC : Cl h) (hT : Tr tB tN h) : X sc 194 (d + 8) (xI fun r h' => J h' ∧ Fr 16140901064788934657 h h' ∧ (2147483647 ≤ r ∧ r ≤ 2147483662) ∧ (h' 75 6 = 2147483648) ∧ (2147483648 ≤ r → h' 78 0 = h 78 0) ∧ (2147483648 ≤ r → h' 78 1 = h 78 1) ∧ (2147483648 ≤ r → Cl h') ∧ Tt tB tN (h 76 0) (h 78 2) (h 78 3) (h 78 4) (h 78 5) (rt4 r (h' 78 2) (h' 78 3) (h' 78 4) (h' 78 5)) ∧ (2147483648 ≤ r → Wl (wdr h) (wdr h') (h 78 3) (h' 78 3)) ∧ (2147483648 ≤ r → Tx tB tN (h 76 0) (h 78 2) (h 78 3) (h 78 4) (h 78 5) (xd h) (xd h')) ∧ (2147483648 ≤ r → Tz tB tN (h 76 0) (h 78 2) (h 78 3) (h 78 4) (h 78 5) (ab (adr h) (bdr h)) (ab (adr h') (bdr h')))) 0 0 0 [x_r 75, iv_c 2147483649, 147573952589676412928] [] h := by
  have hF := Fr.refl 16140901064788934657 h
  refine x_aload (np := 1) (x := 0) (by decide +kernel) rfl (x_nc_le (by decide)) ?_
  refine x_aload (np := 2) (x := 0) (by decide +kernel) rfl (x_nc_le (by decide)) ?_
  have b1 := jB (e := 6) 0 hJ rg_75_6_0_1 (by first | decide | omega) (by first | decide | omega)
  refine x_getC (np := 5) (x := 710) (f := 6) (q := (h 75 6)) (by decide +kernel) (by decide) (by decide +kernel) rfl (fun l2 => ?_)
  refine x_putI (np := 8) (x := 712) (f := 8) (by decide +kernel) (by decide +kernel) l2 (Or.inl (by decide)) ?_
  have j4 := jU (e := 8) (v := (h 75 6)) 0 hJ rg_75_8_0_1 (by first | decide | omega) (by first | decide | omega) (by first | decide | omega)
  have f6 := jF (e := 8) (v := (h 75 6)) 0 hF rg_75_8_0_1 (by first | decide | omega) (by first | decide | omega) (by decide)
  generalize e5 : x_up h 75 8 (h 75 6) = h3 at j4 f6 ⊢
  refine x_aload (np := 9) (x := 0) (by decide +kernel) rfl (x_nc_le (by decide)) ?_
  refine x_const (np := 10) (x := 9223372039002259456) (a := 2147483648) (by decide +kernel) (by decide) (by decide) ?_
  refine x_putI (np := 13) (x := 710) (f := 6) (by decide +kernel) (by decide +kernel) (by decide) (Or.inl (by decide)) ?_
  have j8 := jU (e := 6) (v := 2147483648) 0 j4 rg_75_6_0_1 (by first | decide | omega) (by first | decide | omega) (by first | decide | omega)
  have f10 := jF (e := 6) (v := 2147483648) 0 f6 rg_75_6_0_1 (by first | decide | omega) (by first | decide | omega) (by decide)
  generalize e9 : x_up h3 75 6 2147483648 = h7 at j8 f10 ⊢
  refine x_aload (np := 14) (x := 0) (by decide +kernel) rfl (x_nc_le (by decide)) ?_
  refine x_const (np := 15) (x := 9223372039002259456) (a := 2147483648) (by decide +kernel) (by decide) (by decide) ?_
  refine x_putI (np := 18) (x := 711) (f := 7) (by decide +kernel) (by decide +kernel) (by decide) (Or.inl (by decide)) ?_
  have j12 := jU (e := 7) (v := 2147483648) 0 j8 rg_75_7_0_1 (by first | decide | omega) (by first | decide | omega) (by first | decide | omega)
  have f14 := jF (e := 7) (v := 2147483648) 0 f10 rg_75_7_0_1 (by first | decide | omega) (by first | decide | omega) (by decide)
  generalize e13 : x_up h7 75 7 2147483648 = h11 at j12 f14 ⊢
  refine x_aload (np := 19) (x := 0) (by decide +kernel) rfl (x_nc_le (by decide)) ?_
  refine x_const (np := 20) (x := 9223372039002259456) (a := 2147483648) (by decide +kernel) (by decide) (by decide) ?_
  refine x_putI (np := 23) (x := 717) (f := 13) (by decide +kernel) (by decide +kernel) (by decide) (Or.inl (by decide)) ?_
  have j16 := jU (e := 13) (v := 2147483648) 0 j12 rg_75_13_0_1 (by first | decide | omega) (by first | decide | omega) (by first | decide | omega)
  have f18 := jF (e := 13) (v := 2147483648) 0 f14 rg_75_13_0_1 (by first | decide | omega) (by first | decide | omega) (by decide)
  generalize e17 : x_up h11 75 13 2147483648 = h15 at j16 f18 ⊢
  refine x_aload (np := 24) (x := 0) (by decide +kernel) rfl (x_nc_le (by decide)) ?_
  have m25 : Tq tB tN h3 := by rw [← e5]; exact Tr.tq hT (by first | decide | omega)
  have m24 : Tq tB tN h7 := by rw [← e9]; exact Tq.oth m25 (by decide) (by decide)
  have m23 : Tq tB tN h11 := by rw [← e13]; exact Tq.oth m24 (by decide) (by decide)
  have m22 : Tq tB tN h15 := by rw [← e17]; exact Tq.oth m23 (by decide) (by decide)
  refine x_cV (t := 6) (mj := 168) (n := 1) (rc := 12) (ml := 1) (nr := 0) (np := 27) (as := [x_r 75]) (rest := []) (lo1 := [x_r 75]) (by decide +kernel) (by decide) (by decide +kernel) (x_rb_of (by decide +kernel)) rfl rfl (x_wr (by decide) x_wn) x_wn (by decide) rfl (c168_75 j16  m22) (fun h26 q21 => ?_)
  obtain ⟨j27, f28, c31, c32, c33⟩ := q21
  have f34 := Fr.trans f18 f28 (by decide)
  have q35 : h15 75 7 = h11 75 7 := by rw [← e17]; exact x_up_i (by first | decide | omega)
  have q36 : h11 75 7 = 2147483648 := by rw [← e13]; exact x_up_at
  have b37 := jB (e := 7) 0 j27 rg_75_7_0_1 (by first | decide | omega) (by first | decide | omega)
  have b38 := jB (e := 9) 0 j27 rg_75_9_0_1 (by first | decide | omega) (by first | decide | omega)
  refine x_aload (np := 28) (x := 0) (by decide +kernel) rfl (x_nc_le (by decide)) ?_
  refine x_getC (np := 31) (x := 711) (f := 7) (q := (h26 75 7)) (by decide +kernel) (by decide) (by decide +kernel) rfl (fun l39 => ?_)
  refine x_aload (np := 32) (x := 0) (by decide +kernel) rfl (x_nc_le (by decide)) ?_
  have q40 : h26 75 8 = h15 75 8 := jK 0 f28 rg_75_8_0_1 (by first | decide | omega) (by first | decide | omega) (by decide)
  have q41 : h15 75 8 = h11 75 8 := by rw [← e17]; exact x_up_i (by first | decide | omega)
  have q42 : h11 75 8 = h7 75 8 := by rw [← e13]; exact x_up_i (by first | decide | omega)
  have q43 : h7 75 8 = h3 75 8 := by rw [← e9]; exact x_up_i (by first | decide | omega)
  have q44 : h3 75 8 = (h 75 6) := by rw [← e5]; exact x_up_at
  refine x_getC (np := 35) (x := 712) (f := 8) (q := (h 75 6)) (by decide +kernel) (by decide) (by decide +kernel) ((((q40.trans q41).trans q42).trans q43).trans q44) (fun l45 => ?_)
  refine x_icmp (k := 1) (tg := 40) (np := 38) (by decide +kernel) (by decide) l39 l2 (fun q46 => ?_) (fun q47 => ?_)
  · have q46 : (h26 75 7) ≠ (h 75 6) := q46
    refine x_const (np := 41) (x := 9223372039002259456) (a := 2147483648) (by decide +kernel) (by decide) (by decide) ?_
    refine x_istore (np := 42) (x := 2) (lo' := [x_r 75, iv_c 2147483649, iv_c 2147483648]) (by decide +kernel) (by decide) (Nat.le_of_ble_eq_true rfl) rfl ?_
    have p2016 : ∀ (n : Nat) (v2011 : Nat) (h2013 : xh), 4294967296 - v2011 < n → (2147483648 ≤ v2011 ∧ v2011 ≤ 2147483662) → h2013 78 0 = h 78 0 → h2013 78 1 = h 78 1 → J h2013 → Fr 16140901064769536001 h26 h2013 → Cl h2013 → Tl tB tN (h 76 0) (h 78 2) (h 78 3) (h 78 4) (h 78 5) (2147483662 - v2011) (h2013 78 2) (h2013 78 3) (h2013 78 4) (h2013 78 5) (sk tB tN (h2013 75 7)) → Wl (wdr h) (wdr h2013) (h 78 3) (h2013 78 3) → Txl tB tN (h 76 0) (h 78 2) (h 78 3) (h 78 4) (h 78 5) (xd h) (2147483662 - v2011) (h2013 78 2) (h2013 78 3) (h2013 78 4) (h2013 78 5) (sk tB tN (h2013 75 7)) (xd h2013) → Tzl tB tN (h 76 0) (h 78 2) (h 78 3) (h 78 4) (h 78 5) (ab (adr h) (bdr h)) (2147483662 - v2011) (h2013 78 2) (h2013 78 3) (h2013 78 4) (h2013 78 5) (sk tB tN (h2013 75 7)) (ab (adr h2013) (bdr h2013)) → X sc 194 (d + 8) (xI fun r h' => J h' ∧ Fr 16140901064788934657 h h' ∧ (2147483647 ≤ r ∧ r ≤ 2147483662) ∧ (h' 75 6 = 2147483648) ∧ (2147483648 ≤ r → h' 78 0 = h 78 0) ∧ (2147483648 ≤ r → h' 78 1 = h 78 1) ∧ (2147483648 ≤ r → Cl h') ∧ Tt tB tN (h 76 0) (h 78 2) (h 78 3) (h 78 4) (h 78 5) (rt4 r (h' 78 2) (h' 78 3) (h' 78 4) (h' 78 5)) ∧ (2147483648 ≤ r → Wl (wdr h) (wdr h') (h 78 3) (h' 78 3)) ∧ (2147483648 ≤ r → Tx tB tN (h 76 0) (h 78 2) (h 78 3) (h 78 4) (h 78 5) (xd h) (xd h')) ∧ (2147483648 ≤ r → Tz tB tN (h 76 0) (h 78 2) (h 78 3) (h 78 4) (h 78 5) (ab (adr h) (bdr h)) (ab (adr h') (bdr h')))) 0 0 42 [x_r 75, iv_c 2147483649, iv_c v2011] [] h2013 := by
      intro n
      induction n with
      | zero => intro v2011 h2013 q2024; exact absurd q2024 (Nat.not_lt_zero _)
      | succ n i2025 =>
        intro v2011 h2013 q2024 b2012 b2017 b2018 j2015 f2014 m2023 m2019 m2020 m2021 m2022
        have f2026 := Fr.trans f34 f2014 (by decide)
        have b2027 := jB (e := 2) 0 j2015 rg_78_2_0_1 (by first | decide | omega) (by first | decide | omega)
        have b2028 := jB (e := 3) 0 j2015 rg_78_3_0_1 (by first | decide | omega) (by first | decide | omega)
        have b2029 := jB (e := 4) 0 j2015 rg_78_4_0_1 (by first | decide | omega) (by first | decide | omega)
        have b2030 := jB (e := 5) 0 j2015 rg_78_5_0_1 (by first | decide | omega) (by first | decide | omega)
        refine x_aload (np := 43) (x := 0) (by decide +kernel) rfl (x_nc_le (by decide)) ?_
        have m2035 := Tq.fr m22 f28 (by decide) (by decide)
        have m2034 := Tq.fr m2035 f2014 (by decide) (by decide)
        refine x_cV (t := 6) (mj := 169) (n := 1) (rc := 12) (ml := 1) (nr := 0) (np := 46) (as := [x_r 75]) (rest := []) (lo1 := [x_r 75]) (by decide +kernel) (by decide) (by decide +kernel) (x_rb_of (by decide +kernel)) rfl rfl (x_wr (by decide) x_wn) x_wn (by decide) rfl (c169_75 j2015  m2034) (fun h2036 q2033 => ?_)
        obtain ⟨j2037, f2038, c2041, c2042, c2043, c2044⟩ := q2033
        have f2045 := Fr.trans f2026 f2038 (by decide)
        have f2046 := Fr.trans f2014 f2038 (by decide)
        have b2047 := jB (e := 7) 0 j2015 rg_75_7_0_1 (by first | decide | omega) (by first | decide | omega)
        have b2048 := jB (e := 9) 0 j2037 rg_75_9_0_1 (by first | decide | omega) (by first | decide | omega)
        have b2049 := jB (e := 7) 0 j2037 rg_75_7_0_1 (by first | decide | omega) (by first | decide | omega)
        refine x_iload (np := 47) (x := 2) (by decide +kernel) rfl (by first | decide | omega) ?_
        refine x_iload (np := 48) (x := 1) (by decide +kernel) rfl (by decide) ?_
        refine x_ifz (k := 0) (tg := 56) (np := 51) (by decide +kernel) (by decide) (by decide) (fun q2050 => ?_) (fun q2051 => ?_)
        · have q2050 : 2147483649 = 2147483648 := q2050
          exfalso; omega
        have q2051 : ¬ (2147483649 = 2147483648) := q2051
        refine x_const (np := 53) (x := 9223372099131801614) (a := 2147483662) (by decide +kernel) (by decide) (by decide) ?_
        refine x_goto (np := 56) (x := 58) (by decide +kernel) ?_
        refine x_icmp (k := 0) (tg := 83) (np := 61) (by decide +kernel) (by decide) (by first | decide | omega) (by decide) (fun q2052 => ?_) (fun q2053 => ?_)
        · have q2052 : v2011 = 2147483662 := q2052
          refine x_const (np := 84) (x := 9223372034707292159) (a := 2147483647) (by decide +kernel) (by decide) (by decide) ?_
          have q2054 : h2036 75 6 = h2013 75 6 := jK 0 f2038 rg_75_6_0_1 (by first | decide | omega) (by first | decide | omega) (by decide)
          have q2055 : h2013 75 6 = h26 75 6 := jK 0 f2014 rg_75_6_0_1 (by first | decide | omega) (by first | decide | omega) (by decide)
          have q2056 : h26 75 6 = h15 75 6 := jK 0 f28 rg_75_6_0_1 (by first | decide | omega) (by first | decide | omega) (by decide)
          have q2057 : h15 75 6 = h11 75 6 := by rw [← e17]; exact x_up_i (by first | decide | omega)
          have q2058 : h11 75 6 = h7 75 6 := by rw [← e13]; exact x_up_i (by first | decide | omega)
          have q2059 : h7 75 6 = 2147483648 := by rw [← e9]; exact x_up_at
          have b2060 := jB (e := 0) 0 hJ rg_78_0_0_1 (by first | decide | omega) (by first | decide | omega)
          have q2061 : h2036 78 0 = h2013 78 0 := jK 0 f2038 rg_78_0_0_1 (by first | decide | omega) (by first | decide | omega) (by decide)
          have b2062 := jB (e := 0) 0 j2015 rg_78_0_0_1 (by first | decide | omega) (by first | decide | omega)
          have q2063 : h2036 78 1 = h2013 78 1 := jK 0 f2038 rg_78_1_0_1 (by first | decide | omega) (by first | decide | omega) (by decide)
          have b2064 := jB (e := 2) 0 hJ rg_78_2_0_1 (by first | decide | omega) (by first | decide | omega)
          have q2065 : h2036 78 2 = h2013 78 2 := jK 0 f2038 rg_78_2_0_1 (by first | decide | omega) (by first | decide | omega) (by decide)
          have b2066 := jB (e := 3) 0 hJ rg_78_3_0_1 (by first | decide | omega) (by first | decide | omega)
          have q2067 : h2036 78 3 = h2013 78 3 := jK 0 f2038 rg_78_3_0_1 (by first | decide | omega) (by first | decide | omega) (by decide)
          have b2068 := jB (e := 4) 0 hJ rg_78_4_0_1 (by first | decide | omega) (by first | decide | omega)
          have q2069 : h2036 78 4 = h2013 78 4 := jK 0 f2038 rg_78_4_0_1 (by first | decide | omega) (by first | decide | omega) (by decide)
          have b2070 := jB (e := 5) 0 hJ rg_78_5_0_1 (by first | decide | omega) (by first | decide | omega)
          have q2071 : h2036 78 5 = h2013 78 5 := jK 0 f2038 rg_78_5_0_1 (by first | decide | omega) (by first | decide | omega) (by decide)
          refine x_retI (np := 85) (x := 0) (by decide +kernel) (by decide) (Or.inl (by decide +kernel)) ⟨_, rfl, (by decide), ?_⟩
          exact ⟨j2037, f2045, (by first | decide | omega), (by first | decide | omega), (fun z => by first | decide | omega), (fun z => by first | decide | omega), (fun z => absurd z (by first | decide | omega)), (Tt.r0 (by first | decide | omega) (Tl.full m2019 (by first | decide | omega))), (fun z => absurd z (by first | decide | omega)), (fun z => absurd z (by first | decide | omega)), (fun z => absurd z (by first | decide | omega))⟩
        have q2053 : ¬ (v2011 = 2147483662) := q2053
        refine x_iload (np := 62) (x := 1) (by decide +kernel) rfl (by decide) ?_
        refine x_ifz (k := 0) (tg := 75) (np := 65) (by decide +kernel) (by decide) (by decide) (fun q2072 => ?_) (fun q2073 => ?_)
        · have q2072 : 2147483649 = 2147483648 := q2072
          exfalso; omega
        have q2073 : ¬ (2147483649 = 2147483648) := q2073
        refine x_aload (np := 66) (x := 0) (by decide +kernel) rfl (x_nc_le (by decide)) ?_
        have m2077 := Cl.fr m2023 f2038 (by decide)
        have m2078 := Tq.fr m2034 f2038 (by decide) (by decide)
        refine x_cI (t := 6) (mj := 186) (n := 1) (rc := 12) (ml := 1) (nr := 0) (np := 69) (as := [x_r 75]) (rest := []) (lo1 := [x_r 75]) (by decide +kernel) (by decide) (by decide +kernel) (x_rb_of (by decide +kernel)) rfl rfl (x_wr (by decide) x_wn) x_wn (by decide) rfl (c186_75 j2037  m2077 m2078 c2044) (fun v2074 h2079 l2075 q2076 => ?_)
        obtain ⟨j2080, f2081, b2082, c2083, c2084, c2085, c2086, c2087, c2088, c2089⟩ := q2076
        have f2090 := Fr.trans f2045 f2081 (by decide)
        have f2091 := Fr.trans f2046 f2081 (by decide)
        have q2092 : h2036 78 0 = h2013 78 0 := jK 0 f2038 rg_78_0_0_1 (by first | decide | omega) (by first | decide | omega) (by decide)
        have b2093 := jB (e := 0) 0 j2015 rg_78_0_0_1 (by first | decide | omega) (by first | decide | omega)
        have b2094 := jB (e := 0) 0 j2080 rg_78_0_0_1 (by first | decide | omega) (by first | decide | omega)
        have q2095 : h2036 78 1 = h2013 78 1 := jK 0 f2038 rg_78_1_0_1 (by first | decide | omega) (by first | decide | omega) (by decide)
        refine x_ifz (k := 0) (tg := 83) (np := 72) (by decide +kernel) (by decide) l2075 (fun q2096 => ?_) (fun q2097 => ?_)
        · have q2096 : v2074 = 2147483648 := q2096
          refine x_const (np := 84) (x := 9223372034707292159) (a := 2147483647) (by decide +kernel) (by decide) (by decide) ?_
          have q2098 : h2079 75 6 = h2036 75 6 := jK 0 f2081 rg_75_6_0_1 (by first | decide | omega) (by first | decide | omega) (by decide)
          have q2099 : h2036 75 6 = h2013 75 6 := jK 0 f2038 rg_75_6_0_1 (by first | decide | omega) (by first | decide | omega) (by decide)
          have q2100 : h2013 75 6 = h26 75 6 := jK 0 f2014 rg_75_6_0_1 (by first | decide | omega) (by first | decide | omega) (by decide)
          have q2101 : h26 75 6 = h15 75 6 := jK 0 f28 rg_75_6_0_1 (by first | decide | omega) (by first | decide | omega) (by decide)
          have q2102 : h15 75 6 = h11 75 6 := by rw [← e17]; exact x_up_i (by first | decide | omega)
          have q2103 : h11 75 6 = h7 75 6 := by rw [← e13]; exact x_up_i (by first | decide | omega)
          have q2104 : h7 75 6 = 2147483648 := by rw [← e9]; exact x_up_at
          have b2105 := jB (e := 0) 0 hJ rg_78_0_0_1 (by first | decide | omega) (by first | decide | omega)
          have b2106 := jB (e := 2) 0 hJ rg_78_2_0_1 (by first | decide | omega) (by first | decide | omega)
          have b2107 := jB (e := 2) 0 j2080 rg_78_2_0_1 (by first | decide | omega) (by first | decide | omega)
          have b2108 := jB (e := 3) 0 hJ rg_78_3_0_1 (by first | decide | omega) (by first | decide | omega)
          have b2109 := jB (e := 3) 0 j2080 rg_78_3_0_1 (by first | decide | omega) (by first | decide | omega)
          have b2110 := jB (e := 4) 0 hJ rg_78_4_0_1 (by first | decide | omega) (by first | decide | omega)
          have b2111 := jB (e := 4) 0 j2080 rg_78_4_0_1 (by first | decide | omega) (by first | decide | omega)
          have b2112 := jB (e := 5) 0 hJ rg_78_5_0_1 (by first | decide | omega) (by first | decide | omega)
          have b2113 := jB (e := 5) 0 j2080 rg_78_5_0_1 (by first | decide | omega) (by first | decide | omega)
          have q2115 : h2036 76 0 = h2013 76 0 := jK 0 f2038 rg_76_0_0_1 (by first | decide | omega) (by first | decide | omega) (by decide)
          have q2116 : h2013 76 0 = h26 76 0 := jK 0 f2014 rg_76_0_0_1 (by first | decide | omega) (by first | decide | omega) (by decide)
          have q2117 : h26 76 0 = h15 76 0 := jK 0 f28 rg_76_0_0_1 (by first | decide | omega) (by first | decide | omega) (by decide)
          have q2118 : h15 76 0 = h11 76 0 := by rw [← e17]; exact x_up_k (by decide)
          have q2119 : h11 76 0 = h7 76 0 := by rw [← e13]; exact x_up_k (by decide)
          have q2120 : h7 76 0 = h3 76 0 := by rw [← e9]; exact x_up_k (by decide)
          have q2121 : h3 76 0 = h 76 0 := by rw [← e5]; exact x_up_k (by decide)
          have b2122 := jB (e := 0) 0 hJ rg_76_0_0_1 (by first | decide | omega) (by first | decide | omega)
          have q2123 : h2036 78 2 = h2013 78 2 := jK 0 f2038 rg_78_2_0_1 (by first | decide | omega) (by first | decide | omega) (by decide)
          have q2124 : h2036 78 3 = h2013 78 3 := jK 0 f2038 rg_78_3_0_1 (by first | decide | omega) (by first | decide | omega) (by decide)
          have q2125 : h2036 78 4 = h2013 78 4 := jK 0 f2038 rg_78_4_0_1 (by first | decide | omega) (by first | decide | omega) (by decide)
          have q2126 : h2036 78 5 = h2013 78 5 := jK 0 f2038 rg_78_5_0_1 (by first | decide | omega) (by first | decide | omega) (by decide)
          have k2114 := l9_pe (pe' := h 76 0) (l1 := h2013 78 2) (t1 := h2013 78 3) (d1 := h2013 78 4) (s1 := h2013 78 5) c2086 (by first | decide | omega) (by first | decide | omega) (by first | decide | omega) (by first | decide | omega) (by first | decide | omega)
          refine x_retI (np := 85) (x := 0) (by decide +kernel) (by decide) (Or.inl (by decide +kernel)) ⟨_, rfl, (by decide), ?_⟩
          exact ⟨j2080, f2090, (by first | decide | omega), (by first | decide | omega), (fun z => by first | decide | omega), (fun z => by first | decide | omega), (fun z => absurd z (by first | decide | omega)), (Tt.r0 (by first | decide | omega) (Tl.no m2019 (by first | decide | omega) k2114 c2043 (by first | decide | omega))), (fun z => absurd z (by first | decide | omega)), (fun z => absurd z (by first | decide | omega)), (fun z => absurd z (by first | decide | omega))⟩
        have q2097 : ¬ (v2074 = 2147483648) := q2097
        have b2127 := c2083 (by first | decide | omega)
        have b2128 := c2084 (by first | decide | omega)
        have m2129 := c2085 (by first | decide | omega)
        refine x_goto (np := 75) (x := 85) (by decide +kernel) ?_
        refine x_aload (np := 86) (x := 0) (by decide +kernel) rfl (x_nc_le (by decide)) ?_
        have m2133 := Tq.fr m2078 f2081 (by decide) (by decide)
        refine x_cV (t := 6) (mj := 168) (n := 1) (rc := 12) (ml := 1) (nr := 0) (np := 89) (as := [x_r 75]) (rest := []) (lo1 := [x_r 75]) (by decide +kernel) (by decide) (by decide +kernel) (x_rb_of (by decide +kernel)) rfl rfl (x_wr (by decide) x_wn) x_wn (by decide) rfl (c168_75 j2080  m2133) (fun h2134 q2132 => ?_)
        obtain ⟨j2135, f2136, c2139, c2140, c2141⟩ := q2132
        have f2142 := Fr.trans f2090 f2136 (by decide)
        have f2143 := Fr.trans f2091 f2136 (by decide)
        have b2144 := jB (e := 7) 0 j2080 rg_75_7_0_1 (by first | decide | omega) (by first | decide | omega)
        have b2145 := jB (e := 7) 0 j2135 rg_75_7_0_1 (by first | decide | omega) (by first | decide | omega)
        have b2146 := jB (e := 9) 0 j2135 rg_75_9_0_1 (by first | decide | omega) (by first | decide | omega)
        refine x_aload (np := 90) (x := 0) (by decide +kernel) rfl (x_nc_le (by decide)) ?_
        refine x_getC (np := 93) (x := 711) (f := 7) (q := (h2134 75 7)) (by decide +kernel) (by decide) (by decide +kernel) rfl (fun l2147 => ?_)
        refine x_aload (np := 94) (x := 0) (by decide +kernel) rfl (x_nc_le (by decide)) ?_
        have q2148 : h2134 75 8 = h2079 75 8 := jK 0 f2136 rg_75_8_0_1 (by first | decide | omega) (by first | decide | omega) (by decide)
        have q2149 : h2079 75 8 = h2036 75 8 := jK 0 f2081 rg_75_8_0_1 (by first | decide | omega) (by first | decide | omega) (by decide)
        have q2150 : h2036 75 8 = h2013 75 8 := jK 0 f2038 rg_75_8_0_1 (by first | decide | omega) (by first | decide | omega) (by decide)
        have q2151 : h2013 75 8 = h26 75 8 := jK 0 f2014 rg_75_8_0_1 (by first | decide | omega) (by first | decide | omega) (by decide)
        have q2152 : h26 75 8 = h15 75 8 := jK 0 f28 rg_75_8_0_1 (by first | decide | omega) (by first | decide | omega) (by decide)
        have q2153 : h15 75 8 = h11 75 8 := by rw [← e17]; exact x_up_i (by first | decide | omega)
        have q2154 : h11 75 8 = h7 75 8 := by rw [← e13]; exact x_up_i (by first | decide | omega)
        have q2155 : h7 75 8 = h3 75 8 := by rw [← e9]; exact x_up_i (by first | decide | omega)
        have q2156 : h3 75 8 = (h 75 6) := by rw [← e5]; exact x_up_at
        refine x_getC (np := 97) (x := 712) (f := 8) (q := (h 75 6)) (by decide +kernel) (by decide) (by decide +kernel) ((((((((q2148.trans q2149).trans q2150).trans q2151).trans q2152).trans q2153).trans q2154).trans q2155).trans q2156) (fun l2157 => ?_)
        refine x_icmp (k := 1) (tg := 104) (np := 100) (by decide +kernel) (by decide) l2147 l2 (fun q2158 => ?_) (fun q2159 => ?_)
        · have q2158 : (h2134 75 7) ≠ (h 75 6) := q2158
          refine x_aload (np := 105) (x := 0) (by decide +kernel) rfl (x_nc_le (by decide)) ?_
          refine x_const (np := 107) (x := 9223372292405329979) (a := 2147483707) (by decide +kernel) (by decide) (by decide) ?_
          refine x_const (np := 109) (x := 9223372292405329979) (a := 2147483707) (by decide +kernel) (by decide) (by decide) ?_
          refine x_nI (t := 6) (mj := 167) (n := 3) (rc := 12) (ml := 3) (nr := 0) (np := 112) (as := [x_r 75, iv_c 2147483707, iv_c 2147483707]) (rest := []) (lo1 := [x_r 75, iv_c 2147483707, iv_c 2147483707]) (by decide +kernel) (by decide) (by decide +kernel) (x_rb_of (by decide +kernel)) rfl rfl (x_wr (by decide) (x_wi (by decide) (x_wi (by decide) x_wn))) x_wn (by decide) rfl ?_
          refine x_aload (np := 1) (x := 0) (by decide +kernel) rfl (x_nc_le (by decide)) ?_
          refine x_getC (np := 4) (x := 711) (f := 7) (q := (h2134 75 7)) (by decide +kernel) (by decide) (by decide +kernel) rfl (fun l2160 => ?_)
          refine x_aload (np := 5) (x := 0) (by decide +kernel) rfl (x_nc_le (by decide)) ?_
          have q2161 : h2134 75 8 = h2079 75 8 := jK 0 f2136 rg_75_8_0_1 (by first | decide | omega) (by first | decide | omega) (by decide)
          have q2162 : h2079 75 8 = h2036 75 8 := jK 0 f2081 rg_75_8_0_1 (by first | decide | omega) (by first | decide | omega) (by decide)
          have q2163 : h2036 75 8 = h2013 75 8 := jK 0 f2038 rg_75_8_0_1 (by first | decide | omega) (by first | decide | omega) (by decide)
          have q2164 : h2013 75 8 = h26 75 8 := jK 0 f2014 rg_75_8_0_1 (by first | decide | omega) (by first | decide | omega) (by decide)
          have q2165 : h26 75 8 = h15 75 8 := jK 0 f28 rg_75_8_0_1 (by first | decide | omega) (by first | decide | omega) (by decide)
          have q2166 : h15 75 8 = h11 75 8 := by rw [← e17]; exact x_up_i (by first | decide | omega)
          have q2167 : h11 75 8 = h7 75 8 := by rw [← e13]; exact x_up_i (by first | decide | omega)
          have q2168 : h7 75 8 = h3 75 8 := by rw [← e9]; exact x_up_i (by first | decide | omega)
          have q2169 : h3 75 8 = (h 75 6) := by rw [← e5]; exact x_up_at
          refine x_getC (np := 8) (x := 712) (f := 8) (q := (h 75 6)) (by decide +kernel) (by decide) (by decide +kernel) ((((((((q2161.trans q2162).trans q2163).trans q2164).trans q2165).trans q2166).trans q2167).trans q2168).trans q2169) (fun l2170 => ?_)
          refine x_icmp (k := 3) (tg := 41) (np := 11) (by decide +kernel) (by decide) l2147 l2 (fun q2171 => ?_) (fun q2172 => ?_)
          · have q2171 : (h 75 6) ≤ (h2134 75 7) := q2171
            refine x_const (np := 42) (x := 9223372039002259456) (a := 2147483648) (by decide +kernel) (by decide) (by decide) ?_
            refine x_retI (np := 43) (x := 0) (by decide +kernel) (by decide) (Or.inr ⟨by decide +kernel, by first | decide | omega, by first | decide | omega⟩) ⟨_, rfl, (by decide), ?_⟩
            refine x_ifz (k := 1) (tg := 117) (np := 115) (by decide +kernel) (by decide) (by decide) (fun q2173 => ?_) (fun q2174 => ?_)
            · have q2173 : 2147483648 ≠ 2147483648 := q2173
              exfalso; omega
            have q2174 : ¬ (2147483648 ≠ 2147483648) := q2174
            refine x_const (np := 116) (x := 9223372034707292159) (a := 2147483647) (by decide +kernel) (by decide) (by decide) ?_
            have q2175 : h2134 75 6 = h2079 75 6 := jK 0 f2136 rg_75_6_0_1 (by first | decide | omega) (by first | decide | omega) (by decide)
            have q2176 : h2079 75 6 = h2036 75 6 := jK 0 f2081 rg_75_6_0_1 (by first | decide | omega) (by first | decide | omega) (by decide)
            have q2177 : h2036 75 6 = h2013 75 6 := jK 0 f2038 rg_75_6_0_1 (by first | decide | omega) (by first | decide | omega) (by decide)
            have q2178 : h2013 75 6 = h26 75 6 := jK 0 f2014 rg_75_6_0_1 (by first | decide | omega) (by first | decide | omega) (by decide)
            have q2179 : h26 75 6 = h15 75 6 := jK 0 f28 rg_75_6_0_1 (by first | decide | omega) (by first | decide | omega) (by decide)
            have q2180 : h15 75 6 = h11 75 6 := by rw [← e17]; exact x_up_i (by first | decide | omega)
            have q2181 : h11 75 6 = h7 75 6 := by rw [← e13]; exact x_up_i (by first | decide | omega)
            have q2182 : h7 75 6 = 2147483648 := by rw [← e9]; exact x_up_at
            have b2183 := jB (e := 0) 0 hJ rg_78_0_0_1 (by first | decide | omega) (by first | decide | omega)
            have q2184 : h2134 78 0 = h2079 78 0 := jK 0 f2136 rg_78_0_0_1 (by first | decide | omega) (by first | decide | omega) (by decide)
            have q2185 : h2134 78 1 = h2079 78 1 := jK 0 f2136 rg_78_1_0_1 (by first | decide | omega) (by first | decide | omega) (by decide)
            have b2186 := jB (e := 2) 0 hJ rg_78_2_0_1 (by first | decide | omega) (by first | decide | omega)
            have q2187 : h2134 78 2 = h2079 78 2 := jK 0 f2136 rg_78_2_0_1 (by first | decide | omega) (by first | decide | omega) (by decide)
            have b2188 := jB (e := 2) 0 j2080 rg_78_2_0_1 (by first | decide | omega) (by first | decide | omega)
            have b2189 := jB (e := 3) 0 hJ rg_78_3_0_1 (by first | decide | omega) (by first | decide | omega)
            have q2190 : h2134 78 3 = h2079 78 3 := jK 0 f2136 rg_78_3_0_1 (by first | decide | omega) (by first | decide | omega) (by decide)
            have b2191 := jB (e := 3) 0 j2080 rg_78_3_0_1 (by first | decide | omega) (by first | decide | omega)
            have b2192 := jB (e := 4) 0 hJ rg_78_4_0_1 (by first | decide | omega) (by first | decide | omega)
            have q2193 : h2134 78 4 = h2079 78 4 := jK 0 f2136 rg_78_4_0_1 (by first | decide | omega) (by first | decide | omega) (by decide)
            have b2194 := jB (e := 4) 0 j2080 rg_78_4_0_1 (by first | decide | omega) (by first | decide | omega)
            have b2195 := jB (e := 5) 0 hJ rg_78_5_0_1 (by first | decide | omega) (by first | decide | omega)
            have q2196 : h2134 78 5 = h2079 78 5 := jK 0 f2136 rg_78_5_0_1 (by first | decide | omega) (by first | decide | omega) (by decide)
            have b2197 := jB (e := 5) 0 j2080 rg_78_5_0_1 (by first | decide | omega) (by first | decide | omega)
            have q2199 : h2036 76 0 = h2013 76 0 := jK 0 f2038 rg_76_0_0_1 (by first | decide | omega) (by first | decide | omega) (by decide)
            have q2200 : h2013 76 0 = h26 76 0 := jK 0 f2014 rg_76_0_0_1 (by first | decide | omega) (by first | decide | omega) (by decide)
            have q2201 : h26 76 0 = h15 76 0 := jK 0 f28 rg_76_0_0_1 (by first | decide | omega) (by first | decide | omega) (by decide)
            have q2202 : h15 76 0 = h11 76 0 := by rw [← e17]; exact x_up_k (by decide)
            have q2203 : h11 76 0 = h7 76 0 := by rw [← e13]; exact x_up_k (by decide)
            have q2204 : h7 76 0 = h3 76 0 := by rw [← e9]; exact x_up_k (by decide)
            have q2205 : h3 76 0 = h 76 0 := by rw [← e5]; exact x_up_k (by decide)
            have b2206 := jB (e := 0) 0 hJ rg_76_0_0_1 (by first | decide | omega) (by first | decide | omega)
            have q2207 : h2036 78 2 = h2013 78 2 := jK 0 f2038 rg_78_2_0_1 (by first | decide | omega) (by first | decide | omega) (by decide)
            have q2208 : h2036 78 3 = h2013 78 3 := jK 0 f2038 rg_78_3_0_1 (by first | decide | omega) (by first | decide | omega) (by decide)
            have q2209 : h2036 78 4 = h2013 78 4 := jK 0 f2038 rg_78_4_0_1 (by first | decide | omega) (by first | decide | omega) (by decide)
            have q2210 : h2036 78 5 = h2013 78 5 := jK 0 f2038 rg_78_5_0_1 (by first | decide | omega) (by first | decide | omega) (by decide)
            have k2198 := l9_pe (pe' := h 76 0) (l1 := h2013 78 2) (t1 := h2013 78 3) (d1 := h2013 78 4) (s1 := h2013 78 5) c2086 (by first | decide | omega) (by first | decide | omega) (by first | decide | omega) (by first | decide | omega) (by first | decide | omega)
            have q2211 : h2134 75 8 = h2079 75 8 := jK 0 f2136 rg_75_8_0_1 (by first | decide | omega) (by first | decide | omega) (by decide)
            have q2212 : h2079 75 8 = h2036 75 8 := jK 0 f2081 rg_75_8_0_1 (by first | decide | omega) (by first | decide | omega) (by decide)
            have q2213 : h2036 75 8 = h2013 75 8 := jK 0 f2038 rg_75_8_0_1 (by first | decide | omega) (by first | decide | omega) (by decide)
            have q2214 : h2013 75 8 = h26 75 8 := jK 0 f2014 rg_75_8_0_1 (by first | decide | omega) (by first | decide | omega) (by decide)
            have q2215 : h26 75 8 = h15 75 8 := jK 0 f28 rg_75_8_0_1 (by first | decide | omega) (by first | decide | omega) (by decide)
            have q2216 : h15 75 8 = h11 75 8 := by rw [← e17]; exact x_up_i (by first | decide | omega)
            have q2217 : h11 75 8 = h7 75 8 := by rw [← e13]; exact x_up_i (by first | decide | omega)
            have q2218 : h7 75 8 = h3 75 8 := by rw [← e9]; exact x_up_i (by first | decide | omega)
            have q2219 : h3 75 8 = (h 75 6) := by rw [← e5]; exact x_up_at
            have m2221 := Tq.fr m2133 f2136 (by decide) (by decide)
            have z2220 := m2221.1
            have z2222 := (Eq.trans c2141 (congrArg (sk tB tN) (show h2079 75 7 = h2079 75 7 by first | decide | omega)))
            refine x_retI (np := 117) (x := 0) (by decide +kernel) (by decide) (Or.inl (by decide +kernel)) ⟨_, rfl, (by decide), ?_⟩
            exact ⟨j2135, f2142, (by first | decide | omega), (by first | decide | omega), (fun z => by first | decide | omega), (fun z => by first | decide | omega), (fun z => absurd z (by first | decide | omega)), (Tt.r0 (by first | decide | omega) (Tl.bad m2019 (by first | decide | omega) k2198 c2043 (by first | decide | omega) (by first | decide | omega) (p2 := h2134 75 7) (fun z => by have z1 := z.1; have z2 := z.2; omega) (Eq.trans c2141 (congrArg (sk tB tN) (show h2079 75 7 = h2079 75 7 by first | decide | omega))))), (fun z => absurd z (by first | decide | omega)), (fun z => absurd z (by first | decide | omega)), (fun z => absurd z (by first | decide | omega))⟩
          have q2172 : ¬ ((h 75 6) ≤ (h2134 75 7)) := q2172
          refine x_aload (np := 12) (x := 0) (by decide +kernel) rfl (x_nc_le (by decide)) ?_
          have q2223 : h2134 75 5 = 79 := by have z := jB (e := 5) 0 j2135 rg_75_5_0_1 (by decide) (by decide); omega
          refine x_getR (np := 15) (x := 709) (f := 5) (q := 79) (by decide +kernel) (by decide) (by decide +kernel) q2223 ?_
          refine x_aload (np := 16) (x := 0) (by decide +kernel) rfl (x_nc_le (by decide)) ?_
          refine x_getC (np := 19) (x := 711) (f := 7) (q := (h2134 75 7)) (by decide +kernel) (by decide) (by decide +kernel) rfl (fun l2224 => ?_)
          obtain ⟨u2225, q2226⟩ : ∃ z, (h2134 75 7) = 2147483648 + z := ⟨(h2134 75 7) - 2147483648, by first | decide | omega⟩
          have q2227 : h2134 79 u2225 = h2079 79 u2225 := jK u2225 f2136 rg_79_0_1_400 (by first | decide | omega) (by first | decide | omega) (by decide)
          have q2228 : h2079 79 u2225 = h2036 79 u2225 := jK u2225 f2081 rg_79_0_1_400 (by first | decide | omega) (by first | decide | omega) (by decide)
          have q2229 : h2036 79 u2225 = h2013 79 u2225 := jK u2225 f2038 rg_79_0_1_400 (by first | decide | omega) (by first | decide | omega) (by decide)
          have q2230 : h2013 79 u2225 = h26 79 u2225 := jK u2225 f2014 rg_79_0_1_400 (by first | decide | omega) (by first | decide | omega) (by decide)
          have q2231 : h26 79 u2225 = h15 79 u2225 := jK u2225 f28 rg_79_0_1_400 (by first | decide | omega) (by first | decide | omega) (by decide)
          have q2232 : h15 79 u2225 = h11 79 u2225 := by rw [← e17]; exact x_up_k (by decide)
          have q2233 : h11 79 u2225 = h7 79 u2225 := by rw [← e13]; exact x_up_k (by decide)
          have q2234 : h7 79 u2225 = h3 79 u2225 := by rw [← e9]; exact x_up_k (by decide)
          have q2235 : h3 79 u2225 = h 79 u2225 := by rw [← e5]; exact x_up_k (by decide)
          have b2236 := jB (e := u2225) u2225 hJ rg_79_0_1_400 (by first | decide | omega) (by first | decide | omega)
          refine x_baldC (np := 20) (x := 0) (n := 400) (i := u2225) (q := (h 79 u2225)) (by decide +kernel) (by decide +kernel) (by first | decide | omega) (by first | decide | omega) (by decide) ((((((((q2227.trans q2228).trans q2229).trans q2230).trans q2231).trans q2232).trans q2233).trans q2234).trans q2235) (fun l2237 => ?_)
          refine x_iload (np := 21) (x := 1) (by decide +kernel) rfl (by decide) ?_
          refine x_icmp (k := 2) (tg := 41) (np := 24) (by decide +kernel) (by decide) l2237 (by decide) (fun q2238 => ?_) (fun q2239 => ?_)
          · have q2238 : (h 79 u2225) < 2147483707 := q2238
            refine x_const (np := 42) (x := 9223372039002259456) (a := 2147483648) (by decide +kernel) (by decide) (by decide) ?_
            refine x_retI (np := 43) (x := 0) (by decide +kernel) (by decide) (Or.inr ⟨by decide +kernel, by first | decide | omega, by first | decide | omega⟩) ⟨_, rfl, (by decide), ?_⟩
            refine x_ifz (k := 1) (tg := 117) (np := 115) (by decide +kernel) (by decide) (by decide) (fun q2240 => ?_) (fun q2241 => ?_)
            · have q2240 : 2147483648 ≠ 2147483648 := q2240
              exfalso; omega
            have q2241 : ¬ (2147483648 ≠ 2147483648) := q2241
            refine x_const (np := 116) (x := 9223372034707292159) (a := 2147483647) (by decide +kernel) (by decide) (by decide) ?_
            have q2242 : h2134 75 6 = h2079 75 6 := jK 0 f2136 rg_75_6_0_1 (by first | decide | omega) (by first | decide | omega) (by decide)
            have q2243 : h2079 75 6 = h2036 75 6 := jK 0 f2081 rg_75_6_0_1 (by first | decide | omega) (by first | decide | omega) (by decide)
            have q2244 : h2036 75 6 = h2013 75 6 := jK 0 f2038 rg_75_6_0_1 (by first | decide | omega) (by first | decide | omega) (by decide)
            have q2245 : h2013 75 6 = h26 75 6 := jK 0 f2014 rg_75_6_0_1 (by first | decide | omega) (by first | decide | omega) (by decide)
            have q2246 : h26 75 6 = h15 75 6 := jK 0 f28 rg_75_6_0_1 (by first | decide | omega) (by first | decide | omega) (by decide)
            have q2247 : h15 75 6 = h11 75 6 := by rw [← e17]; exact x_up_i (by first | decide | omega)
            have q2248 : h11 75 6 = h7 75 6 := by rw [← e13]; exact x_up_i (by first | decide | omega)
            have q2249 : h7 75 6 = 2147483648 := by rw [← e9]; exact x_up_at
            have b2250 := jB (e := 0) 0 hJ rg_78_0_0_1 (by first | decide | omega) (by first | decide | omega)
            have q2251 : h2134 78 0 = h2079 78 0 := jK 0 f2136 rg_78_0_0_1 (by first | decide | omega) (by first | decide | omega) (by decide)
            have q2252 : h2134 78 1 = h2079 78 1 := jK 0 f2136 rg_78_1_0_1 (by first | decide | omega) (by first | decide | omega) (by decide)
            have b2253 := jB (e := 2) 0 hJ rg_78_2_0_1 (by first | decide | omega) (by first | decide | omega)
            have q2254 : h2134 78 2 = h2079 78 2 := jK 0 f2136 rg_78_2_0_1 (by first | decide | omega) (by first | decide | omega) (by decide)
            have b2255 := jB (e := 2) 0 j2080 rg_78_2_0_1 (by first | decide | omega) (by first | decide | omega)
            have b2256 := jB (e := 3) 0 hJ rg_78_3_0_1 (by first | decide | omega) (by first | decide | omega)
            have q2257 : h2134 78 3 = h2079 78 3 := jK 0 f2136 rg_78_3_0_1 (by first | decide | omega) (by first | decide | omega) (by decide)
            have b2258 := jB (e := 3) 0 j2080 rg_78_3_0_1 (by first | decide | omega) (by first | decide | omega)
            have b2259 := jB (e := 4) 0 hJ rg_78_4_0_1 (by first | decide | omega) (by first | decide | omega)
            have q2260 : h2134 78 4 = h2079 78 4 := jK 0 f2136 rg_78_4_0_1 (by first | decide | omega) (by first | decide | omega) (by decide)
            have b2261 := jB (e := 4) 0 j2080 rg_78_4_0_1 (by first | decide | omega) (by first | decide | omega)
            have b2262 := jB (e := 5) 0 hJ rg_78_5_0_1 (by first | decide | omega) (by first | decide | omega)
            have q2263 : h2134 78 5 = h2079 78 5 := jK 0 f2136 rg_78_5_0_1 (by first | decide | omega) (by first | decide | omega) (by decide)
            have b2264 := jB (e := 5) 0 j2080 rg_78_5_0_1 (by first | decide | omega) (by first | decide | omega)
            have q2266 : h2036 76 0 = h2013 76 0 := jK 0 f2038 rg_76_0_0_1 (by first | decide | omega) (by first | decide | omega) (by decide)
            have q2267 : h2013 76 0 = h26 76 0 := jK 0 f2014 rg_76_0_0_1 (by first | decide | omega) (by first | decide | omega) (by decide)
            have q2268 : h26 76 0 = h15 76 0 := jK 0 f28 rg_76_0_0_1 (by first | decide | omega) (by first | decide | omega) (by decide)
            have q2269 : h15 76 0 = h11 76 0 := by rw [← e17]; exact x_up_k (by decide)
            have q2270 : h11 76 0 = h7 76 0 := by rw [← e13]; exact x_up_k (by decide)
            have q2271 : h7 76 0 = h3 76 0 := by rw [← e9]; exact x_up_k (by decide)
            have q2272 : h3 76 0 = h 76 0 := by rw [← e5]; exact x_up_k (by decide)
            have b2273 := jB (e := 0) 0 hJ rg_76_0_0_1 (by first | decide | omega) (by first | decide | omega)
            have q2274 : h2036 78 2 = h2013 78 2 := jK 0 f2038 rg_78_2_0_1 (by first | decide | omega) (by first | decide | omega) (by decide)
            have q2275 : h2036 78 3 = h2013 78 3 := jK 0 f2038 rg_78_3_0_1 (by first | decide | omega) (by first | decide | omega) (by decide)
            have q2276 : h2036 78 4 = h2013 78 4 := jK 0 f2038 rg_78_4_0_1 (by first | decide | omega) (by first | decide | omega) (by decide)
            have q2277 : h2036 78 5 = h2013 78 5 := jK 0 f2038 rg_78_5_0_1 (by first | decide | omega) (by first | decide | omega) (by decide)
            have k2265 := l9_pe (pe' := h 76 0) (l1 := h2013 78 2) (t1 := h2013 78 3) (d1 := h2013 78 4) (s1 := h2013 78 5) c2086 (by first | decide | omega) (by first | decide | omega) (by first | decide | omega) (by first | decide | omega) (by first | decide | omega)
            have q2278 : h2134 75 8 = h2079 75 8 := jK 0 f2136 rg_75_8_0_1 (by first | decide | omega) (by first | decide | omega) (by decide)
            have q2279 : h2079 75 8 = h2036 75 8 := jK 0 f2081 rg_75_8_0_1 (by first | decide | omega) (by first | decide | omega) (by decide)
            have q2280 : h2036 75 8 = h2013 75 8 := jK 0 f2038 rg_75_8_0_1 (by first | decide | omega) (by first | decide | omega) (by decide)
            have q2281 : h2013 75 8 = h26 75 8 := jK 0 f2014 rg_75_8_0_1 (by first | decide | omega) (by first | decide | omega) (by decide)
            have q2282 : h26 75 8 = h15 75 8 := jK 0 f28 rg_75_8_0_1 (by first | decide | omega) (by first | decide | omega) (by decide)
            have q2283 : h15 75 8 = h11 75 8 := by rw [← e17]; exact x_up_i (by first | decide | omega)
            have q2284 : h11 75 8 = h7 75 8 := by rw [← e13]; exact x_up_i (by first | decide | omega)
            have q2285 : h7 75 8 = h3 75 8 := by rw [← e9]; exact x_up_i (by first | decide | omega)
            have q2286 : h3 75 8 = (h 75 6) := by rw [← e5]; exact x_up_at
            have m2288 := Tq.fr m2133 f2136 (by decide) (by decide)
            have z2287 := m2288.1
            have z2289 := (Eq.trans c2141 (congrArg (sk tB tN) (show h2079 75 7 = h2079 75 7 by first | decide | omega)))
            have q2290 : h2134 79 u2225 = h2079 79 u2225 := jK u2225 f2136 rg_79_0_1_400 (by first | decide | omega) (by first | decide | omega) (by decide)
            have q2291 : h2079 79 u2225 = h2036 79 u2225 := jK u2225 f2081 rg_79_0_1_400 (by first | decide | omega) (by first | decide | omega) (by decide)
            have q2292 : h2036 79 u2225 = h2013 79 u2225 := jK u2225 f2038 rg_79_0_1_400 (by first | decide | omega) (by first | decide | omega) (by decide)
            have q2293 : h2013 79 u2225 = h26 79 u2225 := jK u2225 f2014 rg_79_0_1_400 (by first | decide | omega) (by first | decide | omega) (by decide)
            have q2294 : h26 79 u2225 = h15 79 u2225 := jK u2225 f28 rg_79_0_1_400 (by first | decide | omega) (by first | decide | omega) (by decide)
            have q2295 : h15 79 u2225 = h11 79 u2225 := by rw [← e17]; exact x_up_k (by decide)
            have q2296 : h11 79 u2225 = h7 79 u2225 := by rw [← e13]; exact x_up_k (by decide)
            have q2297 : h7 79 u2225 = h3 79 u2225 := by rw [← e9]; exact x_up_k (by decide)
            have q2298 : h3 79 u2225 = h 79 u2225 := by rw [← e5]; exact x_up_k (by decide)
            have z2299 := Tq.at (p := (h2134 75 7)) (u := u2225) m2288 (by first | decide | omega) (by first | decide | omega)
            refine x_retI (np := 117) (x := 0) (by decide +kernel) (by decide) (Or.inl (by decide +kernel)) ⟨_, rfl, (by decide), ?_⟩
            exact ⟨j2135, f2142, (by first | decide | omega), (by first | decide | omega), (fun z => by first | decide | omega), (fun z => by first | decide | omega), (fun z => absurd z (by first | decide | omega)), (Tt.r0 (by first | decide | omega) (Tl.bad m2019 (by first | decide | omega) k2265 c2043 (by first | decide | omega) (by first | decide | omega) (p2 := h2134 75 7) (fun z => by have z1 := z.1; have z2 := z.2; omega) (Eq.trans c2141 (congrArg (sk tB tN) (show h2079 75 7 = h2079 75 7 by first | decide | omega))))), (fun z => absurd z (by first | decide | omega)), (fun z => absurd z (by first | decide | omega)), (fun z => absurd z (by first | decide | omega))⟩
          have q2239 : ¬ ((h 79 u2225) < 2147483707) := q2239
          refine x_aload (np := 25) (x := 0) (by decide +kernel) rfl (x_nc_le (by decide)) ?_
          have q2300 : h2134 75 5 = 79 := by have z := jB (e := 5) 0 j2135 rg_75_5_0_1 (by decide) (by decide); omega
          refine x_getR (np := 28) (x := 709) (f := 5) (q := 79) (by decide +kernel) (by decide) (by decide +kernel) q2300 ?_
          refine x_aload (np := 29) (x := 0) (by decide +kernel) rfl (x_nc_le (by decide)) ?_
          refine x_getC (np := 32) (x := 711) (f := 7) (q := (h2134 75 7)) (by decide +kernel) (by decide) (by decide +kernel) rfl (fun l2301 => ?_)
          have q2302 : h2134 79 u2225 = h2079 79 u2225 := jK u2225 f2136 rg_79_0_1_400 (by first | decide | omega) (by first | decide | omega) (by decide)
          have q2303 : h2079 79 u2225 = h2036 79 u2225 := jK u2225 f2081 rg_79_0_1_400 (by first | decide | omega) (by first | decide | omega) (by decide)
          have q2304 : h2036 79 u2225 = h2013 79 u2225 := jK u2225 f2038 rg_79_0_1_400 (by first | decide | omega) (by first | decide | omega) (by decide)
          have q2305 : h2013 79 u2225 = h26 79 u2225 := jK u2225 f2014 rg_79_0_1_400 (by first | decide | omega) (by first | decide | omega) (by decide)
          have q2306 : h26 79 u2225 = h15 79 u2225 := jK u2225 f28 rg_79_0_1_400 (by first | decide | omega) (by first | decide | omega) (by decide)
          have q2307 : h15 79 u2225 = h11 79 u2225 := by rw [← e17]; exact x_up_k (by decide)
          have q2308 : h11 79 u2225 = h7 79 u2225 := by rw [← e13]; exact x_up_k (by decide)
          have q2309 : h7 79 u2225 = h3 79 u2225 := by rw [← e9]; exact x_up_k (by decide)
          have q2310 : h3 79 u2225 = h 79 u2225 := by rw [← e5]; exact x_up_k (by decide)
          refine x_baldC (np := 33) (x := 0) (n := 400) (i := u2225) (q := (h 79 u2225)) (by decide +kernel) (by decide +kernel) (by first | decide | omega) (by first | decide | omega) (by decide) ((((((((q2302.trans q2303).trans q2304).trans q2305).trans q2306).trans q2307).trans q2308).trans q2309).trans q2310) (fun l2311 => ?_)
          refine x_iload (np := 34) (x := 2) (by decide +kernel) rfl (by decide) ?_
          refine x_icmp (k := 4) (tg := 41) (np := 37) (by decide +kernel) (by decide) l2237 (by decide) (fun q2312 => ?_) (fun q2313 => ?_)
          · have q2312 : 2147483707 < (h 79 u2225) := q2312
            refine x_const (np := 42) (x := 9223372039002259456) (a := 2147483648) (by decide +kernel) (by decide) (by decide) ?_
            refine x_retI (np := 43) (x := 0) (by decide +kernel) (by decide) (Or.inr ⟨by decide +kernel, by first | decide | omega, by first | decide | omega⟩) ⟨_, rfl, (by decide), ?_⟩
            refine x_ifz (k := 1) (tg := 117) (np := 115) (by decide +kernel) (by decide) (by decide) (fun q2314 => ?_) (fun q2315 => ?_)
            · have q2314 : 2147483648 ≠ 2147483648 := q2314
              exfalso; omega
            have q2315 : ¬ (2147483648 ≠ 2147483648) := q2315
            refine x_const (np := 116) (x := 9223372034707292159) (a := 2147483647) (by decide +kernel) (by decide) (by decide) ?_
            have q2316 : h2134 75 6 = h2079 75 6 := jK 0 f2136 rg_75_6_0_1 (by first | decide | omega) (by first | decide | omega) (by decide)
            have q2317 : h2079 75 6 = h2036 75 6 := jK 0 f2081 rg_75_6_0_1 (by first | decide | omega) (by first | decide | omega) (by decide)
            have q2318 : h2036 75 6 = h2013 75 6 := jK 0 f2038 rg_75_6_0_1 (by first | decide | omega) (by first | decide | omega) (by decide)
            have q2319 : h2013 75 6 = h26 75 6 := jK 0 f2014 rg_75_6_0_1 (by first | decide | omega) (by first | decide | omega) (by decide)
            have q2320 : h26 75 6 = h15 75 6 := jK 0 f28 rg_75_6_0_1 (by first | decide | omega) (by first | decide | omega) (by decide)
            have q2321 : h15 75 6 = h11 75 6 := by rw [← e17]; exact x_up_i (by first | decide | omega)
            have q2322 : h11 75 6 = h7 75 6 := by rw [← e13]; exact x_up_i (by first | decide | omega)
            have q2323 : h7 75 6 = 2147483648 := by rw [← e9]; exact x_up_at
            have b2324 := jB (e := 0) 0 hJ rg_78_0_0_1 (by first | decide | omega) (by first | decide | omega)
            have q2325 : h2134 78 0 = h2079 78 0 := jK 0 f2136 rg_78_0_0_1 (by first | decide | omega) (by first | decide | omega) (by decide)
            have q2326 : h2134 78 1 = h2079 78 1 := jK 0 f2136 rg_78_1_0_1 (by first | decide | omega) (by first | decide | omega) (by decide)
            have b2327 := jB (e := 2) 0 hJ rg_78_2_0_1 (by first | decide | omega) (by first | decide | omega)
            have q2328 : h2134 78 2 = h2079 78 2 := jK 0 f2136 rg_78_2_0_1 (by first | decide | omega) (by first | decide | omega) (by decide)
            have b2329 := jB (e := 2) 0 j2080 rg_78_2_0_1 (by first | decide | omega) (by first | decide | omega)
            have b2330 := jB (e := 3) 0 hJ rg_78_3_0_1 (by first | decide | omega) (by first | decide | omega)
            have q2331 : h2134 78 3 = h2079 78 3 := jK 0 f2136 rg_78_3_0_1 (by first | decide | omega) (by first | decide | omega) (by decide)
            have b2332 := jB (e := 3) 0 j2080 rg_78_3_0_1 (by first | decide | omega) (by first | decide | omega)
            have b2333 := jB (e := 4) 0 hJ rg_78_4_0_1 (by first | decide | omega) (by first | decide | omega)
            have q2334 : h2134 78 4 = h2079 78 4 := jK 0 f2136 rg_78_4_0_1 (by first | decide | omega) (by first | decide | omega) (by decide)
            have b2335 := jB (e := 4) 0 j2080 rg_78_4_0_1 (by first | decide | omega) (by first | decide | omega)
            have b2336 := jB (e := 5) 0 hJ rg_78_5_0_1 (by first | decide | omega) (by first | decide | omega)
            have q2337 : h2134 78 5 = h2079 78 5 := jK 0 f2136 rg_78_5_0_1 (by first | decide | omega) (by first | decide | omega) (by decide)
            have b2338 := jB (e := 5) 0 j2080 rg_78_5_0_1 (by first | decide | omega) (by first | decide | omega)
            have q2340 : h2036 76 0 = h2013 76 0 := jK 0 f2038 rg_76_0_0_1 (by first | decide | omega) (by first | decide | omega) (by decide)
            have q2341 : h2013 76 0 = h26 76 0 := jK 0 f2014 rg_76_0_0_1 (by first | decide | omega) (by first | decide | omega) (by decide)
            have q2342 : h26 76 0 = h15 76 0 := jK 0 f28 rg_76_0_0_1 (by first | decide | omega) (by first | decide | omega) (by decide)
            have q2343 : h15 76 0 = h11 76 0 := by rw [← e17]; exact x_up_k (by decide)
            have q2344 : h11 76 0 = h7 76 0 := by rw [← e13]; exact x_up_k (by decide)
            have q2345 : h7 76 0 = h3 76 0 := by rw [← e9]; exact x_up_k (by decide)
            have q2346 : h3 76 0 = h 76 0 := by rw [← e5]; exact x_up_k (by decide)
            have b2347 := jB (e := 0) 0 hJ rg_76_0_0_1 (by first | decide | omega) (by first | decide | omega)
            have q2348 : h2036 78 2 = h2013 78 2 := jK 0 f2038 rg_78_2_0_1 (by first | decide | omega) (by first | decide | omega) (by decide)
            have q2349 : h2036 78 3 = h2013 78 3 := jK 0 f2038 rg_78_3_0_1 (by first | decide | omega) (by first | decide | omega) (by decide)
            have q2350 : h2036 78 4 = h2013 78 4 := jK 0 f2038 rg_78_4_0_1 (by first | decide | omega) (by first | decide | omega) (by decide)
            have q2351 : h2036 78 5 = h2013 78 5 := jK 0 f2038 rg_78_5_0_1 (by first | decide | omega) (by first | decide | omega) (by decide)
            have k2339 := l9_pe (pe' := h 76 0) (l1 := h2013 78 2) (t1 := h2013 78 3) (d1 := h2013 78 4) (s1 := h2013 78 5) c2086 (by first | decide | omega) (by first | decide | omega) (by first | decide | omega) (by first | decide | omega) (by first | decide | omega)
            have q2352 : h2134 75 8 = h2079 75 8 := jK 0 f2136 rg_75_8_0_1 (by first | decide | omega) (by first | decide | omega) (by decide)
            have q2353 : h2079 75 8 = h2036 75 8 := jK 0 f2081 rg_75_8_0_1 (by first | decide | omega) (by first | decide | omega) (by decide)
            have q2354 : h2036 75 8 = h2013 75 8 := jK 0 f2038 rg_75_8_0_1 (by first | decide | omega) (by first | decide | omega) (by decide)
            have q2355 : h2013 75 8 = h26 75 8 := jK 0 f2014 rg_75_8_0_1 (by first | decide | omega) (by first | decide | omega) (by decide)
            have q2356 : h26 75 8 = h15 75 8 := jK 0 f28 rg_75_8_0_1 (by first | decide | omega) (by first | decide | omega) (by decide)
            have q2357 : h15 75 8 = h11 75 8 := by rw [← e17]; exact x_up_i (by first | decide | omega)
            have q2358 : h11 75 8 = h7 75 8 := by rw [← e13]; exact x_up_i (by first | decide | omega)
            have q2359 : h7 75 8 = h3 75 8 := by rw [← e9]; exact x_up_i (by first | decide | omega)
            have q2360 : h3 75 8 = (h 75 6) := by rw [← e5]; exact x_up_at
            have m2362 := Tq.fr m2133 f2136 (by decide) (by decide)
            have z2361 := m2362.1
            have z2363 := (Eq.trans c2141 (congrArg (sk tB tN) (show h2079 75 7 = h2079 75 7 by first | decide | omega)))
            have q2364 : h2134 79 u2225 = h2079 79 u2225 := jK u2225 f2136 rg_79_0_1_400 (by first | decide | omega) (by first | decide | omega) (by decide)
            have q2365 : h2079 79 u2225 = h2036 79 u2225 := jK u2225 f2081 rg_79_0_1_400 (by first | decide | omega) (by first | decide | omega) (by decide)
            have q2366 : h2036 79 u2225 = h2013 79 u2225 := jK u2225 f2038 rg_79_0_1_400 (by first | decide | omega) (by first | decide | omega) (by decide)
            have q2367 : h2013 79 u2225 = h26 79 u2225 := jK u2225 f2014 rg_79_0_1_400 (by first | decide | omega) (by first | decide | omega) (by decide)
            have q2368 : h26 79 u2225 = h15 79 u2225 := jK u2225 f28 rg_79_0_1_400 (by first | decide | omega) (by first | decide | omega) (by decide)
            have q2369 : h15 79 u2225 = h11 79 u2225 := by rw [← e17]; exact x_up_k (by decide)
            have q2370 : h11 79 u2225 = h7 79 u2225 := by rw [← e13]; exact x_up_k (by decide)
            have q2371 : h7 79 u2225 = h3 79 u2225 := by rw [← e9]; exact x_up_k (by decide)
            have q2372 : h3 79 u2225 = h 79 u2225 := by rw [← e5]; exact x_up_k (by decide)
            have z2373 := Tq.at (p := (h2134 75 7)) (u := u2225) m2362 (by first | decide | omega) (by first | decide | omega)
            refine x_retI (np := 117) (x := 0) (by decide +kernel) (by decide) (Or.inl (by decide +kernel)) ⟨_, rfl, (by decide), ?_⟩
            exact ⟨j2135, f2142, (by first | decide | omega), (by first | decide | omega), (fun z => by first | decide | omega), (fun z => by first | decide | omega), (fun z => absurd z (by first | decide | omega)), (Tt.r0 (by first | decide | omega) (Tl.bad m2019 (by first | decide | omega) k2339 c2043 (by first | decide | omega) (by first | decide | omega) (p2 := h2134 75 7) (fun z => by have z1 := z.1; have z2 := z.2; omega) (Eq.trans c2141 (congrArg (sk tB tN) (show h2079 75 7 = h2079 75 7 by first | decide | omega))))), (fun z => absurd z (by first | decide | omega)), (fun z => absurd z (by first | decide | omega)), (fun z => absurd z (by first | decide | omega))⟩
          have q2313 : ¬ (2147483707 < (h 79 u2225)) := q2313
          refine x_const (np := 38) (x := 9223372043297226753) (a := 2147483649) (by decide +kernel) (by decide) (by decide) ?_
          refine x_goto (np := 41) (x := 42) (by decide +kernel) ?_
          refine x_retI (np := 43) (x := 0) (by decide +kernel) (by decide) (Or.inr ⟨by decide +kernel, by first | decide | omega, by first | decide | omega⟩) ⟨_, rfl, (by decide), ?_⟩
          refine x_ifz (k := 1) (tg := 117) (np := 115) (by decide +kernel) (by decide) (by decide) (fun q2374 => ?_) (fun q2375 => ?_)
          · have q2374 : 2147483649 ≠ 2147483648 := q2374
            refine x_aload (np := 118) (x := 0) (by decide +kernel) rfl (x_nc_le (by decide)) ?_
            refine x_dup (np := 119) (x := 0) (by decide +kernel) (by have z := x_nc_le (k := 75) (by decide); unfold x_r; omega) ?_
            refine x_getC (np := 122) (x := 711) (f := 7) (q := (h2134 75 7)) (by decide +kernel) (by decide) (by decide +kernel) rfl (fun l2376 => ?_)
            refine x_const (np := 123) (x := 9223372043297226753) (a := 2147483649) (by decide +kernel) (by decide) (by decide) ?_
            refine x_iadd (np := 124) (x := 0) (v := (1 + (h2134 75 7))) (by decide +kernel) l2147 (by decide) (by first | decide | omega) (by first | decide | omega) ?_
            refine x_putI (np := 127) (x := 711) (f := 7) (by decide +kernel) (by decide +kernel) (by first | decide | omega) (Or.inl (by decide)) ?_
            have j2378 := jU (e := 7) (v := (1 + (h2134 75 7))) 0 j2135 rg_75_7_0_1 (by first | decide | omega) (by first | decide | omega) (by first | decide | omega)
            have f2380 := jF (e := 7) (v := (1 + (h2134 75 7))) 0 f2142 rg_75_7_0_1 (by first | decide | omega) (by first | decide | omega) (by decide)
            have f2381 := jF (e := 7) (v := (1 + (h2134 75 7))) 0 f2143 rg_75_7_0_1 (by first | decide | omega) (by first | decide | omega) (by decide)
            generalize e2379 : x_up h2134 75 7 (1 + (h2134 75 7)) = h2377 at j2378 f2380 f2381 ⊢
            refine x_iinc (np := 130) (i := 2) (j := 2147483649) (v := (1 + v2011)) (lo' := [x_r 75, iv_c 2147483649, iv_c (1 + v2011)]) (by decide +kernel) (by decide) (by decide) rfl (by first | decide | omega) (by first | decide | omega) (by first | decide | omega) rfl ?_
            refine x_goto (np := 133) (x := 42) (by decide +kernel) ?_
            have b2382 := jB (e := 0) 0 hJ rg_78_0_0_1 (by first | decide | omega) (by first | decide | omega)
            have q2383 : h2377 78 0 = h2134 78 0 := by rw [← e2379]; exact x_up_k (by decide)
            have q2384 : h2134 78 0 = h2079 78 0 := jK 0 f2136 rg_78_0_0_1 (by first | decide | omega) (by first | decide | omega) (by decide)
            have q2385 : h2377 78 1 = h2134 78 1 := by rw [← e2379]; exact x_up_k (by decide)
            have q2386 : h2134 78 1 = h2079 78 1 := jK 0 f2136 rg_78_1_0_1 (by first | decide | omega) (by first | decide | omega) (by decide)
            have m2388 := Cl.fr m2129 f2136 (by decide)
            have m2387 : Cl h2377 := by rw [← e2379]; exact Cl.oth m2388 (by decide)
            have q2389 : h2377 75 7 = (1 + (h2134 75 7)) := by rw [← e2379]; exact x_up_at
            have q2390 : h2134 75 8 = h2079 75 8 := jK 0 f2136 rg_75_8_0_1 (by first | decide | omega) (by first | decide | omega) (by decide)
            have q2391 : h2079 75 8 = h2036 75 8 := jK 0 f2081 rg_75_8_0_1 (by first | decide | omega) (by first | decide | omega) (by decide)
            have q2392 : h2036 75 8 = h2013 75 8 := jK 0 f2038 rg_75_8_0_1 (by first | decide | omega) (by first | decide | omega) (by decide)
            have q2393 : h2013 75 8 = h26 75 8 := jK 0 f2014 rg_75_8_0_1 (by first | decide | omega) (by first | decide | omega) (by decide)
            have q2394 : h26 75 8 = h15 75 8 := jK 0 f28 rg_75_8_0_1 (by first | decide | omega) (by first | decide | omega) (by decide)
            have q2395 : h15 75 8 = h11 75 8 := by rw [← e17]; exact x_up_i (by first | decide | omega)
            have q2396 : h11 75 8 = h7 75 8 := by rw [← e13]; exact x_up_i (by first | decide | omega)
            have q2397 : h7 75 8 = h3 75 8 := by rw [← e9]; exact x_up_i (by first | decide | omega)
            have q2398 : h3 75 8 = (h 75 6) := by rw [← e5]; exact x_up_at
            have m2400 := Tq.fr m2133 f2136 (by decide) (by decide)
            have z2399 := m2400.1
            have q2401 : h2134 79 u2225 = h2079 79 u2225 := jK u2225 f2136 rg_79_0_1_400 (by first | decide | omega) (by first | decide | omega) (by decide)
            have q2402 : h2079 79 u2225 = h2036 79 u2225 := jK u2225 f2081 rg_79_0_1_400 (by first | decide | omega) (by first | decide | omega) (by decide)
            have q2403 : h2036 79 u2225 = h2013 79 u2225 := jK u2225 f2038 rg_79_0_1_400 (by first | decide | omega) (by first | decide | omega) (by decide)
            have q2404 : h2013 79 u2225 = h26 79 u2225 := jK u2225 f2014 rg_79_0_1_400 (by first | decide | omega) (by first | decide | omega) (by decide)
            have q2405 : h26 79 u2225 = h15 79 u2225 := jK u2225 f28 rg_79_0_1_400 (by first | decide | omega) (by first | decide | omega) (by decide)
            have q2406 : h15 79 u2225 = h11 79 u2225 := by rw [← e17]; exact x_up_k (by decide)
            have q2407 : h11 79 u2225 = h7 79 u2225 := by rw [← e13]; exact x_up_k (by decide)
            have q2408 : h7 79 u2225 = h3 79 u2225 := by rw [← e9]; exact x_up_k (by decide)
            have q2409 : h3 79 u2225 = h 79 u2225 := by rw [← e5]; exact x_up_k (by decide)
            have z2410 := Tq.at (p := (h2134 75 7)) (u := u2225) m2400 (by first | decide | omega) (by first | decide | omega)
            have q2413 : h2036 76 0 = h2013 76 0 := jK 0 f2038 rg_76_0_0_1 (by first | decide | omega) (by first | decide | omega) (by decide)
            have q2414 : h2013 76 0 = h26 76 0 := jK 0 f2014 rg_76_0_0_1 (by first | decide | omega) (by first | decide | omega) (by decide)
            have q2415 : h26 76 0 = h15 76 0 := jK 0 f28 rg_76_0_0_1 (by first | decide | omega) (by first | decide | omega) (by decide)
            have q2416 : h15 76 0 = h11 76 0 := by rw [← e17]; exact x_up_k (by decide)
            have q2417 : h11 76 0 = h7 76 0 := by rw [← e13]; exact x_up_k (by decide)
            have q2418 : h7 76 0 = h3 76 0 := by rw [← e9]; exact x_up_k (by decide)
            have q2419 : h3 76 0 = h 76 0 := by rw [← e5]; exact x_up_k (by decide)
            have b2420 := jB (e := 0) 0 hJ rg_76_0_0_1 (by first | decide | omega) (by first | decide | omega)
            have q2421 : h2036 78 2 = h2013 78 2 := jK 0 f2038 rg_78_2_0_1 (by first | decide | omega) (by first | decide | omega) (by decide)
            have q2422 : h2036 78 3 = h2013 78 3 := jK 0 f2038 rg_78_3_0_1 (by first | decide | omega) (by first | decide | omega) (by decide)
            have q2423 : h2036 78 4 = h2013 78 4 := jK 0 f2038 rg_78_4_0_1 (by first | decide | omega) (by first | decide | omega) (by decide)
            have q2424 : h2036 78 5 = h2013 78 5 := jK 0 f2038 rg_78_5_0_1 (by first | decide | omega) (by first | decide | omega) (by decide)
            have k2412 := l9_pe (pe' := h 76 0) (l1 := h2013 78 2) (t1 := h2013 78 3) (d1 := h2013 78 4) (s1 := h2013 78 5) c2086 (by first | decide | omega) (by first | decide | omega) (by first | decide | omega) (by first | decide | omega) (by first | decide | omega)
            have q2425 : h2377 78 2 = h2134 78 2 := by rw [← e2379]; exact x_up_k (by decide)
            have q2426 : h2134 78 2 = h2079 78 2 := jK 0 f2136 rg_78_2_0_1 (by first | decide | omega) (by first | decide | omega) (by decide)
            have b2427 := jB (e := 2) 0 j2080 rg_78_2_0_1 (by first | decide | omega) (by first | decide | omega)
            have q2428 : h2377 78 3 = h2134 78 3 := by rw [← e2379]; exact x_up_k (by decide)
            have q2429 : h2134 78 3 = h2079 78 3 := jK 0 f2136 rg_78_3_0_1 (by first | decide | omega) (by first | decide | omega) (by decide)
            have b2430 := jB (e := 3) 0 j2080 rg_78_3_0_1 (by first | decide | omega) (by first | decide | omega)
            have q2431 : h2377 78 4 = h2134 78 4 := by rw [← e2379]; exact x_up_k (by decide)
            have q2432 : h2134 78 4 = h2079 78 4 := jK 0 f2136 rg_78_4_0_1 (by first | decide | omega) (by first | decide | omega) (by decide)
            have b2433 := jB (e := 4) 0 j2080 rg_78_4_0_1 (by first | decide | omega) (by first | decide | omega)
            have q2434 : h2377 78 5 = h2134 78 5 := by rw [← e2379]; exact x_up_k (by decide)
            have q2435 : h2134 78 5 = h2079 78 5 := jK 0 f2136 rg_78_5_0_1 (by first | decide | omega) (by first | decide | omega) (by decide)
            have b2436 := jB (e := 5) 0 j2080 rg_78_5_0_1 (by first | decide | omega) (by first | decide | omega)
            have m2411 : Tl tB tN (h 76 0) (h 78 2) (h 78 3) (h 78 4) (h 78 5) (2147483662 - (1 + v2011)) (h2377 78 2) (h2377 78 3) (h2377 78 4) (h2377 78 5) (sk tB tN (h2377 75 7)) := by
              rw [show h2377 78 2 = h2079 78 2 by first | decide | omega, show h2377 78 3 = h2079 78 3 by first | decide | omega, show h2377 78 4 = h2079 78 4 by first | decide | omega, show h2377 78 5 = h2079 78 5 by first | decide | omega]
              exact Tl.go (m' := 2147483662 - (1 + v2011)) m2019 (by first | decide | omega) k2412 c2043 (by first | decide | omega) (p2 := h2134 75 7) ⟨by first | decide | omega, by first | decide | omega⟩ (Eq.trans c2141 (congrArg (sk tB tN) (show h2079 75 7 = h2079 75 7 by first | decide | omega))) (q1 := sk tB tN (h2134 75 7 + 1)) rfl (congrArg (sk tB tN) (show h2134 75 7 + 1 = h2377 75 7 by first | decide | omega))
            have q2437 : h2036 78 3 = h2013 78 3 := jK 0 f2038 rg_78_3_0_1 (by first | decide | omega) (by first | decide | omega) (by decide)
            have q2438 : h2377 78 3 = h2134 78 3 := by rw [← e2379]; exact x_up_k (by decide)
            have q2439 : h2134 78 3 = h2079 78 3 := jK 0 f2136 rg_78_3_0_1 (by first | decide | omega) (by first | decide | omega) (by decide)
            have m2440 : ∀ u, u < 10 → wdr h2036 u = wdr h2013 u := fun u hu => (wdr_gr f2038 (by decide) u hu)
            have m2441 : ∀ u, u < 10 → wdr h2377 u = wdr h2079 u := fun u hu => (Eq.trans (show wdr h2377 u = wdr h2134 u by rw [← e2379]; exact wdr_k (by decide)) (wdr_gr f2136 (by decide) u hu))
            have q2442 : h2377 75 7 = (1 + (h2134 75 7)) := by rw [← e2379]; exact x_up_at
            have q2443 : h2134 75 8 = h2079 75 8 := jK 0 f2136 rg_75_8_0_1 (by first | decide | omega) (by first | decide | omega) (by decide)
            have q2444 : h2079 75 8 = h2036 75 8 := jK 0 f2081 rg_75_8_0_1 (by first | decide | omega) (by first | decide | omega) (by decide)
            have q2445 : h2036 75 8 = h2013 75 8 := jK 0 f2038 rg_75_8_0_1 (by first | decide | omega) (by first | decide | omega) (by decide)
            have q2446 : h2013 75 8 = h26 75 8 := jK 0 f2014 rg_75_8_0_1 (by first | decide | omega) (by first | decide | omega) (by decide)
            have q2447 : h26 75 8 = h15 75 8 := jK 0 f28 rg_75_8_0_1 (by first | decide | omega) (by first | decide | omega) (by decide)
            have q2448 : h15 75 8 = h11 75 8 := by rw [← e17]; exact x_up_i (by first | decide | omega)
            have q2449 : h11 75 8 = h7 75 8 := by rw [← e13]; exact x_up_i (by first | decide | omega)
            have q2450 : h7 75 8 = h3 75 8 := by rw [← e9]; exact x_up_i (by first | decide | omega)
            have q2451 : h3 75 8 = (h 75 6) := by rw [← e5]; exact x_up_at
            have z2452 := m2400.1
            have q2453 : h2134 79 u2225 = h2079 79 u2225 := jK u2225 f2136 rg_79_0_1_400 (by first | decide | omega) (by first | decide | omega) (by decide)
            have q2454 : h2079 79 u2225 = h2036 79 u2225 := jK u2225 f2081 rg_79_0_1_400 (by first | decide | omega) (by first | decide | omega) (by decide)
            have q2455 : h2036 79 u2225 = h2013 79 u2225 := jK u2225 f2038 rg_79_0_1_400 (by first | decide | omega) (by first | decide | omega) (by decide)
            have q2456 : h2013 79 u2225 = h26 79 u2225 := jK u2225 f2014 rg_79_0_1_400 (by first | decide | omega) (by first | decide | omega) (by decide)
            have q2457 : h26 79 u2225 = h15 79 u2225 := jK u2225 f28 rg_79_0_1_400 (by first | decide | omega) (by first | decide | omega) (by decide)
            have q2458 : h15 79 u2225 = h11 79 u2225 := by rw [← e17]; exact x_up_k (by decide)
            have q2459 : h11 79 u2225 = h7 79 u2225 := by rw [← e13]; exact x_up_k (by decide)
            have q2460 : h7 79 u2225 = h3 79 u2225 := by rw [← e9]; exact x_up_k (by decide)
            have q2461 : h3 79 u2225 = h 79 u2225 := by rw [← e5]; exact x_up_k (by decide)
            have z2462 := Tq.at (p := (h2134 75 7)) (u := u2225) m2400 (by first | decide | omega) (by first | decide | omega)
            have q2465 : h2036 76 0 = h2013 76 0 := jK 0 f2038 rg_76_0_0_1 (by first | decide | omega) (by first | decide | omega) (by decide)
            have q2466 : h2013 76 0 = h26 76 0 := jK 0 f2014 rg_76_0_0_1 (by first | decide | omega) (by first | decide | omega) (by decide)
            have q2467 : h26 76 0 = h15 76 0 := jK 0 f28 rg_76_0_0_1 (by first | decide | omega) (by first | decide | omega) (by decide)
            have q2468 : h15 76 0 = h11 76 0 := by rw [← e17]; exact x_up_k (by decide)
            have q2469 : h11 76 0 = h7 76 0 := by rw [← e13]; exact x_up_k (by decide)
            have q2470 : h7 76 0 = h3 76 0 := by rw [← e9]; exact x_up_k (by decide)
            have q2471 : h3 76 0 = h 76 0 := by rw [← e5]; exact x_up_k (by decide)
            have q2472 : h2036 78 2 = h2013 78 2 := jK 0 f2038 rg_78_2_0_1 (by first | decide | omega) (by first | decide | omega) (by decide)
            have q2473 : h2036 78 3 = h2013 78 3 := jK 0 f2038 rg_78_3_0_1 (by first | decide | omega) (by first | decide | omega) (by decide)
            have q2474 : h2036 78 4 = h2013 78 4 := jK 0 f2038 rg_78_4_0_1 (by first | decide | omega) (by first | decide | omega) (by decide)
            have q2475 : h2036 78 5 = h2013 78 5 := jK 0 f2038 rg_78_5_0_1 (by first | decide | omega) (by first | decide | omega) (by decide)
            have k2464 := l9_pe (pe' := h 76 0) (l1 := h2013 78 2) (t1 := h2013 78 3) (d1 := h2013 78 4) (s1 := h2013 78 5) c2086 (by first | decide | omega) (by first | decide | omega) (by first | decide | omega) (by first | decide | omega) (by first | decide | omega)
            have q2476 : h2036 76 0 = h2013 76 0 := jK 0 f2038 rg_76_0_0_1 (by first | decide | omega) (by first | decide | omega) (by decide)
            have q2477 : h2013 76 0 = h26 76 0 := jK 0 f2014 rg_76_0_0_1 (by first | decide | omega) (by first | decide | omega) (by decide)
            have q2478 : h26 76 0 = h15 76 0 := jK 0 f28 rg_76_0_0_1 (by first | decide | omega) (by first | decide | omega) (by decide)
            have q2479 : h15 76 0 = h11 76 0 := by rw [← e17]; exact x_up_k (by decide)
            have q2480 : h11 76 0 = h7 76 0 := by rw [← e13]; exact x_up_k (by decide)
            have q2481 : h7 76 0 = h3 76 0 := by rw [← e9]; exact x_up_k (by decide)
            have q2482 : h3 76 0 = h 76 0 := by rw [← e5]; exact x_up_k (by decide)
            have m2483 : ∀ u, u < 6 → xd h2036 u = xd h2013 u := fun u hu => (xd_gr f2038 (by decide) u hu)
            have m2484 : ∀ u, u < 6 → xd h2377 u = xd h2079 u := fun u hu => (Eq.trans (show xd h2377 u = xd h2134 u by rw [← e2379]; exact xd_k (by decide)) (xd_gr f2136 (by decide) u hu))
            have q2485 : h2377 78 2 = h2134 78 2 := by rw [← e2379]; exact x_up_k (by decide)
            have q2486 : h2134 78 2 = h2079 78 2 := jK 0 f2136 rg_78_2_0_1 (by first | decide | omega) (by first | decide | omega) (by decide)
            have q2487 : h2377 78 3 = h2134 78 3 := by rw [← e2379]; exact x_up_k (by decide)
            have q2488 : h2134 78 3 = h2079 78 3 := jK 0 f2136 rg_78_3_0_1 (by first | decide | omega) (by first | decide | omega) (by decide)
            have q2489 : h2377 78 4 = h2134 78 4 := by rw [← e2379]; exact x_up_k (by decide)
            have q2490 : h2134 78 4 = h2079 78 4 := jK 0 f2136 rg_78_4_0_1 (by first | decide | omega) (by first | decide | omega) (by decide)
            have q2491 : h2377 78 5 = h2134 78 5 := by rw [← e2379]; exact x_up_k (by decide)
            have q2492 : h2134 78 5 = h2079 78 5 := jK 0 f2136 rg_78_5_0_1 (by first | decide | omega) (by first | decide | omega) (by decide)
            have m2463 : Txl tB tN (h 76 0) (h 78 2) (h 78 3) (h 78 4) (h 78 5) (xd h) (2147483662 - (1 + v2011)) (h2377 78 2) (h2377 78 3) (h2377 78 4) (h2377 78 5) (sk tB tN (h2377 75 7)) (xd h2377) := by
              rw [show h2377 78 2 = h2079 78 2 by first | decide | omega, show h2377 78 3 = h2079 78 3 by first | decide | omega, show h2377 78 4 = h2079 78 4 by first | decide | omega, show h2377 78 5 = h2079 78 5 by first | decide | omega]
              exact Txl.go (m' := 2147483662 - (1 + v2011)) m2021 (by first | decide | omega) k2464 c2043 (by first | decide | omega) (p2 := h2134 75 7) ⟨by first | decide | omega, by first | decide | omega⟩ (Eq.trans c2141 (congrArg (sk tB tN) (show h2079 75 7 = h2079 75 7 by first | decide | omega))) (q1 := sk tB tN (h2134 75 7 + 1)) rfl (congrArg (sk tB tN) (show h2134 75 7 + 1 = h2377 75 7 by first | decide | omega)) (Lx.cst (pe' := h 76 0) (c2088 (by first | decide | omega)) (by first | decide | omega)) m2483 m2484
            have q2493 : h2377 75 7 = (1 + (h2134 75 7)) := by rw [← e2379]; exact x_up_at
            have q2494 : h2134 75 8 = h2079 75 8 := jK 0 f2136 rg_75_8_0_1 (by first | decide | omega) (by first | decide | omega) (by decide)
            have q2495 : h2079 75 8 = h2036 75 8 := jK 0 f2081 rg_75_8_0_1 (by first | decide | omega) (by first | decide | omega) (by decide)
            have q2496 : h2036 75 8 = h2013 75 8 := jK 0 f2038 rg_75_8_0_1 (by first | decide | omega) (by first | decide | omega) (by decide)
            have q2497 : h2013 75 8 = h26 75 8 := jK 0 f2014 rg_75_8_0_1 (by first | decide | omega) (by first | decide | omega) (by decide)
            have q2498 : h26 75 8 = h15 75 8 := jK 0 f28 rg_75_8_0_1 (by first | decide | omega) (by first | decide | omega) (by decide)
            have q2499 : h15 75 8 = h11 75 8 := by rw [← e17]; exact x_up_i (by first | decide | omega)
            have q2500 : h11 75 8 = h7 75 8 := by rw [← e13]; exact x_up_i (by first | decide | omega)
            have q2501 : h7 75 8 = h3 75 8 := by rw [← e9]; exact x_up_i (by first | decide | omega)
            have q2502 : h3 75 8 = (h 75 6) := by rw [← e5]; exact x_up_at
            have z2503 := m2400.1
            have q2504 : h2134 79 u2225 = h2079 79 u2225 := jK u2225 f2136 rg_79_0_1_400 (by first | decide | omega) (by first | decide | omega) (by decide)
            have q2505 : h2079 79 u2225 = h2036 79 u2225 := jK u2225 f2081 rg_79_0_1_400 (by first | decide | omega) (by first | decide | omega) (by decide)
            have q2506 : h2036 79 u2225 = h2013 79 u2225 := jK u2225 f2038 rg_79_0_1_400 (by first | decide | omega) (by first | decide | omega) (by decide)
            have q2507 : h2013 79 u2225 = h26 79 u2225 := jK u2225 f2014 rg_79_0_1_400 (by first | decide | omega) (by first | decide | omega) (by decide)
            have q2508 : h26 79 u2225 = h15 79 u2225 := jK u2225 f28 rg_79_0_1_400 (by first | decide | omega) (by first | decide | omega) (by decide)
            have q2509 : h15 79 u2225 = h11 79 u2225 := by rw [← e17]; exact x_up_k (by decide)
            have q2510 : h11 79 u2225 = h7 79 u2225 := by rw [← e13]; exact x_up_k (by decide)
            have q2511 : h7 79 u2225 = h3 79 u2225 := by rw [← e9]; exact x_up_k (by decide)
            have q2512 : h3 79 u2225 = h 79 u2225 := by rw [← e5]; exact x_up_k (by decide)
            have z2513 := Tq.at (p := (h2134 75 7)) (u := u2225) m2400 (by first | decide | omega) (by first | decide | omega)
            have q2516 : h2036 76 0 = h2013 76 0 := jK 0 f2038 rg_76_0_0_1 (by first | decide | omega) (by first | decide | omega) (by decide)
            have q2517 : h2013 76 0 = h26 76 0 := jK 0 f2014 rg_76_0_0_1 (by first | decide | omega) (by first | decide | omega) (by decide)
            have q2518 : h26 76 0 = h15 76 0 := jK 0 f28 rg_76_0_0_1 (by first | decide | omega) (by first | decide | omega) (by decide)
            have q2519 : h15 76 0 = h11 76 0 := by rw [← e17]; exact x_up_k (by decide)
            have q2520 : h11 76 0 = h7 76 0 := by rw [← e13]; exact x_up_k (by decide)
            have q2521 : h7 76 0 = h3 76 0 := by rw [← e9]; exact x_up_k (by decide)
            have q2522 : h3 76 0 = h 76 0 := by rw [← e5]; exact x_up_k (by decide)
            have q2523 : h2036 78 2 = h2013 78 2 := jK 0 f2038 rg_78_2_0_1 (by first | decide | omega) (by first | decide | omega) (by decide)
            have q2524 : h2036 78 3 = h2013 78 3 := jK 0 f2038 rg_78_3_0_1 (by first | decide | omega) (by first | decide | omega) (by decide)
            have q2525 : h2036 78 4 = h2013 78 4 := jK 0 f2038 rg_78_4_0_1 (by first | decide | omega) (by first | decide | omega) (by decide)
            have q2526 : h2036 78 5 = h2013 78 5 := jK 0 f2038 rg_78_5_0_1 (by first | decide | omega) (by first | decide | omega) (by decide)
            have k2515 := l9_pe (pe' := h 76 0) (l1 := h2013 78 2) (t1 := h2013 78 3) (d1 := h2013 78 4) (s1 := h2013 78 5) c2086 (by first | decide | omega) (by first | decide | omega) (by first | decide | omega) (by first | decide | omega) (by first | decide | omega)
            have q2527 : h2036 76 0 = h2013 76 0 := jK 0 f2038 rg_76_0_0_1 (by first | decide | omega) (by first | decide | omega) (by decide)
            have q2528 : h2013 76 0 = h26 76 0 := jK 0 f2014 rg_76_0_0_1 (by first | decide | omega) (by first | decide | omega) (by decide)
            have q2529 : h26 76 0 = h15 76 0 := jK 0 f28 rg_76_0_0_1 (by first | decide | omega) (by first | decide | omega) (by decide)
            have q2530 : h15 76 0 = h11 76 0 := by rw [← e17]; exact x_up_k (by decide)
            have q2531 : h11 76 0 = h7 76 0 := by rw [← e13]; exact x_up_k (by decide)
            have q2532 : h7 76 0 = h3 76 0 := by rw [← e9]; exact x_up_k (by decide)
            have q2533 : h3 76 0 = h 76 0 := by rw [← e5]; exact x_up_k (by decide)
            have q2534 : h2036 78 5 = h2013 78 5 := jK 0 f2038 rg_78_5_0_1 (by first | decide | omega) (by first | decide | omega) (by decide)
            have m2535 : ∀ u, u < 10 → adr h2036 u = adr h2013 u := fun u hu => (adr_gr f2038 (by decide) u hu)
            have m2536 : ∀ u, u < 10 → bdr h2036 u = bdr h2013 u := fun u hu => (bdr_gr f2038 (by decide) u hu)
            have m2537 : ∀ u, u < 10 → adr h2377 u = adr h2079 u := fun u hu => (Eq.trans (show adr h2377 u = adr h2134 u by rw [← e2379]; exact adr_k (by decide)) (adr_gr f2136 (by decide) u hu))
            have m2538 : ∀ u, u < 10 → bdr h2377 u = bdr h2079 u := fun u hu => (Eq.trans (show bdr h2377 u = bdr h2134 u by rw [← e2379]; exact bdr_k (by decide)) (bdr_gr f2136 (by decide) u hu))
            have q2539 : h2377 78 2 = h2134 78 2 := by rw [← e2379]; exact x_up_k (by decide)
            have q2540 : h2134 78 2 = h2079 78 2 := jK 0 f2136 rg_78_2_0_1 (by first | decide | omega) (by first | decide | omega) (by decide)
            have q2541 : h2377 78 3 = h2134 78 3 := by rw [← e2379]; exact x_up_k (by decide)
            have q2542 : h2134 78 3 = h2079 78 3 := jK 0 f2136 rg_78_3_0_1 (by first | decide | omega) (by first | decide | omega) (by decide)
            have q2543 : h2377 78 4 = h2134 78 4 := by rw [← e2379]; exact x_up_k (by decide)
            have q2544 : h2134 78 4 = h2079 78 4 := jK 0 f2136 rg_78_4_0_1 (by first | decide | omega) (by first | decide | omega) (by decide)
            have q2545 : h2377 78 5 = h2134 78 5 := by rw [← e2379]; exact x_up_k (by decide)
            have q2546 : h2134 78 5 = h2079 78 5 := jK 0 f2136 rg_78_5_0_1 (by first | decide | omega) (by first | decide | omega) (by decide)
            have m2514 : Tzl tB tN (h 76 0) (h 78 2) (h 78 3) (h 78 4) (h 78 5) (ab (adr h) (bdr h)) (2147483662 - (1 + v2011)) (h2377 78 2) (h2377 78 3) (h2377 78 4) (h2377 78 5) (sk tB tN (h2377 75 7)) (ab (adr h2377) (bdr h2377)) := by
              rw [show h2377 78 2 = h2079 78 2 by first | decide | omega, show h2377 78 3 = h2079 78 3 by first | decide | omega, show h2377 78 4 = h2079 78 4 by first | decide | omega, show h2377 78 5 = h2079 78 5 by first | decide | omega]
              exact Tzl.go (m' := 2147483662 - (1 + v2011)) m2022 (by first | decide | omega) k2515 c2043 (by first | decide | omega) (p2 := h2134 75 7) ⟨by first | decide | omega, by first | decide | omega⟩ (Eq.trans c2141 (congrArg (sk tB tN) (show h2079 75 7 = h2079 75 7 by first | decide | omega))) (q1 := sk tB tN (h2134 75 7 + 1)) rfl (congrArg (sk tB tN) (show h2134 75 7 + 1 = h2377 75 7 by first | decide | omega)) (Sl.cst (pe' := h 76 0) (s' := h2013 78 5) (c2089 (by first | decide | omega)) (by first | decide | omega) (by first | decide | omega)) (ab2 m2535 m2536) (ab2 m2537 m2538)
            exact i2025 (1 + v2011) h2377 (by first | decide | omega) (by first | decide | omega) (by first | decide | omega) (by first | decide | omega) j2378 f2381 m2387 m2411 (Wl.trans m2020 (Wl.mp (c2087 (by first | decide | omega)) m2440 m2441 (by first | decide | omega) (by first | decide | omega))) m2463 m2514
          have q2375 : ¬ (2147483649 ≠ 2147483648) := q2375
          exfalso; omega
        have q2159 : ¬ ((h2134 75 7) ≠ (h 75 6)) := q2159
        refine x_iload (np := 101) (x := 2) (by decide +kernel) rfl (by first | decide | omega) ?_
        refine x_const (np := 102) (x := 9223372043297226753) (a := 2147483649) (by decide +kernel) (by decide) (by decide) ?_
        refine x_iadd (np := 103) (x := 0) (v := (1 + v2011)) (by decide +kernel) (by first | decide | omega) (by decide) (by first | decide | omega) (by first | decide | omega) ?_
        have q2547 : h2134 75 6 = h2079 75 6 := jK 0 f2136 rg_75_6_0_1 (by first | decide | omega) (by first | decide | omega) (by decide)
        have q2548 : h2079 75 6 = h2036 75 6 := jK 0 f2081 rg_75_6_0_1 (by first | decide | omega) (by first | decide | omega) (by decide)
        have q2549 : h2036 75 6 = h2013 75 6 := jK 0 f2038 rg_75_6_0_1 (by first | decide | omega) (by first | decide | omega) (by decide)
        have q2550 : h2013 75 6 = h26 75 6 := jK 0 f2014 rg_75_6_0_1 (by first | decide | omega) (by first | decide | omega) (by decide)
        have q2551 : h26 75 6 = h15 75 6 := jK 0 f28 rg_75_6_0_1 (by first | decide | omega) (by first | decide | omega) (by decide)
        have q2552 : h15 75 6 = h11 75 6 := by rw [← e17]; exact x_up_i (by first | decide | omega)
        have q2553 : h11 75 6 = h7 75 6 := by rw [← e13]; exact x_up_i (by first | decide | omega)
        have q2554 : h7 75 6 = 2147483648 := by rw [← e9]; exact x_up_at
        have b2555 := jB (e := 0) 0 hJ rg_78_0_0_1 (by first | decide | omega) (by first | decide | omega)
        have q2556 : h2134 78 0 = h2079 78 0 := jK 0 f2136 rg_78_0_0_1 (by first | decide | omega) (by first | decide | omega) (by decide)
        have q2557 : h2134 78 1 = h2079 78 1 := jK 0 f2136 rg_78_1_0_1 (by first | decide | omega) (by first | decide | omega) (by decide)
        have m2558 := Cl.fr m2129 f2136 (by decide)
        have b2559 := jB (e := 2) 0 hJ rg_78_2_0_1 (by first | decide | omega) (by first | decide | omega)
        have q2560 : h2134 78 2 = h2079 78 2 := jK 0 f2136 rg_78_2_0_1 (by first | decide | omega) (by first | decide | omega) (by decide)
        have b2561 := jB (e := 2) 0 j2080 rg_78_2_0_1 (by first | decide | omega) (by first | decide | omega)
        have b2562 := jB (e := 3) 0 hJ rg_78_3_0_1 (by first | decide | omega) (by first | decide | omega)
        have q2563 : h2134 78 3 = h2079 78 3 := jK 0 f2136 rg_78_3_0_1 (by first | decide | omega) (by first | decide | omega) (by decide)
        have b2564 := jB (e := 3) 0 j2080 rg_78_3_0_1 (by first | decide | omega) (by first | decide | omega)
        have b2565 := jB (e := 4) 0 hJ rg_78_4_0_1 (by first | decide | omega) (by first | decide | omega)
        have q2566 : h2134 78 4 = h2079 78 4 := jK 0 f2136 rg_78_4_0_1 (by first | decide | omega) (by first | decide | omega) (by decide)
        have b2567 := jB (e := 4) 0 j2080 rg_78_4_0_1 (by first | decide | omega) (by first | decide | omega)
        have b2568 := jB (e := 5) 0 hJ rg_78_5_0_1 (by first | decide | omega) (by first | decide | omega)
        have q2569 : h2134 78 5 = h2079 78 5 := jK 0 f2136 rg_78_5_0_1 (by first | decide | omega) (by first | decide | omega) (by decide)
        have b2570 := jB (e := 5) 0 j2080 rg_78_5_0_1 (by first | decide | omega) (by first | decide | omega)
        have q2572 : h2036 76 0 = h2013 76 0 := jK 0 f2038 rg_76_0_0_1 (by first | decide | omega) (by first | decide | omega) (by decide)
        have q2573 : h2013 76 0 = h26 76 0 := jK 0 f2014 rg_76_0_0_1 (by first | decide | omega) (by first | decide | omega) (by decide)
        have q2574 : h26 76 0 = h15 76 0 := jK 0 f28 rg_76_0_0_1 (by first | decide | omega) (by first | decide | omega) (by decide)
        have q2575 : h15 76 0 = h11 76 0 := by rw [← e17]; exact x_up_k (by decide)
        have q2576 : h11 76 0 = h7 76 0 := by rw [← e13]; exact x_up_k (by decide)
        have q2577 : h7 76 0 = h3 76 0 := by rw [← e9]; exact x_up_k (by decide)
        have q2578 : h3 76 0 = h 76 0 := by rw [← e5]; exact x_up_k (by decide)
        have b2579 := jB (e := 0) 0 hJ rg_76_0_0_1 (by first | decide | omega) (by first | decide | omega)
        have q2580 : h2036 78 2 = h2013 78 2 := jK 0 f2038 rg_78_2_0_1 (by first | decide | omega) (by first | decide | omega) (by decide)
        have q2581 : h2036 78 3 = h2013 78 3 := jK 0 f2038 rg_78_3_0_1 (by first | decide | omega) (by first | decide | omega) (by decide)
        have q2582 : h2036 78 4 = h2013 78 4 := jK 0 f2038 rg_78_4_0_1 (by first | decide | omega) (by first | decide | omega) (by decide)
        have q2583 : h2036 78 5 = h2013 78 5 := jK 0 f2038 rg_78_5_0_1 (by first | decide | omega) (by first | decide | omega) (by decide)
        have k2571 := l9_pe (pe' := h 76 0) (l1 := h2013 78 2) (t1 := h2013 78 3) (d1 := h2013 78 4) (s1 := h2013 78 5) c2086 (by first | decide | omega) (by first | decide | omega) (by first | decide | omega) (by first | decide | omega) (by first | decide | omega)
        have q2584 : h2134 75 8 = h2079 75 8 := jK 0 f2136 rg_75_8_0_1 (by first | decide | omega) (by first | decide | omega) (by decide)
        have q2585 : h2079 75 8 = h2036 75 8 := jK 0 f2081 rg_75_8_0_1 (by first | decide | omega) (by first | decide | omega) (by decide)
        have q2586 : h2036 75 8 = h2013 75 8 := jK 0 f2038 rg_75_8_0_1 (by first | decide | omega) (by first | decide | omega) (by decide)
        have q2587 : h2013 75 8 = h26 75 8 := jK 0 f2014 rg_75_8_0_1 (by first | decide | omega) (by first | decide | omega) (by decide)
        have q2588 : h26 75 8 = h15 75 8 := jK 0 f28 rg_75_8_0_1 (by first | decide | omega) (by first | decide | omega) (by decide)
        have q2589 : h15 75 8 = h11 75 8 := by rw [← e17]; exact x_up_i (by first | decide | omega)
        have q2590 : h11 75 8 = h7 75 8 := by rw [← e13]; exact x_up_i (by first | decide | omega)
        have q2591 : h7 75 8 = h3 75 8 := by rw [← e9]; exact x_up_i (by first | decide | omega)
        have q2592 : h3 75 8 = (h 75 6) := by rw [← e5]; exact x_up_at
        have m2594 := Tq.fr m2133 f2136 (by decide) (by decide)
        have z2593 := m2594.1
        have z2595 := (Eq.trans c2141 (congrArg (sk tB tN) (show h2079 75 7 = h2079 75 7 by first | decide | omega)))
        have q2596 : h2134 78 3 = h2079 78 3 := jK 0 f2136 rg_78_3_0_1 (by first | decide | omega) (by first | decide | omega) (by decide)
        have q2597 : h2036 78 3 = h2013 78 3 := jK 0 f2038 rg_78_3_0_1 (by first | decide | omega) (by first | decide | omega) (by decide)
        have q2598 : h2134 78 3 = h2079 78 3 := jK 0 f2136 rg_78_3_0_1 (by first | decide | omega) (by first | decide | omega) (by decide)
        have m2599 : ∀ u, u < 10 → wdr h2036 u = wdr h2013 u := fun u hu => (wdr_gr f2038 (by decide) u hu)
        have m2600 : ∀ u, u < 10 → wdr h2134 u = wdr h2079 u := fun u hu => (wdr_gr f2136 (by decide) u hu)
        have q2602 : h2036 76 0 = h2013 76 0 := jK 0 f2038 rg_76_0_0_1 (by first | decide | omega) (by first | decide | omega) (by decide)
        have q2603 : h2013 76 0 = h26 76 0 := jK 0 f2014 rg_76_0_0_1 (by first | decide | omega) (by first | decide | omega) (by decide)
        have q2604 : h26 76 0 = h15 76 0 := jK 0 f28 rg_76_0_0_1 (by first | decide | omega) (by first | decide | omega) (by decide)
        have q2605 : h15 76 0 = h11 76 0 := by rw [← e17]; exact x_up_k (by decide)
        have q2606 : h11 76 0 = h7 76 0 := by rw [← e13]; exact x_up_k (by decide)
        have q2607 : h7 76 0 = h3 76 0 := by rw [← e9]; exact x_up_k (by decide)
        have q2608 : h3 76 0 = h 76 0 := by rw [← e5]; exact x_up_k (by decide)
        have q2609 : h2036 78 2 = h2013 78 2 := jK 0 f2038 rg_78_2_0_1 (by first | decide | omega) (by first | decide | omega) (by decide)
        have q2610 : h2036 78 3 = h2013 78 3 := jK 0 f2038 rg_78_3_0_1 (by first | decide | omega) (by first | decide | omega) (by decide)
        have q2611 : h2036 78 4 = h2013 78 4 := jK 0 f2038 rg_78_4_0_1 (by first | decide | omega) (by first | decide | omega) (by decide)
        have q2612 : h2036 78 5 = h2013 78 5 := jK 0 f2038 rg_78_5_0_1 (by first | decide | omega) (by first | decide | omega) (by decide)
        have k2601 := l9_pe (pe' := h 76 0) (l1 := h2013 78 2) (t1 := h2013 78 3) (d1 := h2013 78 4) (s1 := h2013 78 5) c2086 (by first | decide | omega) (by first | decide | omega) (by first | decide | omega) (by first | decide | omega) (by first | decide | omega)
        have q2613 : h2134 75 8 = h2079 75 8 := jK 0 f2136 rg_75_8_0_1 (by first | decide | omega) (by first | decide | omega) (by decide)
        have q2614 : h2079 75 8 = h2036 75 8 := jK 0 f2081 rg_75_8_0_1 (by first | decide | omega) (by first | decide | omega) (by decide)
        have q2615 : h2036 75 8 = h2013 75 8 := jK 0 f2038 rg_75_8_0_1 (by first | decide | omega) (by first | decide | omega) (by decide)
        have q2616 : h2013 75 8 = h26 75 8 := jK 0 f2014 rg_75_8_0_1 (by first | decide | omega) (by first | decide | omega) (by decide)
        have q2617 : h26 75 8 = h15 75 8 := jK 0 f28 rg_75_8_0_1 (by first | decide | omega) (by first | decide | omega) (by decide)
        have q2618 : h15 75 8 = h11 75 8 := by rw [← e17]; exact x_up_i (by first | decide | omega)
        have q2619 : h11 75 8 = h7 75 8 := by rw [← e13]; exact x_up_i (by first | decide | omega)
        have q2620 : h7 75 8 = h3 75 8 := by rw [← e9]; exact x_up_i (by first | decide | omega)
        have q2621 : h3 75 8 = (h 75 6) := by rw [← e5]; exact x_up_at
        have z2622 := m2594.1
        have z2623 := (Eq.trans c2141 (congrArg (sk tB tN) (show h2079 75 7 = h2079 75 7 by first | decide | omega)))
        have q2624 : h2036 76 0 = h2013 76 0 := jK 0 f2038 rg_76_0_0_1 (by first | decide | omega) (by first | decide | omega) (by decide)
        have q2625 : h2013 76 0 = h26 76 0 := jK 0 f2014 rg_76_0_0_1 (by first | decide | omega) (by first | decide | omega) (by decide)
        have q2626 : h26 76 0 = h15 76 0 := jK 0 f28 rg_76_0_0_1 (by first | decide | omega) (by first | decide | omega) (by decide)
        have q2627 : h15 76 0 = h11 76 0 := by rw [← e17]; exact x_up_k (by decide)
        have q2628 : h11 76 0 = h7 76 0 := by rw [← e13]; exact x_up_k (by decide)
        have q2629 : h7 76 0 = h3 76 0 := by rw [← e9]; exact x_up_k (by decide)
        have q2630 : h3 76 0 = h 76 0 := by rw [← e5]; exact x_up_k (by decide)
        have m2631 : ∀ u, u < 6 → xd h2036 u = xd h2013 u := fun u hu => (xd_gr f2038 (by decide) u hu)
        have m2632 : ∀ u, u < 6 → xd h2134 u = xd h2079 u := fun u hu => (xd_gr f2136 (by decide) u hu)
        have q2634 : h2036 76 0 = h2013 76 0 := jK 0 f2038 rg_76_0_0_1 (by first | decide | omega) (by first | decide | omega) (by decide)
        have q2635 : h2013 76 0 = h26 76 0 := jK 0 f2014 rg_76_0_0_1 (by first | decide | omega) (by first | decide | omega) (by decide)
        have q2636 : h26 76 0 = h15 76 0 := jK 0 f28 rg_76_0_0_1 (by first | decide | omega) (by first | decide | omega) (by decide)
        have q2637 : h15 76 0 = h11 76 0 := by rw [← e17]; exact x_up_k (by decide)
        have q2638 : h11 76 0 = h7 76 0 := by rw [← e13]; exact x_up_k (by decide)
        have q2639 : h7 76 0 = h3 76 0 := by rw [← e9]; exact x_up_k (by decide)
        have q2640 : h3 76 0 = h 76 0 := by rw [← e5]; exact x_up_k (by decide)
        have q2641 : h2036 78 2 = h2013 78 2 := jK 0 f2038 rg_78_2_0_1 (by first | decide | omega) (by first | decide | omega) (by decide)
        have q2642 : h2036 78 3 = h2013 78 3 := jK 0 f2038 rg_78_3_0_1 (by first | decide | omega) (by first | decide | omega) (by decide)
        have q2643 : h2036 78 4 = h2013 78 4 := jK 0 f2038 rg_78_4_0_1 (by first | decide | omega) (by first | decide | omega) (by decide)
        have q2644 : h2036 78 5 = h2013 78 5 := jK 0 f2038 rg_78_5_0_1 (by first | decide | omega) (by first | decide | omega) (by decide)
        have k2633 := l9_pe (pe' := h 76 0) (l1 := h2013 78 2) (t1 := h2013 78 3) (d1 := h2013 78 4) (s1 := h2013 78 5) c2086 (by first | decide | omega) (by first | decide | omega) (by first | decide | omega) (by first | decide | omega) (by first | decide | omega)
        have q2645 : h2134 75 8 = h2079 75 8 := jK 0 f2136 rg_75_8_0_1 (by first | decide | omega) (by first | decide | omega) (by decide)
        have q2646 : h2079 75 8 = h2036 75 8 := jK 0 f2081 rg_75_8_0_1 (by first | decide | omega) (by first | decide | omega) (by decide)
        have q2647 : h2036 75 8 = h2013 75 8 := jK 0 f2038 rg_75_8_0_1 (by first | decide | omega) (by first | decide | omega) (by decide)
        have q2648 : h2013 75 8 = h26 75 8 := jK 0 f2014 rg_75_8_0_1 (by first | decide | omega) (by first | decide | omega) (by decide)
        have q2649 : h26 75 8 = h15 75 8 := jK 0 f28 rg_75_8_0_1 (by first | decide | omega) (by first | decide | omega) (by decide)
        have q2650 : h15 75 8 = h11 75 8 := by rw [← e17]; exact x_up_i (by first | decide | omega)
        have q2651 : h11 75 8 = h7 75 8 := by rw [← e13]; exact x_up_i (by first | decide | omega)
        have q2652 : h7 75 8 = h3 75 8 := by rw [← e9]; exact x_up_i (by first | decide | omega)
        have q2653 : h3 75 8 = (h 75 6) := by rw [← e5]; exact x_up_at
        have z2654 := m2594.1
        have z2655 := (Eq.trans c2141 (congrArg (sk tB tN) (show h2079 75 7 = h2079 75 7 by first | decide | omega)))
        have q2656 : h2036 76 0 = h2013 76 0 := jK 0 f2038 rg_76_0_0_1 (by first | decide | omega) (by first | decide | omega) (by decide)
        have q2657 : h2013 76 0 = h26 76 0 := jK 0 f2014 rg_76_0_0_1 (by first | decide | omega) (by first | decide | omega) (by decide)
        have q2658 : h26 76 0 = h15 76 0 := jK 0 f28 rg_76_0_0_1 (by first | decide | omega) (by first | decide | omega) (by decide)
        have q2659 : h15 76 0 = h11 76 0 := by rw [← e17]; exact x_up_k (by decide)
        have q2660 : h11 76 0 = h7 76 0 := by rw [← e13]; exact x_up_k (by decide)
        have q2661 : h7 76 0 = h3 76 0 := by rw [← e9]; exact x_up_k (by decide)
        have q2662 : h3 76 0 = h 76 0 := by rw [← e5]; exact x_up_k (by decide)
        have q2663 : h2036 78 5 = h2013 78 5 := jK 0 f2038 rg_78_5_0_1 (by first | decide | omega) (by first | decide | omega) (by decide)
        have m2664 : ∀ u, u < 10 → adr h2036 u = adr h2013 u := fun u hu => (adr_gr f2038 (by decide) u hu)
        have m2665 : ∀ u, u < 10 → bdr h2036 u = bdr h2013 u := fun u hu => (bdr_gr f2038 (by decide) u hu)
        have m2666 : ∀ u, u < 10 → adr h2134 u = adr h2079 u := fun u hu => (adr_gr f2136 (by decide) u hu)
        have m2667 : ∀ u, u < 10 → bdr h2134 u = bdr h2079 u := fun u hu => (bdr_gr f2136 (by decide) u hu)
        refine x_retI (np := 104) (x := 0) (by decide +kernel) (by first | decide | omega) (Or.inl (by decide +kernel)) ⟨_, rfl, (by first | decide | omega), ?_⟩
        exact ⟨j2135, f2142, (by first | decide | omega), (by first | decide | omega), (fun z => by first | decide | omega), (fun z => by first | decide | omega), (fun _ => m2558), (Tt.r1 (by first | decide | omega) (Tl.fin m2019 (by first | decide | omega) k2571 c2043 (by first | decide | omega) (by first | decide | omega)) (by first | decide | omega) (by first | decide | omega) (by first | decide | omega) (by first | decide | omega)), (fun _ => (Wl.trans m2020 (Wl.mp (c2087 (by first | decide | omega)) m2599 m2600 (by first | decide | omega) (by first | decide | omega)))), (fun _ => Txl.fin m2021 (by first | decide | omega) k2601 c2043 (by first | decide | omega) (by first | decide | omega) (Lx.cst (pe' := h 76 0) (c2088 (by first | decide | omega)) (by first | decide | omega)) m2631 m2632), (fun _ => Tzl.fin m2022 (by first | decide | omega) k2633 c2043 (by first | decide | omega) (by first | decide | omega) (Sl.cst (pe' := h 76 0) (s' := h2013 78 5) (c2089 (by first | decide | omega)) (by first | decide | omega) (by first | decide | omega)) (ab2 m2664 m2665) (ab2 m2666 m2667))⟩
    have b2668 := jB (e := 0) 0 hJ rg_78_0_0_1 (by first | decide | omega) (by first | decide | omega)
    have q2669 : h26 78 0 = h15 78 0 := jK 0 f28 rg_78_0_0_1 (by first | decide | omega) (by first | decide | omega) (by decide)
    have q2670 : h15 78 0 = h11 78 0 := by rw [← e17]; exact x_up_k (by decide)
    have q2671 : h11 78 0 = h7 78 0 := by rw [← e13]; exact x_up_k (by decide)
    have q2672 : h7 78 0 = h3 78 0 := by rw [← e9]; exact x_up_k (by decide)
    have q2673 : h3 78 0 = h 78 0 := by rw [← e5]; exact x_up_k (by decide)
    have q2674 : h26 78 1 = h15 78 1 := jK 0 f28 rg_78_1_0_1 (by first | decide | omega) (by first | decide | omega) (by decide)
    have q2675 : h15 78 1 = h11 78 1 := by rw [← e17]; exact x_up_k (by decide)
    have q2676 : h11 78 1 = h7 78 1 := by rw [← e13]; exact x_up_k (by decide)
    have q2677 : h7 78 1 = h3 78 1 := by rw [← e9]; exact x_up_k (by decide)
    have q2678 : h3 78 1 = h 78 1 := by rw [← e5]; exact x_up_k (by decide)
    have m2683 : Cl h3 := by rw [← e5]; exact Cl.oth hC (by decide)
    have m2682 : Cl h7 := by rw [← e9]; exact Cl.oth m2683 (by decide)
    have m2681 : Cl h11 := by rw [← e13]; exact Cl.oth m2682 (by decide)
    have m2680 : Cl h15 := by rw [← e17]; exact Cl.oth m2681 (by decide)
    have m2679 := Cl.fr m2680 f28 (by decide)
    have q2684 : h15 75 7 = h11 75 7 := by rw [← e17]; exact x_up_i (by first | decide | omega)
    have q2685 : h11 75 7 = 2147483648 := by rw [← e13]; exact x_up_at
    have q2686 : h26 75 8 = h15 75 8 := jK 0 f28 rg_75_8_0_1 (by first | decide | omega) (by first | decide | omega) (by decide)
    have q2687 : h15 75 8 = h11 75 8 := by rw [← e17]; exact x_up_i (by first | decide | omega)
    have q2688 : h11 75 8 = h7 75 8 := by rw [← e13]; exact x_up_i (by first | decide | omega)
    have q2689 : h7 75 8 = h3 75 8 := by rw [← e9]; exact x_up_i (by first | decide | omega)
    have q2690 : h3 75 8 = (h 75 6) := by rw [← e5]; exact x_up_at
    have m2692 := Tq.fr m22 f28 (by decide) (by decide)
    have z2691 := m2692.1
    have b2694 := jB (e := 2) 0 hJ rg_78_2_0_1 (by first | decide | omega) (by first | decide | omega)
    have q2695 : h26 78 2 = h15 78 2 := jK 0 f28 rg_78_2_0_1 (by first | decide | omega) (by first | decide | omega) (by decide)
    have q2696 : h15 78 2 = h11 78 2 := by rw [← e17]; exact x_up_k (by decide)
    have q2697 : h11 78 2 = h7 78 2 := by rw [← e13]; exact x_up_k (by decide)
    have q2698 : h7 78 2 = h3 78 2 := by rw [← e9]; exact x_up_k (by decide)
    have q2699 : h3 78 2 = h 78 2 := by rw [← e5]; exact x_up_k (by decide)
    have b2700 := jB (e := 3) 0 hJ rg_78_3_0_1 (by first | decide | omega) (by first | decide | omega)
    have q2701 : h26 78 3 = h15 78 3 := jK 0 f28 rg_78_3_0_1 (by first | decide | omega) (by first | decide | omega) (by decide)
    have q2702 : h15 78 3 = h11 78 3 := by rw [← e17]; exact x_up_k (by decide)
    have q2703 : h11 78 3 = h7 78 3 := by rw [← e13]; exact x_up_k (by decide)
    have q2704 : h7 78 3 = h3 78 3 := by rw [← e9]; exact x_up_k (by decide)
    have q2705 : h3 78 3 = h 78 3 := by rw [← e5]; exact x_up_k (by decide)
    have b2706 := jB (e := 4) 0 hJ rg_78_4_0_1 (by first | decide | omega) (by first | decide | omega)
    have q2707 : h26 78 4 = h15 78 4 := jK 0 f28 rg_78_4_0_1 (by first | decide | omega) (by first | decide | omega) (by decide)
    have q2708 : h15 78 4 = h11 78 4 := by rw [← e17]; exact x_up_k (by decide)
    have q2709 : h11 78 4 = h7 78 4 := by rw [← e13]; exact x_up_k (by decide)
    have q2710 : h7 78 4 = h3 78 4 := by rw [← e9]; exact x_up_k (by decide)
    have q2711 : h3 78 4 = h 78 4 := by rw [← e5]; exact x_up_k (by decide)
    have b2712 := jB (e := 5) 0 hJ rg_78_5_0_1 (by first | decide | omega) (by first | decide | omega)
    have q2713 : h26 78 5 = h15 78 5 := jK 0 f28 rg_78_5_0_1 (by first | decide | omega) (by first | decide | omega) (by decide)
    have q2714 : h15 78 5 = h11 78 5 := by rw [← e17]; exact x_up_k (by decide)
    have q2715 : h11 78 5 = h7 78 5 := by rw [← e13]; exact x_up_k (by decide)
    have q2716 : h7 78 5 = h3 78 5 := by rw [← e9]; exact x_up_k (by decide)
    have q2717 : h3 78 5 = h 78 5 := by rw [← e5]; exact x_up_k (by decide)
    have m2693 : Tl tB tN (h 76 0) (h 78 2) (h 78 3) (h 78 4) (h 78 5) (2147483662 - 2147483648) (h26 78 2) (h26 78 3) (h26 78 4) (h26 78 5) (sk tB tN (h26 75 7)) := by
      rw [show h26 78 2 = h 78 2 by first | decide | omega, show h26 78 3 = h 78 3 by first | decide | omega, show h26 78 4 = h 78 4 by first | decide | omega, show h26 78 5 = h 78 5 by first | decide | omega]
      exact Tl.zeroR ((show h26 75 7 = h26 75 7 by first | decide | omega).trans (Eq.trans c33 (congrArg (sk tB tN) (show h15 75 7 = 2147483648 by first | decide | omega)))) (by first | decide | omega) (by first | decide | omega) rfl
    have q2718 : h26 78 3 = h15 78 3 := jK 0 f28 rg_78_3_0_1 (by first | decide | omega) (by first | decide | omega) (by decide)
    have q2719 : h15 78 3 = h11 78 3 := by rw [← e17]; exact x_up_k (by decide)
    have q2720 : h11 78 3 = h7 78 3 := by rw [← e13]; exact x_up_k (by decide)
    have q2721 : h7 78 3 = h3 78 3 := by rw [← e9]; exact x_up_k (by decide)
    have q2722 : h3 78 3 = h 78 3 := by rw [← e5]; exact x_up_k (by decide)
    have m2723 : ∀ u, u < 10 → wdr h26 u = wdr h u := fun u hu => (Eq.trans (wdr_gr f28 (by decide) u hu) (Eq.trans (show wdr h15 u = wdr h11 u by rw [← e17]; exact wdr_k (by decide)) (Eq.trans (show wdr h11 u = wdr h7 u by rw [← e13]; exact wdr_k (by decide)) (Eq.trans (show wdr h7 u = wdr h3 u by rw [← e9]; exact wdr_k (by decide)) (show wdr h3 u = wdr h u by rw [← e5]; exact wdr_k (by decide))))))
    have q2724 : h15 75 7 = h11 75 7 := by rw [← e17]; exact x_up_i (by first | decide | omega)
    have q2725 : h11 75 7 = 2147483648 := by rw [← e13]; exact x_up_at
    have q2726 : h26 75 8 = h15 75 8 := jK 0 f28 rg_75_8_0_1 (by first | decide | omega) (by first | decide | omega) (by decide)
    have q2727 : h15 75 8 = h11 75 8 := by rw [← e17]; exact x_up_i (by first | decide | omega)
    have q2728 : h11 75 8 = h7 75 8 := by rw [← e13]; exact x_up_i (by first | decide | omega)
    have q2729 : h7 75 8 = h3 75 8 := by rw [← e9]; exact x_up_i (by first | decide | omega)
    have q2730 : h3 75 8 = (h 75 6) := by rw [← e5]; exact x_up_at
    have z2731 := m2692.1
    have m2733 : ∀ u, u < 6 → xd h26 u = xd h u := fun u hu => (Eq.trans (xd_gr f28 (by decide) u hu) (Eq.trans (show xd h15 u = xd h11 u by rw [← e17]; exact xd_k (by decide)) (Eq.trans (show xd h11 u = xd h7 u by rw [← e13]; exact xd_k (by decide)) (Eq.trans (show xd h7 u = xd h3 u by rw [← e9]; exact xd_k (by decide)) (show xd h3 u = xd h u by rw [← e5]; exact xd_k (by decide))))))
    have q2734 : h26 78 2 = h15 78 2 := jK 0 f28 rg_78_2_0_1 (by first | decide | omega) (by first | decide | omega) (by decide)
    have q2735 : h15 78 2 = h11 78 2 := by rw [← e17]; exact x_up_k (by decide)
    have q2736 : h11 78 2 = h7 78 2 := by rw [← e13]; exact x_up_k (by decide)
    have q2737 : h7 78 2 = h3 78 2 := by rw [← e9]; exact x_up_k (by decide)
    have q2738 : h3 78 2 = h 78 2 := by rw [← e5]; exact x_up_k (by decide)
    have q2739 : h26 78 3 = h15 78 3 := jK 0 f28 rg_78_3_0_1 (by first | decide | omega) (by first | decide | omega) (by decide)
    have q2740 : h15 78 3 = h11 78 3 := by rw [← e17]; exact x_up_k (by decide)
    have q2741 : h11 78 3 = h7 78 3 := by rw [← e13]; exact x_up_k (by decide)
    have q2742 : h7 78 3 = h3 78 3 := by rw [← e9]; exact x_up_k (by decide)
    have q2743 : h3 78 3 = h 78 3 := by rw [← e5]; exact x_up_k (by decide)
    have q2744 : h26 78 4 = h15 78 4 := jK 0 f28 rg_78_4_0_1 (by first | decide | omega) (by first | decide | omega) (by decide)
    have q2745 : h15 78 4 = h11 78 4 := by rw [← e17]; exact x_up_k (by decide)
    have q2746 : h11 78 4 = h7 78 4 := by rw [← e13]; exact x_up_k (by decide)
    have q2747 : h7 78 4 = h3 78 4 := by rw [← e9]; exact x_up_k (by decide)
    have q2748 : h3 78 4 = h 78 4 := by rw [← e5]; exact x_up_k (by decide)
    have q2749 : h26 78 5 = h15 78 5 := jK 0 f28 rg_78_5_0_1 (by first | decide | omega) (by first | decide | omega) (by decide)
    have q2750 : h15 78 5 = h11 78 5 := by rw [← e17]; exact x_up_k (by decide)
    have q2751 : h11 78 5 = h7 78 5 := by rw [← e13]; exact x_up_k (by decide)
    have q2752 : h7 78 5 = h3 78 5 := by rw [← e9]; exact x_up_k (by decide)
    have q2753 : h3 78 5 = h 78 5 := by rw [← e5]; exact x_up_k (by decide)
    have m2732 : Txl tB tN (h 76 0) (h 78 2) (h 78 3) (h 78 4) (h 78 5) (xd h) (2147483662 - 2147483648) (h26 78 2) (h26 78 3) (h26 78 4) (h26 78 5) (sk tB tN (h26 75 7)) (xd h26) := by
      rw [show h26 78 2 = h 78 2 by first | decide | omega, show h26 78 3 = h 78 3 by first | decide | omega, show h26 78 4 = h 78 4 by first | decide | omega, show h26 78 5 = h 78 5 by first | decide | omega]
      exact Txl.zeroR ((show h26 75 7 = h26 75 7 by first | decide | omega).trans (Eq.trans c33 (congrArg (sk tB tN) (show h15 75 7 = 2147483648 by first | decide | omega)))) (by first | decide | omega) (by first | decide | omega) rfl m2733
    have q2754 : h15 75 7 = h11 75 7 := by rw [← e17]; exact x_up_i (by first | decide | omega)
    have q2755 : h11 75 7 = 2147483648 := by rw [← e13]; exact x_up_at
    have q2756 : h26 75 8 = h15 75 8 := jK 0 f28 rg_75_8_0_1 (by first | decide | omega) (by first | decide | omega) (by decide)
    have q2757 : h15 75 8 = h11 75 8 := by rw [← e17]; exact x_up_i (by first | decide | omega)
    have q2758 : h11 75 8 = h7 75 8 := by rw [← e13]; exact x_up_i (by first | decide | omega)
    have q2759 : h7 75 8 = h3 75 8 := by rw [← e9]; exact x_up_i (by first | decide | omega)
    have q2760 : h3 75 8 = (h 75 6) := by rw [← e5]; exact x_up_at
    have z2761 := m2692.1
    have m2763 : ∀ u, u < 10 → adr h26 u = adr h u := fun u hu => (Eq.trans (adr_gr f28 (by decide) u hu) (Eq.trans (show adr h15 u = adr h11 u by rw [← e17]; exact adr_k (by decide)) (Eq.trans (show adr h11 u = adr h7 u by rw [← e13]; exact adr_k (by decide)) (Eq.trans (show adr h7 u = adr h3 u by rw [← e9]; exact adr_k (by decide)) (show adr h3 u = adr h u by rw [← e5]; exact adr_k (by decide))))))
    have m2764 : ∀ u, u < 10 → bdr h26 u = bdr h u := fun u hu => (Eq.trans (bdr_gr f28 (by decide) u hu) (Eq.trans (show bdr h15 u = bdr h11 u by rw [← e17]; exact bdr_k (by decide)) (Eq.trans (show bdr h11 u = bdr h7 u by rw [← e13]; exact bdr_k (by decide)) (Eq.trans (show bdr h7 u = bdr h3 u by rw [← e9]; exact bdr_k (by decide)) (show bdr h3 u = bdr h u by rw [← e5]; exact bdr_k (by decide))))))
    have q2765 : h26 78 2 = h15 78 2 := jK 0 f28 rg_78_2_0_1 (by first | decide | omega) (by first | decide | omega) (by decide)
    have q2766 : h15 78 2 = h11 78 2 := by rw [← e17]; exact x_up_k (by decide)
    have q2767 : h11 78 2 = h7 78 2 := by rw [← e13]; exact x_up_k (by decide)
    have q2768 : h7 78 2 = h3 78 2 := by rw [← e9]; exact x_up_k (by decide)
    have q2769 : h3 78 2 = h 78 2 := by rw [← e5]; exact x_up_k (by decide)
    have q2770 : h26 78 3 = h15 78 3 := jK 0 f28 rg_78_3_0_1 (by first | decide | omega) (by first | decide | omega) (by decide)
    have q2771 : h15 78 3 = h11 78 3 := by rw [← e17]; exact x_up_k (by decide)
    have q2772 : h11 78 3 = h7 78 3 := by rw [← e13]; exact x_up_k (by decide)
    have q2773 : h7 78 3 = h3 78 3 := by rw [← e9]; exact x_up_k (by decide)
    have q2774 : h3 78 3 = h 78 3 := by rw [← e5]; exact x_up_k (by decide)
    have q2775 : h26 78 4 = h15 78 4 := jK 0 f28 rg_78_4_0_1 (by first | decide | omega) (by first | decide | omega) (by decide)
    have q2776 : h15 78 4 = h11 78 4 := by rw [← e17]; exact x_up_k (by decide)
    have q2777 : h11 78 4 = h7 78 4 := by rw [← e13]; exact x_up_k (by decide)
    have q2778 : h7 78 4 = h3 78 4 := by rw [← e9]; exact x_up_k (by decide)
    have q2779 : h3 78 4 = h 78 4 := by rw [← e5]; exact x_up_k (by decide)
    have q2780 : h26 78 5 = h15 78 5 := jK 0 f28 rg_78_5_0_1 (by first | decide | omega) (by first | decide | omega) (by decide)
    have q2781 : h15 78 5 = h11 78 5 := by rw [← e17]; exact x_up_k (by decide)
    have q2782 : h11 78 5 = h7 78 5 := by rw [← e13]; exact x_up_k (by decide)
    have q2783 : h7 78 5 = h3 78 5 := by rw [← e9]; exact x_up_k (by decide)
    have q2784 : h3 78 5 = h 78 5 := by rw [← e5]; exact x_up_k (by decide)
    have m2762 : Tzl tB tN (h 76 0) (h 78 2) (h 78 3) (h 78 4) (h 78 5) (ab (adr h) (bdr h)) (2147483662 - 2147483648) (h26 78 2) (h26 78 3) (h26 78 4) (h26 78 5) (sk tB tN (h26 75 7)) (ab (adr h26) (bdr h26)) := by
      rw [show h26 78 2 = h 78 2 by first | decide | omega, show h26 78 3 = h 78 3 by first | decide | omega, show h26 78 4 = h 78 4 by first | decide | omega, show h26 78 5 = h 78 5 by first | decide | omega]
      exact Tzl.zeroR ((show h26 75 7 = h26 75 7 by first | decide | omega).trans (Eq.trans c33 (congrArg (sk tB tN) (show h15 75 7 = 2147483648 by first | decide | omega)))) (by first | decide | omega) (by first | decide | omega) rfl (ab2 m2763 m2764)
    exact p2016 _ 2147483648 h26 (Nat.lt_succ_self _) (by first | decide | omega) (by first | decide | omega) (by first | decide | omega) j27 (Fr.refl _ _) m2679 m2693 (Wl.refl (by first | decide | omega) m2723) m2732 m2762
  have q47 : ¬ ((h26 75 7) ≠ (h 75 6)) := q47
  refine x_const (np := 39) (x := 9223372039002259456) (a := 2147483648) (by decide +kernel) (by decide) (by decide) ?_
  have q2785 : h26 75 6 = h15 75 6 := jK 0 f28 rg_75_6_0_1 (by first | decide | omega) (by first | decide | omega) (by decide)
  have q2786 : h15 75 6 = h11 75 6 := by rw [← e17]; exact x_up_i (by first | decide | omega)
  have q2787 : h11 75 6 = h7 75 6 := by rw [← e13]; exact x_up_i (by first | decide | omega)
  have q2788 : h7 75 6 = 2147483648 := by rw [← e9]; exact x_up_at
  have b2789 := jB (e := 0) 0 hJ rg_78_0_0_1 (by first | decide | omega) (by first | decide | omega)
  have q2790 : h26 78 0 = h15 78 0 := jK 0 f28 rg_78_0_0_1 (by first | decide | omega) (by first | decide | omega) (by decide)
  have q2791 : h15 78 0 = h11 78 0 := by rw [← e17]; exact x_up_k (by decide)
  have q2792 : h11 78 0 = h7 78 0 := by rw [← e13]; exact x_up_k (by decide)
  have q2793 : h7 78 0 = h3 78 0 := by rw [← e9]; exact x_up_k (by decide)
  have q2794 : h3 78 0 = h 78 0 := by rw [← e5]; exact x_up_k (by decide)
  have q2795 : h26 78 1 = h15 78 1 := jK 0 f28 rg_78_1_0_1 (by first | decide | omega) (by first | decide | omega) (by decide)
  have q2796 : h15 78 1 = h11 78 1 := by rw [← e17]; exact x_up_k (by decide)
  have q2797 : h11 78 1 = h7 78 1 := by rw [← e13]; exact x_up_k (by decide)
  have q2798 : h7 78 1 = h3 78 1 := by rw [← e9]; exact x_up_k (by decide)
  have q2799 : h3 78 1 = h 78 1 := by rw [← e5]; exact x_up_k (by decide)
  have m2804 : Cl h3 := by rw [← e5]; exact Cl.oth hC (by decide)
  have m2803 : Cl h7 := by rw [← e9]; exact Cl.oth m2804 (by decide)
  have m2802 : Cl h11 := by rw [← e13]; exact Cl.oth m2803 (by decide)
  have m2801 : Cl h15 := by rw [← e17]; exact Cl.oth m2802 (by decide)
  have m2800 := Cl.fr m2801 f28 (by decide)
  have b2805 := jB (e := 2) 0 hJ rg_78_2_0_1 (by first | decide | omega) (by first | decide | omega)
  have q2806 : h26 78 2 = h15 78 2 := jK 0 f28 rg_78_2_0_1 (by first | decide | omega) (by first | decide | omega) (by decide)
  have q2807 : h15 78 2 = h11 78 2 := by rw [← e17]; exact x_up_k (by decide)
  have q2808 : h11 78 2 = h7 78 2 := by rw [← e13]; exact x_up_k (by decide)
  have q2809 : h7 78 2 = h3 78 2 := by rw [← e9]; exact x_up_k (by decide)
  have q2810 : h3 78 2 = h 78 2 := by rw [← e5]; exact x_up_k (by decide)
  have b2811 := jB (e := 3) 0 hJ rg_78_3_0_1 (by first | decide | omega) (by first | decide | omega)
  have q2812 : h26 78 3 = h15 78 3 := jK 0 f28 rg_78_3_0_1 (by first | decide | omega) (by first | decide | omega) (by decide)
  have q2813 : h15 78 3 = h11 78 3 := by rw [← e17]; exact x_up_k (by decide)
  have q2814 : h11 78 3 = h7 78 3 := by rw [← e13]; exact x_up_k (by decide)
  have q2815 : h7 78 3 = h3 78 3 := by rw [← e9]; exact x_up_k (by decide)
  have q2816 : h3 78 3 = h 78 3 := by rw [← e5]; exact x_up_k (by decide)
  have b2817 := jB (e := 4) 0 hJ rg_78_4_0_1 (by first | decide | omega) (by first | decide | omega)
  have q2818 : h26 78 4 = h15 78 4 := jK 0 f28 rg_78_4_0_1 (by first | decide | omega) (by first | decide | omega) (by decide)
  have q2819 : h15 78 4 = h11 78 4 := by rw [← e17]; exact x_up_k (by decide)
  have q2820 : h11 78 4 = h7 78 4 := by rw [← e13]; exact x_up_k (by decide)
  have q2821 : h7 78 4 = h3 78 4 := by rw [← e9]; exact x_up_k (by decide)
  have q2822 : h3 78 4 = h 78 4 := by rw [← e5]; exact x_up_k (by decide)
  have b2823 := jB (e := 5) 0 hJ rg_78_5_0_1 (by first | decide | omega) (by first | decide | omega)
  have q2824 : h26 78 5 = h15 78 5 := jK 0 f28 rg_78_5_0_1 (by first | decide | omega) (by first | decide | omega) (by decide)
  have q2825 : h15 78 5 = h11 78 5 := by rw [← e17]; exact x_up_k (by decide)
  have q2826 : h11 78 5 = h7 78 5 := by rw [← e13]; exact x_up_k (by decide)
  have q2827 : h7 78 5 = h3 78 5 := by rw [← e9]; exact x_up_k (by decide)
  have q2828 : h3 78 5 = h 78 5 := by rw [← e5]; exact x_up_k (by decide)
  have q2829 : h15 75 7 = h11 75 7 := by rw [← e17]; exact x_up_i (by first | decide | omega)
  have q2830 : h11 75 7 = 2147483648 := by rw [← e13]; exact x_up_at
  have q2831 : h26 75 8 = h15 75 8 := jK 0 f28 rg_75_8_0_1 (by first | decide | omega) (by first | decide | omega) (by decide)
  have q2832 : h15 75 8 = h11 75 8 := by rw [← e17]; exact x_up_i (by first | decide | omega)
  have q2833 : h11 75 8 = h7 75 8 := by rw [← e13]; exact x_up_i (by first | decide | omega)
  have q2834 : h7 75 8 = h3 75 8 := by rw [← e9]; exact x_up_i (by first | decide | omega)
  have q2835 : h3 75 8 = (h 75 6) := by rw [← e5]; exact x_up_at
  have m2837 := Tq.fr m22 f28 (by decide) (by decide)
  have z2836 := m2837.1
  have q2838 : h26 78 3 = h15 78 3 := jK 0 f28 rg_78_3_0_1 (by first | decide | omega) (by first | decide | omega) (by decide)
  have q2839 : h15 78 3 = h11 78 3 := by rw [← e17]; exact x_up_k (by decide)
  have q2840 : h11 78 3 = h7 78 3 := by rw [← e13]; exact x_up_k (by decide)
  have q2841 : h7 78 3 = h3 78 3 := by rw [← e9]; exact x_up_k (by decide)
  have q2842 : h3 78 3 = h 78 3 := by rw [← e5]; exact x_up_k (by decide)
  have m2843 : ∀ u, u < 10 → wdr h26 u = wdr h u := fun u hu => (Eq.trans (wdr_gr f28 (by decide) u hu) (Eq.trans (show wdr h15 u = wdr h11 u by rw [← e17]; exact wdr_k (by decide)) (Eq.trans (show wdr h11 u = wdr h7 u by rw [← e13]; exact wdr_k (by decide)) (Eq.trans (show wdr h7 u = wdr h3 u by rw [← e9]; exact wdr_k (by decide)) (show wdr h3 u = wdr h u by rw [← e5]; exact wdr_k (by decide))))))
  have q2844 : h15 75 7 = h11 75 7 := by rw [← e17]; exact x_up_i (by first | decide | omega)
  have q2845 : h11 75 7 = 2147483648 := by rw [← e13]; exact x_up_at
  have q2846 : h26 75 8 = h15 75 8 := jK 0 f28 rg_75_8_0_1 (by first | decide | omega) (by first | decide | omega) (by decide)
  have q2847 : h15 75 8 = h11 75 8 := by rw [← e17]; exact x_up_i (by first | decide | omega)
  have q2848 : h11 75 8 = h7 75 8 := by rw [← e13]; exact x_up_i (by first | decide | omega)
  have q2849 : h7 75 8 = h3 75 8 := by rw [← e9]; exact x_up_i (by first | decide | omega)
  have q2850 : h3 75 8 = (h 75 6) := by rw [← e5]; exact x_up_at
  have z2851 := m2837.1
  have m2852 : ∀ u, u < 6 → xd h26 u = xd h u := fun u hu => (Eq.trans (xd_gr f28 (by decide) u hu) (Eq.trans (show xd h15 u = xd h11 u by rw [← e17]; exact xd_k (by decide)) (Eq.trans (show xd h11 u = xd h7 u by rw [← e13]; exact xd_k (by decide)) (Eq.trans (show xd h7 u = xd h3 u by rw [← e9]; exact xd_k (by decide)) (show xd h3 u = xd h u by rw [← e5]; exact xd_k (by decide))))))
  have q2853 : h15 75 7 = h11 75 7 := by rw [← e17]; exact x_up_i (by first | decide | omega)
  have q2854 : h11 75 7 = 2147483648 := by rw [← e13]; exact x_up_at
  have q2855 : h26 75 8 = h15 75 8 := jK 0 f28 rg_75_8_0_1 (by first | decide | omega) (by first | decide | omega) (by decide)
  have q2856 : h15 75 8 = h11 75 8 := by rw [← e17]; exact x_up_i (by first | decide | omega)
  have q2857 : h11 75 8 = h7 75 8 := by rw [← e13]; exact x_up_i (by first | decide | omega)
  have q2858 : h7 75 8 = h3 75 8 := by rw [← e9]; exact x_up_i (by first | decide | omega)
  have q2859 : h3 75 8 = (h 75 6) := by rw [← e5]; exact x_up_at
  have z2860 := m2837.1
  have m2861 : ∀ u, u < 10 → adr h26 u = adr h u := fun u hu => (Eq.trans (adr_gr f28 (by decide) u hu) (Eq.trans (show adr h15 u = adr h11 u by rw [← e17]; exact adr_k (by decide)) (Eq.trans (show adr h11 u = adr h7 u by rw [← e13]; exact adr_k (by decide)) (Eq.trans (show adr h7 u = adr h3 u by rw [← e9]; exact adr_k (by decide)) (show adr h3 u = adr h u by rw [← e5]; exact adr_k (by decide))))))
  have m2862 : ∀ u, u < 10 → bdr h26 u = bdr h u := fun u hu => (Eq.trans (bdr_gr f28 (by decide) u hu) (Eq.trans (show bdr h15 u = bdr h11 u by rw [← e17]; exact bdr_k (by decide)) (Eq.trans (show bdr h11 u = bdr h7 u by rw [← e13]; exact bdr_k (by decide)) (Eq.trans (show bdr h7 u = bdr h3 u by rw [← e9]; exact bdr_k (by decide)) (show bdr h3 u = bdr h u by rw [← e5]; exact bdr_k (by decide))))))
  refine x_retI (np := 40) (x := 0) (by decide +kernel) (by decide) (Or.inl (by decide +kernel)) ⟨_, rfl, (by decide), ?_⟩
  exact ⟨j27, f34, (by first | decide | omega), (by first | decide | omega), (fun z => by first | decide | omega), (fun z => by first | decide | omega), (fun _ => m2800), (Tt.r1 (by first | decide | omega) (Tt.nil (Eq.trans c33 (congrArg (sk tB tN) (show h15 75 7 = 2147483648 by first | decide | omega))) (by first | decide | omega) rfl) (by first | decide | omega) (by first | decide | omega) (by first | decide | omega) (by first | decide | omega)), (fun _ => Wl.refl (by first | decide | omega) m2843), (fun _ => Tx.nil (Eq.trans c33 (congrArg (sk tB tN) (show h15 75 7 = 2147483648 by first | decide | omega))) (by first | decide | omega) m2852), (fun _ => Tz.nil (Eq.trans c33 (congrArg (sk tB tN) (show h15 75 7 = 2147483648 by first | decide | omega))) (by first | decide | omega) (ab2 m2861 m2862))⟩
set_option maxHeartbeats 0 in
/-- LentNamesModel.tell()I -/
theorem c195_75 {sc : Nat × Nat} {d  : Nat} {h : xh} {tB : Nat → Nat} {tN : Nat} (hJ : J h) (hr0 : (h 76 1) ≤ 2147483658) (hW : WT 76 h) (hT : Tr tB tN h) : X sc 195 (d + 9) (xI fun r h' => J h' ∧ Fr 17801040477462069249 h h' ∧ (1 ≤ r ∧ r ≤ 2147483658) ∧ (h' 75 6 = 2147483648) ∧ WT 76 h' ∧ Tf tB tN h h' r) 0 0 0 [x_r 75, 147573952589676412928, 147573952589676412928] [] h := by
  have hF := Fr.refl 17801040477462069249 h
  refine x_aload (np := 1) (x := 0) (by decide +kernel) rfl (x_nc_le (by decide)) ?_
  refine x_const (np := 2) (x := 9223372039002259456) (a := 2147483648) (by decide +kernel) (by decide) (by decide) ?_
  refine x_putI (np := 5) (x := 704) (f := 0) (by decide +kernel) (by decide +kernel) (by decide) (Or.inl (by decide)) ?_
  have j2 := jU (e := 0) (v := 2147483648) 0 hJ rg_75_0_0_1 (by first | decide | omega) (by first | decide | omega) (by first | decide | omega)
  have f4 := jF (e := 0) (v := 2147483648) 0 hF rg_75_0_0_1 (by first | decide | omega) (by first | decide | omega) (by decide)
  generalize e3 : x_up h 75 0 2147483648 = h1 at j2 f4 ⊢
  refine x_const (np := 6) (x := 9223372039002259456) (a := 2147483648) (by decide +kernel) (by decide) (by decide) ?_
  refine x_istore (np := 7) (x := 1) (lo' := [x_r 75, iv_c 2147483648, 147573952589676412928]) (by decide +kernel) (by decide) (Nat.le_of_ble_eq_true rfl) rfl ?_
  have p366 : ∀ (n : Nat) (v361 : Nat) (h363 : xh), 4294967296 - v361 < n → (2147483648 ≤ v361 ∧ v361 ≤ 2147483938) → J h363 → Fr 17293822569371140096 h1 h363 → Clp (v361 - 2147483648) h363 → Cpa 78 76 h1 h363 (v361 - 2147483648) → X sc 195 (d + 9) (xI fun r h' => J h' ∧ Fr 17801040477462069249 h h' ∧ (1 ≤ r ∧ r ≤ 2147483658) ∧ (h' 75 6 = 2147483648) ∧ WT 76 h' ∧ Tf tB tN h h' r) 0 0 7 [x_r 75, iv_c v361, 147573952589676412928] [] h363 := by
    intro n
    induction n with
    | zero => intro v361 h363 q369; exact absurd q369 (Nat.not_lt_zero _)
    | succ n i370 =>
      intro v361 h363 q369 b362 j365 f364 m368 m367
      have f371 := Fr.trans f4 f364 (by decide)
      refine x_iload (np := 8) (x := 1) (by decide +kernel) rfl (by first | decide | omega) ?_
      refine x_const (np := 11) (x := 9223373284542775586) (a := 2147483938) (by decide +kernel) (by decide) (by decide) ?_
      refine x_icmp (k := 3) (tg := 32) (np := 14) (by decide +kernel) (by decide) (by first | decide | omega) (by decide) (fun q372 => ?_) (fun q373 => ?_)
      · have q372 : 2147483938 ≤ v361 := q372
        refine x_aload (np := 33) (x := 0) (by decide +kernel) rfl (x_nc_le (by decide)) ?_
        refine x_const (np := 34) (x := 9223372043297226753) (a := 2147483649) (by decide +kernel) (by decide) (by decide) ?_
        have m377 : Cl h363 := Clp.cl m368 (by first | decide | omega)
        have m379 : Tr tB tN h1 := by rw [← e3]; exact Tr.oth hT (by decide) (by decide)
        have m378 := Tr.fr m379 f364 (by decide) (by decide)
        refine x_cI (t := 6) (mj := 194) (n := 2) (rc := 12) (ml := 3) (nr := 0) (np := 37) (as := [x_r 75, iv_c 2147483649]) (rest := []) (lo1 := [x_r 75, iv_c 2147483649, 147573952589676412928]) (by decide +kernel) (by decide) (by decide +kernel) (x_rb_of (by decide +kernel)) rfl rfl (x_wr (by decide) (x_wi (by decide) x_wn)) x_wn (by decide) rfl (c194_75_c1 j365   m377 m378) (fun v374 h380 l375 q376 => ?_)
        obtain ⟨j381, f382, b383, c384, c385, c386, c387, c388, c389, c390, c391⟩ := q376
        have f392 := Fr.trans f371 f382 (by decide)
        have b393 := jB (e := 6) 0 j381 rg_75_6_0_1 (by first | decide | omega) (by first | decide | omega)
        have b394 := jB (e := 0) 0 j365 rg_78_0_0_1 (by first | decide | omega) (by first | decide | omega)
        have b395 := jB (e := 0) 0 j381 rg_78_0_0_1 (by first | decide | omega) (by first | decide | omega)
        refine x_istore (np := 38) (x := 1) (lo' := [x_r 75, iv_c v374, 147573952589676412928]) (by decide +kernel) l375 (Nat.le_of_ble_eq_true rfl) rfl ?_
        refine x_aload (np := 39) (x := 0) (by decide +kernel) rfl (x_nc_le (by decide)) ?_
        refine x_iload (np := 40) (x := 1) (by decide +kernel) rfl l375 ?_
        refine x_ifz (k := 3) (tg := 50) (np := 43) (by decide +kernel) (by decide) l375 (fun q396 => ?_) (fun q397 => ?_)
        · have q396 : 2147483648 ≤ v374 := q396
          have b398 := c385 (by first | decide | omega)
          have b399 := c386 (by first | decide | omega)
          have m400 := c387 (by first | decide | omega)
          refine x_const (np := 51) (x := 9223372034707292159) (a := 2147483647) (by decide +kernel) (by decide) (by decide) ?_
          refine x_putI (np := 54) (x := 715) (f := 11) (by decide +kernel) (by decide +kernel) (by decide) (Or.inl (by decide)) ?_
          have j402 := jU (e := 11) (v := 2147483647) 0 j381 rg_75_11_0_1 (by first | decide | omega) (by first | decide | omega) (by first | decide | omega)
          have f404 := jF (e := 11) (v := 2147483647) 0 f392 rg_75_11_0_1 (by first | decide | omega) (by first | decide | omega) (by decide)
          generalize e403 : x_up h380 75 11 2147483647 = h401 at j402 f404 ⊢
          refine x_aload (np := 55) (x := 0) (by decide +kernel) rfl (x_nc_le (by decide)) ?_
          refine x_iload (np := 56) (x := 1) (by decide +kernel) rfl l375 ?_
          refine x_ifz (k := 3) (tg := 63) (np := 59) (by decide +kernel) (by decide) l375 (fun q405 => ?_) (fun q406 => ?_)
          · have q405 : 2147483648 ≤ v374 := q405
            refine x_const (np := 64) (x := 9223372039002259456) (a := 2147483648) (by decide +kernel) (by decide) (by decide) ?_
            refine x_const (np := 65) (x := 9223372043297226753) (a := 2147483649) (by decide +kernel) (by decide) (by decide) ?_
            refine x_nI (t := 6) (mj := 152) (n := 3) (rc := 12) (ml := 3) (nr := 0) (np := 68) (as := [x_r 75, iv_c 2147483648, iv_c 2147483649]) (rest := []) (lo1 := [x_r 75, iv_c 2147483648, iv_c 2147483649]) (by decide +kernel) (by decide) (by decide +kernel) (x_rb_of (by decide +kernel)) rfl rfl (x_wr (by decide) (x_wi (by decide) (x_wi (by decide) x_wn))) x_wn (by decide) rfl ?_
            refine x_iload (np := 1) (x := 1) (by decide +kernel) rfl (by decide) ?_
            refine x_ifz (k := 0) (tg := 9) (np := 4) (by decide +kernel) (by decide) (by decide) (fun q407 => ?_) (fun q408 => ?_)
            · have q407 : 2147483648 = 2147483648 := q407
              refine x_iload (np := 10) (x := 1) (by decide +kernel) rfl (by decide) ?_
              refine x_retI (np := 11) (x := 0) (by decide +kernel) (by decide) (Or.inr ⟨by decide +kernel, by first | decide | omega, by first | decide | omega⟩) ⟨_, rfl, (by decide), ?_⟩
              refine x_ifz (k := 1) (tg := 95) (np := 71) (by decide +kernel) (by decide) (by decide) (fun q409 => ?_) (fun q410 => ?_)
              · have q409 : 2147483648 ≠ 2147483648 := q409
                exfalso; omega
              have q410 : ¬ (2147483648 ≠ 2147483648) := q410
              refine x_aload (np := 72) (x := 0) (by decide +kernel) rfl (x_nc_le (by decide)) ?_
              refine x_aload (np := 73) (x := 0) (by decide +kernel) rfl (x_nc_le (by decide)) ?_
              have q411 : h401 75 1 = 76 := by have z := jB (e := 1) 0 j402 rg_75_1_0_1 (by decide) (by decide); omega
              refine x_getR (np := 76) (x := 705) (f := 1) (q := 76) (by decide +kernel) (by decide) (by decide +kernel) q411 ?_
              refine x_const (np := 77) (x := 9223372043297226753) (a := 2147483649) (by decide +kernel) (by decide) (by decide) ?_
              have q412 : h401 76 1 = h380 76 1 := by rw [← e403]; exact x_up_k (by decide)
              have q413 : h380 76 1 = h363 76 1 := jK 0 f382 rg_76_1_0_1 (by first | decide | omega) (by first | decide | omega) (by decide)
              have q414 : h363 76 1 = h1 76 1 := jK 0 f364 rg_76_1_0_1 (by first | decide | omega) (by first | decide | omega) (by decide)
              have q415 : h1 76 1 = h 76 1 := by rw [← e3]; exact x_up_k (by decide)
              refine x_aldC (np := 78) (x := 0) (n := 1952) (i := 1) (q := (h 76 1)) (by decide +kernel) (by decide +kernel) (by first | decide | omega) (by first | decide | omega) (by decide) (((q412.trans q413).trans q414).trans q415) (fun l416 => ?_)
              refine x_const (np := 80) (x := 9223372081951932426) (a := 2147483658) (by decide +kernel) (by decide) (by decide) ?_
              refine x_icmp (k := 1) (tg := 87) (np := 83) (by decide +kernel) (by decide) l416 (by decide) (fun q417 => ?_) (fun q418 => ?_)
              · have q417 : (h 76 1) ≠ 2147483658 := q417
                refine x_const (np := 88) (x := 9223372039002259456) (a := 2147483648) (by decide +kernel) (by decide) (by decide) ?_
                refine x_const (np := 89) (x := 9223372047592194050) (a := 2147483650) (by decide +kernel) (by decide) (by decide) ?_
                refine x_nI (t := 6) (mj := 152) (n := 3) (rc := 12) (ml := 3) (nr := 0) (np := 92) (as := [x_r 75, iv_c 2147483648, iv_c 2147483650]) (rest := []) (lo1 := [x_r 75, iv_c 2147483648, iv_c 2147483650]) (by decide +kernel) (by decide) (by decide +kernel) (x_rb_of (by decide +kernel)) rfl rfl (x_wr (by decide) (x_wi (by decide) (x_wi (by decide) x_wn))) x_wn (by decide) rfl ?_
                refine x_iload (np := 1) (x := 1) (by decide +kernel) rfl (by decide) ?_
                refine x_ifz (k := 0) (tg := 9) (np := 4) (by decide +kernel) (by decide) (by decide) (fun q419 => ?_) (fun q420 => ?_)
                · have q419 : 2147483648 = 2147483648 := q419
                  refine x_iload (np := 10) (x := 1) (by decide +kernel) rfl (by decide) ?_
                  refine x_retI (np := 11) (x := 0) (by decide +kernel) (by decide) (Or.inr ⟨by decide +kernel, by first | decide | omega, by first | decide | omega⟩) ⟨_, rfl, (by decide), ?_⟩
                  refine x_ifz (k := 0) (tg := 97) (np := 95) (by decide +kernel) (by decide) (by decide) (fun q421 => ?_) (fun q422 => ?_)
                  · have q421 : 2147483648 = 2147483648 := q421
                    refine x_const (np := 98) (x := 9223372039002259456) (a := 2147483648) (by decide +kernel) (by decide) (by decide) ?_
                    refine x_istore (np := 99) (x := 2) (lo' := [x_r 75, iv_c v374, iv_c 2147483648]) (by decide +kernel) (by decide) (Nat.le_of_ble_eq_true rfl) rfl ?_
                    have p824 : ∀ (n : Nat) (v819 : Nat) (h821 : xh), 4294967296 - v819 < n → (2147483648 ≤ v819 ∧ v819 ≤ 2147483938) → J h821 → Fr 507217908066156544 h401 h821 → WT 76 h821 → Cpa 76 78 h401 h821 (v819 - 2147483648) → X sc 195 (d + 9) (xI fun r h' => J h' ∧ Fr 17801040477462069249 h h' ∧ (1 ≤ r ∧ r ≤ 2147483658) ∧ (h' 75 6 = 2147483648) ∧ WT 76 h' ∧ Tf tB tN h h' r) 0 0 99 [x_r 75, iv_c v374, iv_c v819] [] h821 := by
                      intro n
                      induction n with
                      | zero => intro v819 h821 q827; exact absurd q827 (Nat.not_lt_zero _)
                      | succ n i828 =>
                        intro v819 h821 q827 b820 j823 f822 m825 m826
                        have f829 := Fr.trans f404 f822 (by decide)
                        refine x_iload (np := 100) (x := 2) (by decide +kernel) rfl (by first | decide | omega) ?_
                        refine x_const (np := 103) (x := 9223373284542775586) (a := 2147483938) (by decide +kernel) (by decide) (by decide) ?_
                        refine x_icmp (k := 3) (tg := 124) (np := 106) (by decide +kernel) (by decide) (by first | decide | omega) (by decide) (fun q830 => ?_) (fun q831 => ?_)
                        · have q830 : 2147483938 ≤ v819 := q830
                          have q833 : h1 76 1 = h 76 1 := by rw [← e3]; exact x_up_k (by decide)
                          have z832 := m367 1 (by first | decide | omega)
                          have q835 : h401 78 1 = h380 78 1 := by rw [← e403]; exact x_up_k (by decide)
                          have z834 := m826 1 (by first | decide | omega)
                          refine x_aload (np := 125) (x := 0) (by decide +kernel) rfl (x_nc_le (by decide)) ?_
                          have q836 : h821 75 1 = 76 := by have z := jB (e := 1) 0 j823 rg_75_1_0_1 (by decide) (by decide); omega
                          refine x_getR (np := 128) (x := 705) (f := 1) (q := 76) (by decide +kernel) (by decide) (by decide +kernel) q836 ?_
                          refine x_const (np := 129) (x := 9223372043297226753) (a := 2147483649) (by decide +kernel) (by decide) (by decide) ?_
                          refine x_dup2 (np := 130) (x := 0) (by decide +kernel) (by have z := (iw_c_lt (a := 2147483649) (by decide)).1; omega) (by have z := x_nc_le (k := 76) (by decide); unfold x_r; omega) ?_
                          refine x_aldC (np := 131) (x := 0) (n := 1952) (i := 1) (q := (h821 76 1)) (by decide +kernel) (by decide +kernel) (by first | decide | omega) (by first | decide | omega) (by decide) rfl (fun l837 => ?_)
                          refine x_const (np := 132) (x := 9223372043297226753) (a := 2147483649) (by decide +kernel) (by decide) (by decide) ?_
                          refine x_iadd (np := 133) (x := 0) (v := (1 + (h821 76 1))) (by decide +kernel) l837 (by decide) (by first | decide | omega) (by first | decide | omega) ?_
                          refine x_ast (np := 134) (x := 0) (kd := 1) (n := 1952) (i := 1) (by decide +kernel) (Or.inl rfl) (by decide +kernel) (by first | decide | omega) (by first | decide | omega) (by decide) (by first | decide | omega) (fun z => absurd z (by decide)) ?_
                          have j839 := jU (e := 1) (v := (1 + (h821 76 1))) 0 j823 rg_76_1_0_1 (by first | decide | omega) (by first | decide | omega) (by first | decide | omega)
                          have f841 := jF (e := 1) (v := (1 + (h821 76 1))) 0 f829 rg_76_1_0_1 (by first | decide | omega) (by first | decide | omega) (by decide)
                          generalize e840 : x_up h821 76 1 (1 + (h821 76 1)) = h838 at j839 f841 ⊢
                          refine x_aload (np := 135) (x := 0) (by decide +kernel) rfl (x_nc_le (by decide)) ?_
                          have q842 : h838 75 1 = 76 := by have z := jB (e := 1) 0 j839 rg_75_1_0_1 (by decide) (by decide); omega
                          refine x_getR (np := 138) (x := 705) (f := 1) (q := 76) (by decide +kernel) (by decide) (by decide +kernel) q842 ?_
                          refine x_const (np := 139) (x := 9223372043297226753) (a := 2147483649) (by decide +kernel) (by decide) (by decide) ?_
                          have q843 : h838 76 1 = (1 + (h821 76 1)) := by rw [← e840]; exact x_up_at
                          refine x_aldC (np := 140) (x := 0) (n := 1952) (i := 1) (q := (1 + (h821 76 1))) (by decide +kernel) (by decide +kernel) (by first | decide | omega) (by first | decide | omega) (by decide) q843 (fun l844 => ?_)
                          have q845 : h838 75 6 = h821 75 6 := by rw [← e840]; exact x_up_k (by decide)
                          have q846 : h821 75 6 = h401 75 6 := jK 0 f822 rg_75_6_0_1 (by first | decide | omega) (by first | decide | omega) (by decide)
                          have q847 : h401 75 6 = h380 75 6 := by rw [← e403]; exact x_up_i (by first | decide | omega)
                          have m848 : WT 76 h838 := by rw [← e840]; exact WT.up m825 j823 (by first | decide | omega)
                          have q849 : h1 76 0 = h 76 0 := by rw [← e3]; exact x_up_k (by decide)
                          have b850 := jB (e := 0) 0 hJ rg_76_0_0_1 (by first | decide | omega) (by first | decide | omega)
                          have q851 : h363 76 0 = h1 76 0 := jK 0 f364 rg_76_0_0_1 (by first | decide | omega) (by first | decide | omega) (by decide)
                          have q852 : h1 76 0 = h 76 0 := by rw [← e3]; exact x_up_k (by decide)
                          have z853 := m367 0 (by first | decide | omega)
                          have q854 : h838 76 0 = h821 76 0 := by rw [← e840]; exact x_up_i (by first | decide | omega)
                          have b855 := jB (e := 0) 0 j823 rg_76_0_0_1 (by first | decide | omega) (by first | decide | omega)
                          have q856 : h1 76 1 = h 76 1 := by rw [← e3]; exact x_up_k (by decide)
                          have q857 : h363 76 1 = h1 76 1 := jK 0 f364 rg_76_1_0_1 (by first | decide | omega) (by first | decide | omega) (by decide)
                          have q858 : h1 76 1 = h 76 1 := by rw [← e3]; exact x_up_k (by decide)
                          have z859 := m367 1 (by first | decide | omega)
                          have q860 : h838 76 1 = (1 + (h821 76 1)) := by rw [← e840]; exact x_up_at
                          have b861 := jB (e := 2) 0 j365 rg_78_2_0_1 (by first | decide | omega) (by first | decide | omega)
                          have q862 : h1 76 2 = h 76 2 := by rw [← e3]; exact x_up_k (by decide)
                          have b863 := jB (e := 2) 0 hJ rg_76_2_0_1 (by first | decide | omega) (by first | decide | omega)
                          have q864 : h363 76 2 = h1 76 2 := jK 0 f364 rg_76_2_0_1 (by first | decide | omega) (by first | decide | omega) (by decide)
                          have q865 : h1 76 2 = h 76 2 := by rw [← e3]; exact x_up_k (by decide)
                          have z866 := m367 2 (by first | decide | omega)
                          have q867 : h838 76 2 = h821 76 2 := by rw [← e840]; exact x_up_i (by first | decide | omega)
                          have b868 := jB (e := 2) 0 j823 rg_76_2_0_1 (by first | decide | omega) (by first | decide | omega)
                          have b869 := jB (e := 2) 0 j381 rg_78_2_0_1 (by first | decide | omega) (by first | decide | omega)
                          have b870 := jB (e := 3) 0 j365 rg_78_3_0_1 (by first | decide | omega) (by first | decide | omega)
                          have q871 : h1 76 3 = h 76 3 := by rw [← e3]; exact x_up_k (by decide)
                          have b872 := jB (e := 3) 0 hJ rg_76_3_0_1 (by first | decide | omega) (by first | decide | omega)
                          have q873 : h363 76 3 = h1 76 3 := jK 0 f364 rg_76_3_0_1 (by first | decide | omega) (by first | decide | omega) (by decide)
                          have q874 : h1 76 3 = h 76 3 := by rw [← e3]; exact x_up_k (by decide)
                          have z875 := m367 3 (by first | decide | omega)
                          have q876 : h838 76 3 = h821 76 3 := by rw [← e840]; exact x_up_i (by first | decide | omega)
                          have b877 := jB (e := 3) 0 j823 rg_76_3_0_1 (by first | decide | omega) (by first | decide | omega)
                          have b878 := jB (e := 3) 0 j381 rg_78_3_0_1 (by first | decide | omega) (by first | decide | omega)
                          have b879 := jB (e := 4) 0 j365 rg_78_4_0_1 (by first | decide | omega) (by first | decide | omega)
                          have q880 : h1 76 4 = h 76 4 := by rw [← e3]; exact x_up_k (by decide)
                          have b881 := jB (e := 4) 0 hJ rg_76_4_0_1 (by first | decide | omega) (by first | decide | omega)
                          have q882 : h363 76 4 = h1 76 4 := jK 0 f364 rg_76_4_0_1 (by first | decide | omega) (by first | decide | omega) (by decide)
                          have q883 : h1 76 4 = h 76 4 := by rw [← e3]; exact x_up_k (by decide)
                          have z884 := m367 4 (by first | decide | omega)
                          have q885 : h838 76 4 = h821 76 4 := by rw [← e840]; exact x_up_i (by first | decide | omega)
                          have b886 := jB (e := 4) 0 j823 rg_76_4_0_1 (by first | decide | omega) (by first | decide | omega)
                          have b887 := jB (e := 4) 0 j381 rg_78_4_0_1 (by first | decide | omega) (by first | decide | omega)
                          have b888 := jB (e := 5) 0 j365 rg_78_5_0_1 (by first | decide | omega) (by first | decide | omega)
                          have q889 : h1 76 5 = h 76 5 := by rw [← e3]; exact x_up_k (by decide)
                          have b890 := jB (e := 5) 0 hJ rg_76_5_0_1 (by first | decide | omega) (by first | decide | omega)
                          have q891 : h363 76 5 = h1 76 5 := jK 0 f364 rg_76_5_0_1 (by first | decide | omega) (by first | decide | omega) (by decide)
                          have q892 : h1 76 5 = h 76 5 := by rw [← e3]; exact x_up_k (by decide)
                          have z893 := m367 5 (by first | decide | omega)
                          have q894 : h838 76 5 = h821 76 5 := by rw [← e840]; exact x_up_i (by first | decide | omega)
                          have b895 := jB (e := 5) 0 j823 rg_76_5_0_1 (by first | decide | omega) (by first | decide | omega)
                          have b896 := jB (e := 5) 0 j381 rg_78_5_0_1 (by first | decide | omega) (by first | decide | omega)
                          have q897 : h1 76 14 = h 76 14 := by rw [← e3]; exact x_up_k (by decide)
                          have q898 : h363 76 14 = h1 76 14 := jK 0 f364 rg_76_14_0_1 (by first | decide | omega) (by first | decide | omega) (by decide)
                          have q899 : h1 76 14 = h 76 14 := by rw [← e3]; exact x_up_k (by decide)
                          have z900 := m367 14 (by first | decide | omega)
                          have q901 : h838 76 14 = h821 76 14 := by rw [← e840]; exact x_up_i (by first | decide | omega)
                          have q902 : h380 78 14 = h363 78 14 := jK 0 f382 rg_78_14_0_1 (by first | decide | omega) (by first | decide | omega) (by decide)
                          have q903 : h1 76 15 = h 76 15 := by rw [← e3]; exact x_up_k (by decide)
                          have q904 : h363 76 15 = h1 76 15 := jK 0 f364 rg_76_15_0_1 (by first | decide | omega) (by first | decide | omega) (by decide)
                          have q905 : h1 76 15 = h 76 15 := by rw [← e3]; exact x_up_k (by decide)
                          have z906 := m367 15 (by first | decide | omega)
                          have q907 : h838 76 15 = h821 76 15 := by rw [← e840]; exact x_up_i (by first | decide | omega)
                          have q908 : h380 78 15 = h363 78 15 := jK 0 f382 rg_78_15_0_1 (by first | decide | omega) (by first | decide | omega) (by decide)
                          have q909 : h1 76 16 = h 76 16 := by rw [← e3]; exact x_up_k (by decide)
                          have q910 : h363 76 16 = h1 76 16 := jK 0 f364 rg_76_16_0_1 (by first | decide | omega) (by first | decide | omega) (by decide)
                          have q911 : h1 76 16 = h 76 16 := by rw [← e3]; exact x_up_k (by decide)
                          have z912 := m367 16 (by first | decide | omega)
                          have q913 : h838 76 16 = h821 76 16 := by rw [← e840]; exact x_up_i (by first | decide | omega)
                          have q914 : h380 78 16 = h363 78 16 := jK 0 f382 rg_78_16_0_1 (by first | decide | omega) (by first | decide | omega) (by decide)
                          have q915 : h1 76 17 = h 76 17 := by rw [← e3]; exact x_up_k (by decide)
                          have q916 : h363 76 17 = h1 76 17 := jK 0 f364 rg_76_17_0_1 (by first | decide | omega) (by first | decide | omega) (by decide)
                          have q917 : h1 76 17 = h 76 17 := by rw [← e3]; exact x_up_k (by decide)
                          have z918 := m367 17 (by first | decide | omega)
                          have q919 : h838 76 17 = h821 76 17 := by rw [← e840]; exact x_up_i (by first | decide | omega)
                          have q920 : h380 78 17 = h363 78 17 := jK 0 f382 rg_78_17_0_1 (by first | decide | omega) (by first | decide | omega) (by decide)
                          have q921 : h1 76 18 = h 76 18 := by rw [← e3]; exact x_up_k (by decide)
                          have q922 : h363 76 18 = h1 76 18 := jK 0 f364 rg_76_18_0_1 (by first | decide | omega) (by first | decide | omega) (by decide)
                          have q923 : h1 76 18 = h 76 18 := by rw [← e3]; exact x_up_k (by decide)
                          have z924 := m367 18 (by first | decide | omega)
                          have q925 : h838 76 18 = h821 76 18 := by rw [← e840]; exact x_up_i (by first | decide | omega)
                          have q926 : h380 78 18 = h363 78 18 := jK 0 f382 rg_78_18_0_1 (by first | decide | omega) (by first | decide | omega) (by decide)
                          have q927 : h1 76 19 = h 76 19 := by rw [← e3]; exact x_up_k (by decide)
                          have q928 : h363 76 19 = h1 76 19 := jK 0 f364 rg_76_19_0_1 (by first | decide | omega) (by first | decide | omega) (by decide)
                          have q929 : h1 76 19 = h 76 19 := by rw [← e3]; exact x_up_k (by decide)
                          have z930 := m367 19 (by first | decide | omega)
                          have q931 : h838 76 19 = h821 76 19 := by rw [← e840]; exact x_up_i (by first | decide | omega)
                          have q932 : h380 78 19 = h363 78 19 := jK 0 f382 rg_78_19_0_1 (by first | decide | omega) (by first | decide | omega) (by decide)
                          have q933 : h838 75 0 = h821 75 0 := by rw [← e840]; exact x_up_k (by decide)
                          have q934 : h821 75 0 = h401 75 0 := jK 0 f822 rg_75_0_0_1 (by first | decide | omega) (by first | decide | omega) (by decide)
                          have q935 : h401 75 0 = h380 75 0 := by rw [← e403]; exact x_up_i (by first | decide | omega)
                          have q936 : h380 75 0 = h363 75 0 := jK 0 f382 rg_75_0_0_1 (by first | decide | omega) (by first | decide | omega) (by decide)
                          have q937 : h363 75 0 = h1 75 0 := jK 0 f364 rg_75_0_0_1 (by first | decide | omega) (by first | decide | omega) (by decide)
                          have q938 : h1 75 0 = 2147483648 := by rw [← e3]; exact x_up_at
                          have c939 := Tt.cast (pe' := h 76 0) (l1 := h 76 2) (t1 := h 76 3) (d1 := h 76 4) (s1 := h 76 5) c388 (by first | decide | omega) (by first | decide | omega) (by first | decide | omega) (by first | decide | omega) (by first | decide | omega)
                          have q940 : h401 78 0 = h380 78 0 := by rw [← e403]; exact x_up_k (by decide)
                          have z941 := m826 0 (by first | decide | omega)
                          have q942 : h401 78 1 = h380 78 1 := by rw [← e403]; exact x_up_k (by decide)
                          have z943 := m826 1 (by first | decide | omega)
                          have q944 : h401 78 2 = h380 78 2 := by rw [← e403]; exact x_up_k (by decide)
                          have z945 := m826 2 (by first | decide | omega)
                          have q946 : h401 78 3 = h380 78 3 := by rw [← e403]; exact x_up_k (by decide)
                          have z947 := m826 3 (by first | decide | omega)
                          have q948 : h401 78 4 = h380 78 4 := by rw [← e403]; exact x_up_k (by decide)
                          have z949 := m826 4 (by first | decide | omega)
                          have q950 : h401 78 5 = h380 78 5 := by rw [← e403]; exact x_up_k (by decide)
                          have z951 := m826 5 (by first | decide | omega)
                          have q952 : h401 78 14 = h380 78 14 := by rw [← e403]; exact x_up_k (by decide)
                          have q953 : h380 78 14 = h363 78 14 := jK 0 f382 rg_78_14_0_1 (by first | decide | omega) (by first | decide | omega) (by decide)
                          have q954 : h380 78 14 = h363 78 14 := jK 0 f382 rg_78_14_0_1 (by first | decide | omega) (by first | decide | omega) (by decide)
                          have z955 := m826 14 (by first | decide | omega)
                          have q956 : h401 78 15 = h380 78 15 := by rw [← e403]; exact x_up_k (by decide)
                          have q957 : h380 78 15 = h363 78 15 := jK 0 f382 rg_78_15_0_1 (by first | decide | omega) (by first | decide | omega) (by decide)
                          have q958 : h380 78 15 = h363 78 15 := jK 0 f382 rg_78_15_0_1 (by first | decide | omega) (by first | decide | omega) (by decide)
                          have z959 := m826 15 (by first | decide | omega)
                          have q960 : h401 78 16 = h380 78 16 := by rw [← e403]; exact x_up_k (by decide)
                          have q961 : h380 78 16 = h363 78 16 := jK 0 f382 rg_78_16_0_1 (by first | decide | omega) (by first | decide | omega) (by decide)
                          have q962 : h380 78 16 = h363 78 16 := jK 0 f382 rg_78_16_0_1 (by first | decide | omega) (by first | decide | omega) (by decide)
                          have z963 := m826 16 (by first | decide | omega)
                          have q964 : h401 78 17 = h380 78 17 := by rw [← e403]; exact x_up_k (by decide)
                          have q965 : h380 78 17 = h363 78 17 := jK 0 f382 rg_78_17_0_1 (by first | decide | omega) (by first | decide | omega) (by decide)
                          have q966 : h380 78 17 = h363 78 17 := jK 0 f382 rg_78_17_0_1 (by first | decide | omega) (by first | decide | omega) (by decide)
                          have z967 := m826 17 (by first | decide | omega)
                          have q968 : h401 78 18 = h380 78 18 := by rw [← e403]; exact x_up_k (by decide)
                          have q969 : h380 78 18 = h363 78 18 := jK 0 f382 rg_78_18_0_1 (by first | decide | omega) (by first | decide | omega) (by decide)
                          have q970 : h380 78 18 = h363 78 18 := jK 0 f382 rg_78_18_0_1 (by first | decide | omega) (by first | decide | omega) (by decide)
                          have z971 := m826 18 (by first | decide | omega)
                          have q972 : h401 78 19 = h380 78 19 := by rw [← e403]; exact x_up_k (by decide)
                          have q973 : h380 78 19 = h363 78 19 := jK 0 f382 rg_78_19_0_1 (by first | decide | omega) (by first | decide | omega) (by decide)
                          have q974 : h380 78 19 = h363 78 19 := jK 0 f382 rg_78_19_0_1 (by first | decide | omega) (by first | decide | omega) (by decide)
                          have z975 := m826 19 (by first | decide | omega)
                          have q976 : h838 76 3 = h821 76 3 := by rw [← e840]; exact x_up_i (by first | decide | omega)
                          have m977 : ∀ u, u < 10 → ww h1 u = ww h u := fun u hu => (show ww h1 u = ww h u by rw [← e3]; exact ww_k (by decide))
                          have m978 : ∀ u, u < 10 → ww h838 u = ww h821 u := fun u hu => (show ww h838 u = ww h821 u by rw [← e840]; exact ww_i (by first | decide | omega))
                          have m979 : ∀ u, u < 10 → wdr h401 u = wdr h380 u := fun u hu => (show wdr h401 u = wdr h380 u by rw [← e403]; exact wdr_k (by decide))
                          have q980 : h363 76 0 = h1 76 0 := jK 0 f364 rg_76_0_0_1 (by first | decide | omega) (by first | decide | omega) (by decide)
                          have q981 : h1 76 0 = h 76 0 := by rw [← e3]; exact x_up_k (by decide)
                          have m982 : ∀ u, u < 6 → xw h1 u = xw h u := fun u hu => (show xw h1 u = xw h u by rw [← e3]; exact xw_k (by decide))
                          have m983 : ∀ u, u < 6 → xw h838 u = xw h821 u := fun u hu => (show xw h838 u = xw h821 u by rw [← e840]; exact xw_i (by first | decide | omega))
                          have m984 : ∀ u, u < 6 → xd h401 u = xd h380 u := fun u hu => (show xd h401 u = xd h380 u by rw [← e403]; exact xd_k (by decide))
                          have m985 : ∀ u, u < 10 → aw h1 u = aw h u := fun u hu => (show aw h1 u = aw h u by rw [← e3]; exact aw_k (by decide))
                          have m986 : ∀ u, u < 10 → aw h838 u = aw h821 u := fun u hu => (show aw h838 u = aw h821 u by rw [← e840]; exact aw_i (by first | decide | omega))
                          have m987 : ∀ u, u < 10 → adr h401 u = adr h380 u := fun u hu => (show adr h401 u = adr h380 u by rw [← e403]; exact adr_k (by decide))
                          have m988 : ∀ u, u < 10 → bw h1 u = bw h u := fun u hu => (show bw h1 u = bw h u by rw [← e3]; exact bw_k (by decide))
                          have m989 : ∀ u, u < 10 → bw h838 u = bw h821 u := fun u hu => (show bw h838 u = bw h821 u by rw [← e840]; exact bw_i (by first | decide | omega))
                          have m990 : ∀ u, u < 10 → bdr h401 u = bdr h380 u := fun u hu => (show bdr h401 u = bdr h380 u by rw [← e403]; exact bdr_k (by decide))
                          refine x_retI (np := 141) (x := 0) (by decide +kernel) (by first | decide | omega) (Or.inl (by decide +kernel)) ⟨_, rfl, (by first | decide | omega), ?_⟩
                          exact ⟨j839, f841, (by first | decide | omega), (by first | decide | omega), m848, (Or.inl ⟨by first | decide | omega, Tt.somer c939 (by first | decide | omega) (by first | decide | omega) (by first | decide | omega) (by first | decide | omega) (by first | decide | omega), by first | decide | omega, by first | decide | omega, by first | decide | omega, by first | decide | omega, (sixp (by first | decide | omega) (by first | decide | omega) (by first | decide | omega) (by first | decide | omega) (by first | decide | omega) (by first | decide | omega)), Wl.mp (c389 (by first | decide | omega)) (fun u hu => ((fun _ _ => rfl) u hu).trans ((show wdr h363 u = ww h1 u from m367 (163 + 4 * u) (by first | decide | omega)).trans (m977 u hu))) (fun u hu => (m978 u hu).trans ((show ww h821 u = wdr h401 u from m826 (163 + 4 * u) (by first | decide | omega)).trans (m979 u hu))) (by first | decide | omega) (by first | decide | omega), Tx.mp (c390 (by first | decide | omega)) (fun u hu => ((fun _ _ => rfl) u hu).trans ((show xd h363 u = xw h1 u from m367 (8 + u) (by first | decide | omega)).trans (m982 u hu))) (fun u hu => (m983 u hu).trans ((show xw h821 u = xd h401 u from m826 (8 + u) (by first | decide | omega)).trans (m984 u hu))) (by first | decide | omega) (by first | decide | omega) (by first | decide | omega) (by first | decide | omega) (by first | decide | omega), Tz.mp (c391 (by first | decide | omega)) (ab2 (fun u hu => ((fun _ _ => rfl) u hu).trans ((show adr h363 u = aw h1 u from m367 (251 + 4 * u) (by first | decide | omega)).trans (m985 u hu))) (fun u hu => ((fun _ _ => rfl) u hu).trans ((show bdr h363 u = bw h1 u from m367 (252 + 4 * u) (by first | decide | omega)).trans (m988 u hu)))) (ab2 (fun u hu => (m986 u hu).trans ((show aw h821 u = adr h401 u from m826 (251 + 4 * u) (by first | decide | omega)).trans (m987 u hu))) (fun u hu => (m989 u hu).trans ((show bw h821 u = bdr h401 u from m826 (252 + 4 * u) (by first | decide | omega)).trans (m990 u hu)))) (by first | decide | omega) (by first | decide | omega) (by first | decide | omega) (by first | decide | omega) (by first | decide | omega)⟩)⟩
                        have q831 : ¬ (2147483938 ≤ v819) := q831
                        refine x_aload (np := 107) (x := 0) (by decide +kernel) rfl (x_nc_le (by decide)) ?_
                        have q991 : h821 75 1 = 76 := by have z := jB (e := 1) 0 j823 rg_75_1_0_1 (by decide) (by decide); omega
                        refine x_getR (np := 110) (x := 705) (f := 1) (q := 76) (by decide +kernel) (by decide) (by decide +kernel) q991 ?_
                        refine x_iload (np := 111) (x := 2) (by decide +kernel) rfl (by first | decide | omega) ?_
                        refine x_aload (np := 112) (x := 0) (by decide +kernel) rfl (x_nc_le (by decide)) ?_
                        have q992 : h821 75 3 = 78 := by have z := jB (e := 3) 0 j823 rg_75_3_0_1 (by decide) (by decide); omega
                        refine x_getR (np := 115) (x := 707) (f := 3) (q := 78) (by decide +kernel) (by decide) (by decide +kernel) q992 ?_
                        refine x_iload (np := 116) (x := 2) (by decide +kernel) rfl (by first | decide | omega) ?_
                        obtain ⟨u993, q994⟩ : ∃ z, v819 = 2147483648 + z := ⟨v819 - 2147483648, by first | decide | omega⟩
                        refine x_aldC (np := 117) (x := 0) (n := 290) (i := u993) (q := (h821 78 u993)) (by decide +kernel) (by decide +kernel) (by first | decide | omega) (by first | decide | omega) (by decide) rfl (fun l995 => ?_)
                        refine x_ast (np := 118) (x := 0) (kd := 1) (n := 1952) (i := u993) (by decide +kernel) (Or.inl rfl) (by decide +kernel) (by first | decide | omega) (by first | decide | omega) (by decide) l995 (fun z => absurd z (by decide)) ?_
                        have m1000 : Cl h401 := by rw [← e403]; exact Cl.oth m400 (by decide)
                        have m999 := Cl.fr m1000 f822 (by decide)
                        have j997 := clJ (e := u993) (v := (h821 78 u993)) j823 m999 (by first | decide | omega) rfl
                        have f1001 := clF (e := u993) (v := (h821 78 u993)) f829 (by first | decide | omega) (by decide) (by decide) (by decide) (by decide) (by decide) (by decide)
                        have f1002 := clF (e := u993) (v := (h821 78 u993)) f822 (by first | decide | omega) (by decide) (by decide) (by decide) (by decide) (by decide) (by decide)
                        generalize e998 : x_up h821 76 u993 (h821 78 u993) = h996 at j997 f1001 f1002 ⊢
                        refine x_iinc (np := 121) (i := 2) (j := 2147483649) (v := (1 + v819)) (lo' := [x_r 75, iv_c v374, iv_c (1 + v819)]) (by decide +kernel) (by decide) (by decide) rfl (by first | decide | omega) (by first | decide | omega) (by first | decide | omega) rfl ?_
                        refine x_goto (np := 124) (x := 99) (by decide +kernel) ?_
                        have m1003 : WT 76 h996 := by rw [← e998]; exact WT.up m825 j823 (by first | decide | omega)
                        have m1004 : Cpa 76 78 h401 h996 ((1 + v819) - 2147483648) := by
                          have e0 : v819 - 2147483648 = u993 := by first | decide | omega
                          have e9 : (1 + v819) = 2147483648 + (u993 + 1) := by first | decide | omega
                          have e1 : (1 + v819) - 2147483648 = u993 + 1 := by rw [e9]; exact Nat.add_sub_cancel_left _ _
                          have p9 := m826
                          rw [e0] at p9
                          rw [e1, ← e998]
                          exact Cpa.step p9 (f822 78 u993 (cl_grb (by first | decide | omega) (by decide)))
                        exact i828 (1 + v819) h996 (by first | decide | omega) (by first | decide | omega) j997 f1002 m1003 m1004
                    have m1008 : WT 76 h1 := by rw [← e3]; exact WT.oth hW hJ (by decide)
                    have m1007 := WT.fr m1008 j2 f364 (by decide)
                    have m1006 := WT.fr m1007 j365 f382 (by decide)
                    have m1005 : WT 76 h401 := by rw [← e403]; exact WT.oth m1006 j381 (by decide)
                    exact p824 _ 2147483648 h401 (Nat.lt_succ_self _) (by first | decide | omega) j402 (Fr.refl _ _) m1005 Cpa.zero
                  have q422 : ¬ (2147483648 = 2147483648) := q422
                  exfalso; omega
                have q420 : ¬ (2147483648 = 2147483648) := q420
                exfalso; omega
              have q418 : ¬ ((h 76 1) ≠ 2147483658) := q418
              refine x_const (np := 84) (x := 9223372043297226753) (a := 2147483649) (by decide +kernel) (by decide) (by decide) ?_
              refine x_goto (np := 87) (x := 88) (by decide +kernel) ?_
              refine x_const (np := 89) (x := 9223372047592194050) (a := 2147483650) (by decide +kernel) (by decide) (by decide) ?_
              refine x_nI (t := 6) (mj := 152) (n := 3) (rc := 12) (ml := 3) (nr := 0) (np := 92) (as := [x_r 75, iv_c 2147483649, iv_c 2147483650]) (rest := []) (lo1 := [x_r 75, iv_c 2147483649, iv_c 2147483650]) (by decide +kernel) (by decide) (by decide +kernel) (x_rb_of (by decide +kernel)) rfl rfl (x_wr (by decide) (x_wi (by decide) (x_wi (by decide) x_wn))) x_wn (by decide) rfl ?_
              refine x_iload (np := 1) (x := 1) (by decide +kernel) rfl (by decide) ?_
              refine x_ifz (k := 0) (tg := 9) (np := 4) (by decide +kernel) (by decide) (by decide) (fun q1009 => ?_) (fun q1010 => ?_)
              · have q1009 : 2147483649 = 2147483648 := q1009
                exfalso; omega
              have q1010 : ¬ (2147483649 = 2147483648) := q1010
              refine x_aload (np := 5) (x := 0) (by decide +kernel) rfl (x_nc_le (by decide)) ?_
              refine x_iload (np := 6) (x := 2) (by decide +kernel) rfl (by decide) ?_
              refine x_putI (np := 9) (x := 704) (f := 0) (by decide +kernel) (by decide +kernel) (by decide) (Or.inl (by decide)) ?_
              have j1012 := jU (e := 0) (v := 2147483650) 0 j402 rg_75_0_0_1 (by first | decide | omega) (by first | decide | omega) (by first | decide | omega)
              have f1014 := jF (e := 0) (v := 2147483650) 0 f404 rg_75_0_0_1 (by first | decide | omega) (by first | decide | omega) (by decide)
              generalize e1013 : x_up h401 75 0 2147483650 = h1011 at j1012 f1014 ⊢
              refine x_iload (np := 10) (x := 1) (by decide +kernel) rfl (by decide) ?_
              refine x_retI (np := 11) (x := 0) (by decide +kernel) (by decide) (Or.inr ⟨by decide +kernel, by first | decide | omega, by first | decide | omega⟩) ⟨_, rfl, (by decide), ?_⟩
              refine x_ifz (k := 0) (tg := 97) (np := 95) (by decide +kernel) (by decide) (by decide) (fun q1015 => ?_) (fun q1016 => ?_)
              · have q1015 : 2147483649 = 2147483648 := q1015
                exfalso; omega
              have q1016 : ¬ (2147483649 = 2147483648) := q1016
              refine x_const (np := 96) (x := 9223372039002259456) (a := 2147483648) (by decide +kernel) (by decide) (by decide) ?_
              have q1017 : h1011 75 6 = h401 75 6 := by rw [← e1013]; exact x_up_i (by first | decide | omega)
              have q1018 : h401 75 6 = h380 75 6 := by rw [← e403]; exact x_up_i (by first | decide | omega)
              have m1023 : WT 76 h1 := by rw [← e3]; exact WT.oth hW hJ (by decide)
              have m1022 := WT.fr m1023 j2 f364 (by decide)
              have m1021 := WT.fr m1022 j365 f382 (by decide)
              have m1020 : WT 76 h401 := by rw [← e403]; exact WT.oth m1021 j381 (by decide)
              have m1019 : WT 76 h1011 := by rw [← e1013]; exact WT.oth m1020 j402 (by decide)
              have q1024 : h1 76 0 = h 76 0 := by rw [← e3]; exact x_up_k (by decide)
              have b1025 := jB (e := 0) 0 hJ rg_76_0_0_1 (by first | decide | omega) (by first | decide | omega)
              have q1026 : h363 76 0 = h1 76 0 := jK 0 f364 rg_76_0_0_1 (by first | decide | omega) (by first | decide | omega) (by decide)
              have q1027 : h1 76 0 = h 76 0 := by rw [← e3]; exact x_up_k (by decide)
              have z1028 := m367 0 (by first | decide | omega)
              have q1029 : h1011 76 0 = h401 76 0 := by rw [← e1013]; exact x_up_k (by decide)
              have q1030 : h401 76 0 = h380 76 0 := by rw [← e403]; exact x_up_k (by decide)
              have q1031 : h380 76 0 = h363 76 0 := jK 0 f382 rg_76_0_0_1 (by first | decide | omega) (by first | decide | omega) (by decide)
              have q1032 : h363 76 0 = h1 76 0 := jK 0 f364 rg_76_0_0_1 (by first | decide | omega) (by first | decide | omega) (by decide)
              have q1033 : h1 76 0 = h 76 0 := by rw [← e3]; exact x_up_k (by decide)
              have q1034 : h1 76 1 = h 76 1 := by rw [← e3]; exact x_up_k (by decide)
              have q1035 : h363 76 1 = h1 76 1 := jK 0 f364 rg_76_1_0_1 (by first | decide | omega) (by first | decide | omega) (by decide)
              have q1036 : h1 76 1 = h 76 1 := by rw [← e3]; exact x_up_k (by decide)
              have z1037 := m367 1 (by first | decide | omega)
              have q1038 : h1011 76 1 = h401 76 1 := by rw [← e1013]; exact x_up_k (by decide)
              have q1039 : h401 76 1 = h380 76 1 := by rw [← e403]; exact x_up_k (by decide)
              have q1040 : h380 76 1 = h363 76 1 := jK 0 f382 rg_76_1_0_1 (by first | decide | omega) (by first | decide | omega) (by decide)
              have q1041 : h363 76 1 = h1 76 1 := jK 0 f364 rg_76_1_0_1 (by first | decide | omega) (by first | decide | omega) (by decide)
              have q1042 : h1 76 1 = h 76 1 := by rw [← e3]; exact x_up_k (by decide)
              have b1043 := jB (e := 2) 0 j365 rg_78_2_0_1 (by first | decide | omega) (by first | decide | omega)
              have q1044 : h1 76 2 = h 76 2 := by rw [← e3]; exact x_up_k (by decide)
              have b1045 := jB (e := 2) 0 hJ rg_76_2_0_1 (by first | decide | omega) (by first | decide | omega)
              have q1046 : h363 76 2 = h1 76 2 := jK 0 f364 rg_76_2_0_1 (by first | decide | omega) (by first | decide | omega) (by decide)
              have q1047 : h1 76 2 = h 76 2 := by rw [← e3]; exact x_up_k (by decide)
              have z1048 := m367 2 (by first | decide | omega)
              have q1049 : h1011 76 2 = h401 76 2 := by rw [← e1013]; exact x_up_k (by decide)
              have q1050 : h401 76 2 = h380 76 2 := by rw [← e403]; exact x_up_k (by decide)
              have q1051 : h380 76 2 = h363 76 2 := jK 0 f382 rg_76_2_0_1 (by first | decide | omega) (by first | decide | omega) (by decide)
              have q1052 : h363 76 2 = h1 76 2 := jK 0 f364 rg_76_2_0_1 (by first | decide | omega) (by first | decide | omega) (by decide)
              have q1053 : h1 76 2 = h 76 2 := by rw [← e3]; exact x_up_k (by decide)
              have b1054 := jB (e := 2) 0 j381 rg_78_2_0_1 (by first | decide | omega) (by first | decide | omega)
              have b1055 := jB (e := 3) 0 j365 rg_78_3_0_1 (by first | decide | omega) (by first | decide | omega)
              have q1056 : h1 76 3 = h 76 3 := by rw [← e3]; exact x_up_k (by decide)
              have b1057 := jB (e := 3) 0 hJ rg_76_3_0_1 (by first | decide | omega) (by first | decide | omega)
              have q1058 : h363 76 3 = h1 76 3 := jK 0 f364 rg_76_3_0_1 (by first | decide | omega) (by first | decide | omega) (by decide)
              have q1059 : h1 76 3 = h 76 3 := by rw [← e3]; exact x_up_k (by decide)
              have z1060 := m367 3 (by first | decide | omega)
              have q1061 : h1011 76 3 = h401 76 3 := by rw [← e1013]; exact x_up_k (by decide)
              have q1062 : h401 76 3 = h380 76 3 := by rw [← e403]; exact x_up_k (by decide)
              have q1063 : h380 76 3 = h363 76 3 := jK 0 f382 rg_76_3_0_1 (by first | decide | omega) (by first | decide | omega) (by decide)
              have q1064 : h363 76 3 = h1 76 3 := jK 0 f364 rg_76_3_0_1 (by first | decide | omega) (by first | decide | omega) (by decide)
              have q1065 : h1 76 3 = h 76 3 := by rw [← e3]; exact x_up_k (by decide)
              have b1066 := jB (e := 3) 0 j381 rg_78_3_0_1 (by first | decide | omega) (by first | decide | omega)
              have b1067 := jB (e := 4) 0 j365 rg_78_4_0_1 (by first | decide | omega) (by first | decide | omega)
              have q1068 : h1 76 4 = h 76 4 := by rw [← e3]; exact x_up_k (by decide)
              have b1069 := jB (e := 4) 0 hJ rg_76_4_0_1 (by first | decide | omega) (by first | decide | omega)
              have q1070 : h363 76 4 = h1 76 4 := jK 0 f364 rg_76_4_0_1 (by first | decide | omega) (by first | decide | omega) (by decide)
              have q1071 : h1 76 4 = h 76 4 := by rw [← e3]; exact x_up_k (by decide)
              have z1072 := m367 4 (by first | decide | omega)
              have q1073 : h1011 76 4 = h401 76 4 := by rw [← e1013]; exact x_up_k (by decide)
              have q1074 : h401 76 4 = h380 76 4 := by rw [← e403]; exact x_up_k (by decide)
              have q1075 : h380 76 4 = h363 76 4 := jK 0 f382 rg_76_4_0_1 (by first | decide | omega) (by first | decide | omega) (by decide)
              have q1076 : h363 76 4 = h1 76 4 := jK 0 f364 rg_76_4_0_1 (by first | decide | omega) (by first | decide | omega) (by decide)
              have q1077 : h1 76 4 = h 76 4 := by rw [← e3]; exact x_up_k (by decide)
              have b1078 := jB (e := 4) 0 j381 rg_78_4_0_1 (by first | decide | omega) (by first | decide | omega)
              have b1079 := jB (e := 5) 0 j365 rg_78_5_0_1 (by first | decide | omega) (by first | decide | omega)
              have q1080 : h1 76 5 = h 76 5 := by rw [← e3]; exact x_up_k (by decide)
              have b1081 := jB (e := 5) 0 hJ rg_76_5_0_1 (by first | decide | omega) (by first | decide | omega)
              have q1082 : h363 76 5 = h1 76 5 := jK 0 f364 rg_76_5_0_1 (by first | decide | omega) (by first | decide | omega) (by decide)
              have q1083 : h1 76 5 = h 76 5 := by rw [← e3]; exact x_up_k (by decide)
              have z1084 := m367 5 (by first | decide | omega)
              have q1085 : h1011 76 5 = h401 76 5 := by rw [← e1013]; exact x_up_k (by decide)
              have q1086 : h401 76 5 = h380 76 5 := by rw [← e403]; exact x_up_k (by decide)
              have q1087 : h380 76 5 = h363 76 5 := jK 0 f382 rg_76_5_0_1 (by first | decide | omega) (by first | decide | omega) (by decide)
              have q1088 : h363 76 5 = h1 76 5 := jK 0 f364 rg_76_5_0_1 (by first | decide | omega) (by first | decide | omega) (by decide)
              have q1089 : h1 76 5 = h 76 5 := by rw [← e3]; exact x_up_k (by decide)
              have b1090 := jB (e := 5) 0 j381 rg_78_5_0_1 (by first | decide | omega) (by first | decide | omega)
              have q1091 : h1 76 14 = h 76 14 := by rw [← e3]; exact x_up_k (by decide)
              have q1092 : h363 76 14 = h1 76 14 := jK 0 f364 rg_76_14_0_1 (by first | decide | omega) (by first | decide | omega) (by decide)
              have q1093 : h1 76 14 = h 76 14 := by rw [← e3]; exact x_up_k (by decide)
              have z1094 := m367 14 (by first | decide | omega)
              have q1095 : h1011 76 14 = h401 76 14 := by rw [← e1013]; exact x_up_k (by decide)
              have q1096 : h401 76 14 = h380 76 14 := by rw [← e403]; exact x_up_k (by decide)
              have q1097 : h380 76 14 = h363 76 14 := jK 0 f382 rg_76_14_0_1 (by first | decide | omega) (by first | decide | omega) (by decide)
              have q1098 : h363 76 14 = h1 76 14 := jK 0 f364 rg_76_14_0_1 (by first | decide | omega) (by first | decide | omega) (by decide)
              have q1099 : h1 76 14 = h 76 14 := by rw [← e3]; exact x_up_k (by decide)
              have q1100 : h380 78 14 = h363 78 14 := jK 0 f382 rg_78_14_0_1 (by first | decide | omega) (by first | decide | omega) (by decide)
              have q1101 : h1 76 15 = h 76 15 := by rw [← e3]; exact x_up_k (by decide)
              have q1102 : h363 76 15 = h1 76 15 := jK 0 f364 rg_76_15_0_1 (by first | decide | omega) (by first | decide | omega) (by decide)
              have q1103 : h1 76 15 = h 76 15 := by rw [← e3]; exact x_up_k (by decide)
              have z1104 := m367 15 (by first | decide | omega)
              have q1105 : h1011 76 15 = h401 76 15 := by rw [← e1013]; exact x_up_k (by decide)
              have q1106 : h401 76 15 = h380 76 15 := by rw [← e403]; exact x_up_k (by decide)
              have q1107 : h380 76 15 = h363 76 15 := jK 0 f382 rg_76_15_0_1 (by first | decide | omega) (by first | decide | omega) (by decide)
              have q1108 : h363 76 15 = h1 76 15 := jK 0 f364 rg_76_15_0_1 (by first | decide | omega) (by first | decide | omega) (by decide)
              have q1109 : h1 76 15 = h 76 15 := by rw [← e3]; exact x_up_k (by decide)
              have q1110 : h380 78 15 = h363 78 15 := jK 0 f382 rg_78_15_0_1 (by first | decide | omega) (by first | decide | omega) (by decide)
              have q1111 : h1 76 16 = h 76 16 := by rw [← e3]; exact x_up_k (by decide)
              have q1112 : h363 76 16 = h1 76 16 := jK 0 f364 rg_76_16_0_1 (by first | decide | omega) (by first | decide | omega) (by decide)
              have q1113 : h1 76 16 = h 76 16 := by rw [← e3]; exact x_up_k (by decide)
              have z1114 := m367 16 (by first | decide | omega)
              have q1115 : h1011 76 16 = h401 76 16 := by rw [← e1013]; exact x_up_k (by decide)
              have q1116 : h401 76 16 = h380 76 16 := by rw [← e403]; exact x_up_k (by decide)
              have q1117 : h380 76 16 = h363 76 16 := jK 0 f382 rg_76_16_0_1 (by first | decide | omega) (by first | decide | omega) (by decide)
              have q1118 : h363 76 16 = h1 76 16 := jK 0 f364 rg_76_16_0_1 (by first | decide | omega) (by first | decide | omega) (by decide)
              have q1119 : h1 76 16 = h 76 16 := by rw [← e3]; exact x_up_k (by decide)
              have q1120 : h380 78 16 = h363 78 16 := jK 0 f382 rg_78_16_0_1 (by first | decide | omega) (by first | decide | omega) (by decide)
              have q1121 : h1 76 17 = h 76 17 := by rw [← e3]; exact x_up_k (by decide)
              have q1122 : h363 76 17 = h1 76 17 := jK 0 f364 rg_76_17_0_1 (by first | decide | omega) (by first | decide | omega) (by decide)
              have q1123 : h1 76 17 = h 76 17 := by rw [← e3]; exact x_up_k (by decide)
              have z1124 := m367 17 (by first | decide | omega)
              have q1125 : h1011 76 17 = h401 76 17 := by rw [← e1013]; exact x_up_k (by decide)
              have q1126 : h401 76 17 = h380 76 17 := by rw [← e403]; exact x_up_k (by decide)
              have q1127 : h380 76 17 = h363 76 17 := jK 0 f382 rg_76_17_0_1 (by first | decide | omega) (by first | decide | omega) (by decide)
              have q1128 : h363 76 17 = h1 76 17 := jK 0 f364 rg_76_17_0_1 (by first | decide | omega) (by first | decide | omega) (by decide)
              have q1129 : h1 76 17 = h 76 17 := by rw [← e3]; exact x_up_k (by decide)
              have q1130 : h380 78 17 = h363 78 17 := jK 0 f382 rg_78_17_0_1 (by first | decide | omega) (by first | decide | omega) (by decide)
              have q1131 : h1 76 18 = h 76 18 := by rw [← e3]; exact x_up_k (by decide)
              have q1132 : h363 76 18 = h1 76 18 := jK 0 f364 rg_76_18_0_1 (by first | decide | omega) (by first | decide | omega) (by decide)
              have q1133 : h1 76 18 = h 76 18 := by rw [← e3]; exact x_up_k (by decide)
              have z1134 := m367 18 (by first | decide | omega)
              have q1135 : h1011 76 18 = h401 76 18 := by rw [← e1013]; exact x_up_k (by decide)
              have q1136 : h401 76 18 = h380 76 18 := by rw [← e403]; exact x_up_k (by decide)
              have q1137 : h380 76 18 = h363 76 18 := jK 0 f382 rg_76_18_0_1 (by first | decide | omega) (by first | decide | omega) (by decide)
              have q1138 : h363 76 18 = h1 76 18 := jK 0 f364 rg_76_18_0_1 (by first | decide | omega) (by first | decide | omega) (by decide)
              have q1139 : h1 76 18 = h 76 18 := by rw [← e3]; exact x_up_k (by decide)
              have q1140 : h380 78 18 = h363 78 18 := jK 0 f382 rg_78_18_0_1 (by first | decide | omega) (by first | decide | omega) (by decide)
              have q1141 : h1 76 19 = h 76 19 := by rw [← e3]; exact x_up_k (by decide)
              have q1142 : h363 76 19 = h1 76 19 := jK 0 f364 rg_76_19_0_1 (by first | decide | omega) (by first | decide | omega) (by decide)
              have q1143 : h1 76 19 = h 76 19 := by rw [← e3]; exact x_up_k (by decide)
              have z1144 := m367 19 (by first | decide | omega)
              have q1145 : h1011 76 19 = h401 76 19 := by rw [← e1013]; exact x_up_k (by decide)
              have q1146 : h401 76 19 = h380 76 19 := by rw [← e403]; exact x_up_k (by decide)
              have q1147 : h380 76 19 = h363 76 19 := jK 0 f382 rg_76_19_0_1 (by first | decide | omega) (by first | decide | omega) (by decide)
              have q1148 : h363 76 19 = h1 76 19 := jK 0 f364 rg_76_19_0_1 (by first | decide | omega) (by first | decide | omega) (by decide)
              have q1149 : h1 76 19 = h 76 19 := by rw [← e3]; exact x_up_k (by decide)
              have q1150 : h380 78 19 = h363 78 19 := jK 0 f382 rg_78_19_0_1 (by first | decide | omega) (by first | decide | omega) (by decide)
              have q1151 : h1011 75 0 = 2147483650 := by rw [← e1013]; exact x_up_at
              have c1152 := Tt.cast (pe' := h 76 0) (l1 := h 76 2) (t1 := h 76 3) (d1 := h 76 4) (s1 := h 76 5) c388 (by first | decide | omega) (by first | decide | omega) (by first | decide | omega) (by first | decide | omega) (by first | decide | omega)
              have m1153 : ∀ u, u < 10 → ww h1011 u = ww h u := fun u hu => (Eq.trans (show ww h1011 u = ww h401 u by rw [← e1013]; exact ww_k (by decide)) (Eq.trans (show ww h401 u = ww h380 u by rw [← e403]; exact ww_k (by decide)) (Eq.trans (ww_gr f382 (by decide) u hu) (Eq.trans (ww_gr f364 (by decide) u hu) (show ww h1 u = ww h u by rw [← e3]; exact ww_k (by decide))))))
              have m1154 : ∀ u, u < 6 → xw h1011 u = xw h u := fun u hu => (Eq.trans (show xw h1011 u = xw h401 u by rw [← e1013]; exact xw_k (by decide)) (Eq.trans (show xw h401 u = xw h380 u by rw [← e403]; exact xw_k (by decide)) (Eq.trans (xw_gr f382 (by decide) u hu) (Eq.trans (xw_gr f364 (by decide) u hu) (show xw h1 u = xw h u by rw [← e3]; exact xw_k (by decide))))))
              have m1155 : ∀ u, u < 10 → aw h1011 u = aw h u := fun u hu => (Eq.trans (show aw h1011 u = aw h401 u by rw [← e1013]; exact aw_k (by decide)) (Eq.trans (show aw h401 u = aw h380 u by rw [← e403]; exact aw_k (by decide)) (Eq.trans (aw_gr f382 (by decide) u hu) (Eq.trans (aw_gr f364 (by decide) u hu) (show aw h1 u = aw h u by rw [← e3]; exact aw_k (by decide))))))
              have m1156 : ∀ u, u < 10 → bw h1011 u = bw h u := fun u hu => (Eq.trans (show bw h1011 u = bw h401 u by rw [← e1013]; exact bw_k (by decide)) (Eq.trans (show bw h401 u = bw h380 u by rw [← e403]; exact bw_k (by decide)) (Eq.trans (bw_gr f382 (by decide) u hu) (Eq.trans (bw_gr f364 (by decide) u hu) (show bw h1 u = bw h u by rw [← e3]; exact bw_k (by decide))))))
              refine x_retI (np := 97) (x := 0) (by decide +kernel) (by decide) (Or.inl (by decide +kernel)) ⟨_, rfl, (by decide), ?_⟩
              exact ⟨j1012, f1014, (by first | decide | omega), (by first | decide | omega), m1019, (Or.inr (Or.inr ⟨by first | decide | omega, ⟨_, Tt.somer c1152 (by first | decide | omega) rfl rfl rfl rfl⟩, by first | decide | omega, (six6 (by first | decide | omega) (by first | decide | omega) (by first | decide | omega) (by first | decide | omega) (by first | decide | omega) (by first | decide | omega)), (sixp (by first | decide | omega) (by first | decide | omega) (by first | decide | omega) (by first | decide | omega) (by first | decide | omega) (by first | decide | omega)), m1153, m1154, (ab2 m1155 m1156)⟩))⟩
            have q408 : ¬ (2147483648 = 2147483648) := q408
            exfalso; omega
          have q406 : ¬ (2147483648 ≤ v374) := q406
          exfalso; omega
        have q397 : ¬ (2147483648 ≤ v374) := q397
        refine x_aload (np := 44) (x := 0) (by decide +kernel) rfl (x_nc_le (by decide)) ?_
        have b1157 := jB (e := 9) 0 j381 rg_75_9_0_1 (by first | decide | omega) (by first | decide | omega)
        refine x_getC (np := 47) (x := 713) (f := 9) (q := (h380 75 9)) (by decide +kernel) (by decide) (by decide +kernel) rfl (fun l1158 => ?_)
        refine x_goto (np := 50) (x := 51) (by decide +kernel) ?_
        refine x_putI (np := 54) (x := 715) (f := 11) (by decide +kernel) (by decide +kernel) l1158 (Or.inl (by decide)) ?_
        have j1160 := jU (e := 11) (v := (h380 75 9)) 0 j381 rg_75_11_0_1 (by first | decide | omega) (by first | decide | omega) (by first | decide | omega)
        have f1162 := jF (e := 11) (v := (h380 75 9)) 0 f392 rg_75_11_0_1 (by first | decide | omega) (by first | decide | omega) (by decide)
        generalize e1161 : x_up h380 75 11 (h380 75 9) = h1159 at j1160 f1162 ⊢
        refine x_aload (np := 55) (x := 0) (by decide +kernel) rfl (x_nc_le (by decide)) ?_
        refine x_iload (np := 56) (x := 1) (by decide +kernel) rfl l375 ?_
        refine x_ifz (k := 3) (tg := 63) (np := 59) (by decide +kernel) (by decide) l375 (fun q1163 => ?_) (fun q1164 => ?_)
        · have q1163 : 2147483648 ≤ v374 := q1163
          exfalso; omega
        have q1164 : ¬ (2147483648 ≤ v374) := q1164
        refine x_const (np := 60) (x := 9223372043297226753) (a := 2147483649) (by decide +kernel) (by decide) (by decide) ?_
        refine x_goto (np := 63) (x := 64) (by decide +kernel) ?_
        refine x_const (np := 65) (x := 9223372043297226753) (a := 2147483649) (by decide +kernel) (by decide) (by decide) ?_
        refine x_nI (t := 6) (mj := 152) (n := 3) (rc := 12) (ml := 3) (nr := 0) (np := 68) (as := [x_r 75, iv_c 2147483649, iv_c 2147483649]) (rest := []) (lo1 := [x_r 75, iv_c 2147483649, iv_c 2147483649]) (by decide +kernel) (by decide) (by decide +kernel) (x_rb_of (by decide +kernel)) rfl rfl (x_wr (by decide) (x_wi (by decide) (x_wi (by decide) x_wn))) x_wn (by decide) rfl ?_
        refine x_iload (np := 1) (x := 1) (by decide +kernel) rfl (by decide) ?_
        refine x_ifz (k := 0) (tg := 9) (np := 4) (by decide +kernel) (by decide) (by decide) (fun q1165 => ?_) (fun q1166 => ?_)
        · have q1165 : 2147483649 = 2147483648 := q1165
          exfalso; omega
        have q1166 : ¬ (2147483649 = 2147483648) := q1166
        refine x_aload (np := 5) (x := 0) (by decide +kernel) rfl (x_nc_le (by decide)) ?_
        refine x_iload (np := 6) (x := 2) (by decide +kernel) rfl (by decide) ?_
        refine x_putI (np := 9) (x := 704) (f := 0) (by decide +kernel) (by decide +kernel) (by decide) (Or.inl (by decide)) ?_
        have j1168 := jU (e := 0) (v := 2147483649) 0 j1160 rg_75_0_0_1 (by first | decide | omega) (by first | decide | omega) (by first | decide | omega)
        have f1170 := jF (e := 0) (v := 2147483649) 0 f1162 rg_75_0_0_1 (by first | decide | omega) (by first | decide | omega) (by decide)
        generalize e1169 : x_up h1159 75 0 2147483649 = h1167 at j1168 f1170 ⊢
        refine x_iload (np := 10) (x := 1) (by decide +kernel) rfl (by decide) ?_
        refine x_retI (np := 11) (x := 0) (by decide +kernel) (by decide) (Or.inr ⟨by decide +kernel, by first | decide | omega, by first | decide | omega⟩) ⟨_, rfl, (by decide), ?_⟩
        refine x_ifz (k := 1) (tg := 95) (np := 71) (by decide +kernel) (by decide) (by decide) (fun q1171 => ?_) (fun q1172 => ?_)
        · have q1171 : 2147483649 ≠ 2147483648 := q1171
          refine x_const (np := 96) (x := 9223372039002259456) (a := 2147483648) (by decide +kernel) (by decide) (by decide) ?_
          have q1173 : h1167 75 6 = h1159 75 6 := by rw [← e1169]; exact x_up_i (by first | decide | omega)
          have q1174 : h1159 75 6 = h380 75 6 := by rw [← e1161]; exact x_up_i (by first | decide | omega)
          have m1179 : WT 76 h1 := by rw [← e3]; exact WT.oth hW hJ (by decide)
          have m1178 := WT.fr m1179 j2 f364 (by decide)
          have m1177 := WT.fr m1178 j365 f382 (by decide)
          have m1176 : WT 76 h1159 := by rw [← e1161]; exact WT.oth m1177 j381 (by decide)
          have m1175 : WT 76 h1167 := by rw [← e1169]; exact WT.oth m1176 j1160 (by decide)
          have q1180 : h1 76 0 = h 76 0 := by rw [← e3]; exact x_up_k (by decide)
          have b1181 := jB (e := 0) 0 hJ rg_76_0_0_1 (by first | decide | omega) (by first | decide | omega)
          have q1182 : h363 76 0 = h1 76 0 := jK 0 f364 rg_76_0_0_1 (by first | decide | omega) (by first | decide | omega) (by decide)
          have q1183 : h1 76 0 = h 76 0 := by rw [← e3]; exact x_up_k (by decide)
          have z1184 := m367 0 (by first | decide | omega)
          have q1185 : h1167 76 0 = h1159 76 0 := by rw [← e1169]; exact x_up_k (by decide)
          have q1186 : h1159 76 0 = h380 76 0 := by rw [← e1161]; exact x_up_k (by decide)
          have q1187 : h380 76 0 = h363 76 0 := jK 0 f382 rg_76_0_0_1 (by first | decide | omega) (by first | decide | omega) (by decide)
          have q1188 : h363 76 0 = h1 76 0 := jK 0 f364 rg_76_0_0_1 (by first | decide | omega) (by first | decide | omega) (by decide)
          have q1189 : h1 76 0 = h 76 0 := by rw [← e3]; exact x_up_k (by decide)
          have q1190 : h1 76 1 = h 76 1 := by rw [← e3]; exact x_up_k (by decide)
          have q1191 : h363 76 1 = h1 76 1 := jK 0 f364 rg_76_1_0_1 (by first | decide | omega) (by first | decide | omega) (by decide)
          have q1192 : h1 76 1 = h 76 1 := by rw [← e3]; exact x_up_k (by decide)
          have z1193 := m367 1 (by first | decide | omega)
          have q1194 : h1167 76 1 = h1159 76 1 := by rw [← e1169]; exact x_up_k (by decide)
          have q1195 : h1159 76 1 = h380 76 1 := by rw [← e1161]; exact x_up_k (by decide)
          have q1196 : h380 76 1 = h363 76 1 := jK 0 f382 rg_76_1_0_1 (by first | decide | omega) (by first | decide | omega) (by decide)
          have q1197 : h363 76 1 = h1 76 1 := jK 0 f364 rg_76_1_0_1 (by first | decide | omega) (by first | decide | omega) (by decide)
          have q1198 : h1 76 1 = h 76 1 := by rw [← e3]; exact x_up_k (by decide)
          have b1199 := jB (e := 2) 0 j365 rg_78_2_0_1 (by first | decide | omega) (by first | decide | omega)
          have q1200 : h1 76 2 = h 76 2 := by rw [← e3]; exact x_up_k (by decide)
          have b1201 := jB (e := 2) 0 hJ rg_76_2_0_1 (by first | decide | omega) (by first | decide | omega)
          have q1202 : h363 76 2 = h1 76 2 := jK 0 f364 rg_76_2_0_1 (by first | decide | omega) (by first | decide | omega) (by decide)
          have q1203 : h1 76 2 = h 76 2 := by rw [← e3]; exact x_up_k (by decide)
          have z1204 := m367 2 (by first | decide | omega)
          have q1205 : h1167 76 2 = h1159 76 2 := by rw [← e1169]; exact x_up_k (by decide)
          have q1206 : h1159 76 2 = h380 76 2 := by rw [← e1161]; exact x_up_k (by decide)
          have q1207 : h380 76 2 = h363 76 2 := jK 0 f382 rg_76_2_0_1 (by first | decide | omega) (by first | decide | omega) (by decide)
          have q1208 : h363 76 2 = h1 76 2 := jK 0 f364 rg_76_2_0_1 (by first | decide | omega) (by first | decide | omega) (by decide)
          have q1209 : h1 76 2 = h 76 2 := by rw [← e3]; exact x_up_k (by decide)
          have b1210 := jB (e := 2) 0 j381 rg_78_2_0_1 (by first | decide | omega) (by first | decide | omega)
          have b1211 := jB (e := 3) 0 j365 rg_78_3_0_1 (by first | decide | omega) (by first | decide | omega)
          have q1212 : h1 76 3 = h 76 3 := by rw [← e3]; exact x_up_k (by decide)
          have b1213 := jB (e := 3) 0 hJ rg_76_3_0_1 (by first | decide | omega) (by first | decide | omega)
          have q1214 : h363 76 3 = h1 76 3 := jK 0 f364 rg_76_3_0_1 (by first | decide | omega) (by first | decide | omega) (by decide)
          have q1215 : h1 76 3 = h 76 3 := by rw [← e3]; exact x_up_k (by decide)
          have z1216 := m367 3 (by first | decide | omega)
          have q1217 : h1167 76 3 = h1159 76 3 := by rw [← e1169]; exact x_up_k (by decide)
          have q1218 : h1159 76 3 = h380 76 3 := by rw [← e1161]; exact x_up_k (by decide)
          have q1219 : h380 76 3 = h363 76 3 := jK 0 f382 rg_76_3_0_1 (by first | decide | omega) (by first | decide | omega) (by decide)
          have q1220 : h363 76 3 = h1 76 3 := jK 0 f364 rg_76_3_0_1 (by first | decide | omega) (by first | decide | omega) (by decide)
          have q1221 : h1 76 3 = h 76 3 := by rw [← e3]; exact x_up_k (by decide)
          have b1222 := jB (e := 3) 0 j381 rg_78_3_0_1 (by first | decide | omega) (by first | decide | omega)
          have b1223 := jB (e := 4) 0 j365 rg_78_4_0_1 (by first | decide | omega) (by first | decide | omega)
          have q1224 : h1 76 4 = h 76 4 := by rw [← e3]; exact x_up_k (by decide)
          have b1225 := jB (e := 4) 0 hJ rg_76_4_0_1 (by first | decide | omega) (by first | decide | omega)
          have q1226 : h363 76 4 = h1 76 4 := jK 0 f364 rg_76_4_0_1 (by first | decide | omega) (by first | decide | omega) (by decide)
          have q1227 : h1 76 4 = h 76 4 := by rw [← e3]; exact x_up_k (by decide)
          have z1228 := m367 4 (by first | decide | omega)
          have q1229 : h1167 76 4 = h1159 76 4 := by rw [← e1169]; exact x_up_k (by decide)
          have q1230 : h1159 76 4 = h380 76 4 := by rw [← e1161]; exact x_up_k (by decide)
          have q1231 : h380 76 4 = h363 76 4 := jK 0 f382 rg_76_4_0_1 (by first | decide | omega) (by first | decide | omega) (by decide)
          have q1232 : h363 76 4 = h1 76 4 := jK 0 f364 rg_76_4_0_1 (by first | decide | omega) (by first | decide | omega) (by decide)
          have q1233 : h1 76 4 = h 76 4 := by rw [← e3]; exact x_up_k (by decide)
          have b1234 := jB (e := 4) 0 j381 rg_78_4_0_1 (by first | decide | omega) (by first | decide | omega)
          have b1235 := jB (e := 5) 0 j365 rg_78_5_0_1 (by first | decide | omega) (by first | decide | omega)
          have q1236 : h1 76 5 = h 76 5 := by rw [← e3]; exact x_up_k (by decide)
          have b1237 := jB (e := 5) 0 hJ rg_76_5_0_1 (by first | decide | omega) (by first | decide | omega)
          have q1238 : h363 76 5 = h1 76 5 := jK 0 f364 rg_76_5_0_1 (by first | decide | omega) (by first | decide | omega) (by decide)
          have q1239 : h1 76 5 = h 76 5 := by rw [← e3]; exact x_up_k (by decide)
          have z1240 := m367 5 (by first | decide | omega)
          have q1241 : h1167 76 5 = h1159 76 5 := by rw [← e1169]; exact x_up_k (by decide)
          have q1242 : h1159 76 5 = h380 76 5 := by rw [← e1161]; exact x_up_k (by decide)
          have q1243 : h380 76 5 = h363 76 5 := jK 0 f382 rg_76_5_0_1 (by first | decide | omega) (by first | decide | omega) (by decide)
          have q1244 : h363 76 5 = h1 76 5 := jK 0 f364 rg_76_5_0_1 (by first | decide | omega) (by first | decide | omega) (by decide)
          have q1245 : h1 76 5 = h 76 5 := by rw [← e3]; exact x_up_k (by decide)
          have b1246 := jB (e := 5) 0 j381 rg_78_5_0_1 (by first | decide | omega) (by first | decide | omega)
          have q1247 : h1 76 14 = h 76 14 := by rw [← e3]; exact x_up_k (by decide)
          have q1248 : h363 76 14 = h1 76 14 := jK 0 f364 rg_76_14_0_1 (by first | decide | omega) (by first | decide | omega) (by decide)
          have q1249 : h1 76 14 = h 76 14 := by rw [← e3]; exact x_up_k (by decide)
          have z1250 := m367 14 (by first | decide | omega)
          have q1251 : h1167 76 14 = h1159 76 14 := by rw [← e1169]; exact x_up_k (by decide)
          have q1252 : h1159 76 14 = h380 76 14 := by rw [← e1161]; exact x_up_k (by decide)
          have q1253 : h380 76 14 = h363 76 14 := jK 0 f382 rg_76_14_0_1 (by first | decide | omega) (by first | decide | omega) (by decide)
          have q1254 : h363 76 14 = h1 76 14 := jK 0 f364 rg_76_14_0_1 (by first | decide | omega) (by first | decide | omega) (by decide)
          have q1255 : h1 76 14 = h 76 14 := by rw [← e3]; exact x_up_k (by decide)
          have q1256 : h380 78 14 = h363 78 14 := jK 0 f382 rg_78_14_0_1 (by first | decide | omega) (by first | decide | omega) (by decide)
          have q1257 : h1 76 15 = h 76 15 := by rw [← e3]; exact x_up_k (by decide)
          have q1258 : h363 76 15 = h1 76 15 := jK 0 f364 rg_76_15_0_1 (by first | decide | omega) (by first | decide | omega) (by decide)
          have q1259 : h1 76 15 = h 76 15 := by rw [← e3]; exact x_up_k (by decide)
          have z1260 := m367 15 (by first | decide | omega)
          have q1261 : h1167 76 15 = h1159 76 15 := by rw [← e1169]; exact x_up_k (by decide)
          have q1262 : h1159 76 15 = h380 76 15 := by rw [← e1161]; exact x_up_k (by decide)
          have q1263 : h380 76 15 = h363 76 15 := jK 0 f382 rg_76_15_0_1 (by first | decide | omega) (by first | decide | omega) (by decide)
          have q1264 : h363 76 15 = h1 76 15 := jK 0 f364 rg_76_15_0_1 (by first | decide | omega) (by first | decide | omega) (by decide)
          have q1265 : h1 76 15 = h 76 15 := by rw [← e3]; exact x_up_k (by decide)
          have q1266 : h380 78 15 = h363 78 15 := jK 0 f382 rg_78_15_0_1 (by first | decide | omega) (by first | decide | omega) (by decide)
          have q1267 : h1 76 16 = h 76 16 := by rw [← e3]; exact x_up_k (by decide)
          have q1268 : h363 76 16 = h1 76 16 := jK 0 f364 rg_76_16_0_1 (by first | decide | omega) (by first | decide | omega) (by decide)
          have q1269 : h1 76 16 = h 76 16 := by rw [← e3]; exact x_up_k (by decide)
          have z1270 := m367 16 (by first | decide | omega)
          have q1271 : h1167 76 16 = h1159 76 16 := by rw [← e1169]; exact x_up_k (by decide)
          have q1272 : h1159 76 16 = h380 76 16 := by rw [← e1161]; exact x_up_k (by decide)
          have q1273 : h380 76 16 = h363 76 16 := jK 0 f382 rg_76_16_0_1 (by first | decide | omega) (by first | decide | omega) (by decide)
          have q1274 : h363 76 16 = h1 76 16 := jK 0 f364 rg_76_16_0_1 (by first | decide | omega) (by first | decide | omega) (by decide)
          have q1275 : h1 76 16 = h 76 16 := by rw [← e3]; exact x_up_k (by decide)
          have q1276 : h380 78 16 = h363 78 16 := jK 0 f382 rg_78_16_0_1 (by first | decide | omega) (by first | decide | omega) (by decide)
          have q1277 : h1 76 17 = h 76 17 := by rw [← e3]; exact x_up_k (by decide)
          have q1278 : h363 76 17 = h1 76 17 := jK 0 f364 rg_76_17_0_1 (by first | decide | omega) (by first | decide | omega) (by decide)
          have q1279 : h1 76 17 = h 76 17 := by rw [← e3]; exact x_up_k (by decide)
          have z1280 := m367 17 (by first | decide | omega)
          have q1281 : h1167 76 17 = h1159 76 17 := by rw [← e1169]; exact x_up_k (by decide)
          have q1282 : h1159 76 17 = h380 76 17 := by rw [← e1161]; exact x_up_k (by decide)
          have q1283 : h380 76 17 = h363 76 17 := jK 0 f382 rg_76_17_0_1 (by first | decide | omega) (by first | decide | omega) (by decide)
          have q1284 : h363 76 17 = h1 76 17 := jK 0 f364 rg_76_17_0_1 (by first | decide | omega) (by first | decide | omega) (by decide)
          have q1285 : h1 76 17 = h 76 17 := by rw [← e3]; exact x_up_k (by decide)
          have q1286 : h380 78 17 = h363 78 17 := jK 0 f382 rg_78_17_0_1 (by first | decide | omega) (by first | decide | omega) (by decide)
          have q1287 : h1 76 18 = h 76 18 := by rw [← e3]; exact x_up_k (by decide)
          have q1288 : h363 76 18 = h1 76 18 := jK 0 f364 rg_76_18_0_1 (by first | decide | omega) (by first | decide | omega) (by decide)
          have q1289 : h1 76 18 = h 76 18 := by rw [← e3]; exact x_up_k (by decide)
          have z1290 := m367 18 (by first | decide | omega)
          have q1291 : h1167 76 18 = h1159 76 18 := by rw [← e1169]; exact x_up_k (by decide)
          have q1292 : h1159 76 18 = h380 76 18 := by rw [← e1161]; exact x_up_k (by decide)
          have q1293 : h380 76 18 = h363 76 18 := jK 0 f382 rg_76_18_0_1 (by first | decide | omega) (by first | decide | omega) (by decide)
          have q1294 : h363 76 18 = h1 76 18 := jK 0 f364 rg_76_18_0_1 (by first | decide | omega) (by first | decide | omega) (by decide)
          have q1295 : h1 76 18 = h 76 18 := by rw [← e3]; exact x_up_k (by decide)
          have q1296 : h380 78 18 = h363 78 18 := jK 0 f382 rg_78_18_0_1 (by first | decide | omega) (by first | decide | omega) (by decide)
          have q1297 : h1 76 19 = h 76 19 := by rw [← e3]; exact x_up_k (by decide)
          have q1298 : h363 76 19 = h1 76 19 := jK 0 f364 rg_76_19_0_1 (by first | decide | omega) (by first | decide | omega) (by decide)
          have q1299 : h1 76 19 = h 76 19 := by rw [← e3]; exact x_up_k (by decide)
          have z1300 := m367 19 (by first | decide | omega)
          have q1301 : h1167 76 19 = h1159 76 19 := by rw [← e1169]; exact x_up_k (by decide)
          have q1302 : h1159 76 19 = h380 76 19 := by rw [← e1161]; exact x_up_k (by decide)
          have q1303 : h380 76 19 = h363 76 19 := jK 0 f382 rg_76_19_0_1 (by first | decide | omega) (by first | decide | omega) (by decide)
          have q1304 : h363 76 19 = h1 76 19 := jK 0 f364 rg_76_19_0_1 (by first | decide | omega) (by first | decide | omega) (by decide)
          have q1305 : h1 76 19 = h 76 19 := by rw [← e3]; exact x_up_k (by decide)
          have q1306 : h380 78 19 = h363 78 19 := jK 0 f382 rg_78_19_0_1 (by first | decide | omega) (by first | decide | omega) (by decide)
          have q1307 : h1167 75 0 = 2147483649 := by rw [← e1169]; exact x_up_at
          have c1308 := Tt.cast (pe' := h 76 0) (l1 := h 76 2) (t1 := h 76 3) (d1 := h 76 4) (s1 := h 76 5) c388 (by first | decide | omega) (by first | decide | omega) (by first | decide | omega) (by first | decide | omega) (by first | decide | omega)
          have m1309 : ∀ u, u < 10 → ww h1167 u = ww h u := fun u hu => (Eq.trans (show ww h1167 u = ww h1159 u by rw [← e1169]; exact ww_k (by decide)) (Eq.trans (show ww h1159 u = ww h380 u by rw [← e1161]; exact ww_k (by decide)) (Eq.trans (ww_gr f382 (by decide) u hu) (Eq.trans (ww_gr f364 (by decide) u hu) (show ww h1 u = ww h u by rw [← e3]; exact ww_k (by decide))))))
          have m1310 : ∀ u, u < 6 → xw h1167 u = xw h u := fun u hu => (Eq.trans (show xw h1167 u = xw h1159 u by rw [← e1169]; exact xw_k (by decide)) (Eq.trans (show xw h1159 u = xw h380 u by rw [← e1161]; exact xw_k (by decide)) (Eq.trans (xw_gr f382 (by decide) u hu) (Eq.trans (xw_gr f364 (by decide) u hu) (show xw h1 u = xw h u by rw [← e3]; exact xw_k (by decide))))))
          have m1311 : ∀ u, u < 10 → aw h1167 u = aw h u := fun u hu => (Eq.trans (show aw h1167 u = aw h1159 u by rw [← e1169]; exact aw_k (by decide)) (Eq.trans (show aw h1159 u = aw h380 u by rw [← e1161]; exact aw_k (by decide)) (Eq.trans (aw_gr f382 (by decide) u hu) (Eq.trans (aw_gr f364 (by decide) u hu) (show aw h1 u = aw h u by rw [← e3]; exact aw_k (by decide))))))
          have m1312 : ∀ u, u < 10 → bw h1167 u = bw h u := fun u hu => (Eq.trans (show bw h1167 u = bw h1159 u by rw [← e1169]; exact bw_k (by decide)) (Eq.trans (show bw h1159 u = bw h380 u by rw [← e1161]; exact bw_k (by decide)) (Eq.trans (bw_gr f382 (by decide) u hu) (Eq.trans (bw_gr f364 (by decide) u hu) (show bw h1 u = bw h u by rw [← e3]; exact bw_k (by decide))))))
          refine x_retI (np := 97) (x := 0) (by decide +kernel) (by decide) (Or.inl (by decide +kernel)) ⟨_, rfl, (by decide), ?_⟩
          exact ⟨j1168, f1170, (by first | decide | omega), (by first | decide | omega), m1175, (Or.inr (Or.inl ⟨by first | decide | omega, Tt.noner c1308 (by first | decide | omega), (six6 (by first | decide | omega) (by first | decide | omega) (by first | decide | omega) (by first | decide | omega) (by first | decide | omega) (by first | decide | omega)), (sixp (by first | decide | omega) (by first | decide | omega) (by first | decide | omega) (by first | decide | omega) (by first | decide | omega) (by first | decide | omega)), m1309, m1310, (ab2 m1311 m1312)⟩))⟩
        have q1172 : ¬ (2147483649 ≠ 2147483648) := q1172
        exfalso; omega
      have q373 : ¬ (2147483938 ≤ v361) := q373
      refine x_aload (np := 15) (x := 0) (by decide +kernel) rfl (x_nc_le (by decide)) ?_
      have q1313 : h363 75 3 = 78 := by have z := jB (e := 3) 0 j365 rg_75_3_0_1 (by decide) (by decide); omega
      refine x_getR (np := 18) (x := 707) (f := 3) (q := 78) (by decide +kernel) (by decide) (by decide +kernel) q1313 ?_
      refine x_iload (np := 19) (x := 1) (by decide +kernel) rfl (by first | decide | omega) ?_
      refine x_aload (np := 20) (x := 0) (by decide +kernel) rfl (x_nc_le (by decide)) ?_
      have q1314 : h363 75 1 = 76 := by have z := jB (e := 1) 0 j365 rg_75_1_0_1 (by decide) (by decide); omega
      refine x_getR (np := 23) (x := 705) (f := 1) (q := 76) (by decide +kernel) (by decide) (by decide +kernel) q1314 ?_
      refine x_iload (np := 24) (x := 1) (by decide +kernel) rfl (by first | decide | omega) ?_
      obtain ⟨u1315, q1316⟩ : ∃ z, v361 = 2147483648 + z := ⟨v361 - 2147483648, by first | decide | omega⟩
      refine x_aldC (np := 25) (x := 0) (n := 1952) (i := u1315) (q := (h363 76 u1315)) (by decide +kernel) (by decide +kernel) (by first | decide | omega) (by first | decide | omega) (by decide) rfl (fun l1317 => ?_)
      refine x_ast (np := 26) (x := 0) (kd := 1) (n := 290) (i := u1315) (by decide +kernel) (Or.inl rfl) (by decide +kernel) (by first | decide | omega) (by first | decide | omega) (by decide) l1317 (fun z => absurd z (by decide)) ?_
      have j1319 := cwmJ (e := u1315) (v := (h363 76 u1315)) u1315 j365 j365 cm_78_0_76_0_290 (by first | decide | omega) (by first | decide | omega) (by first | rfl | (congr 1; omega))
      have f1321 := dUp (e := u1315) (v := (h363 76 u1315)) f371 (by first | decide | omega) (by decide)
      have f1322 := dUp (e := u1315) (v := (h363 76 u1315)) f364 (by first | decide | omega) (by decide)
      generalize e1320 : x_up h363 78 u1315 (h363 76 u1315) = h1318 at j1319 f1321 f1322 ⊢
      refine x_iinc (np := 29) (i := 1) (j := 2147483649) (v := (1 + v361)) (lo' := [x_r 75, iv_c (1 + v361), 147573952589676412928]) (by decide +kernel) (by decide) (by decide) rfl (by first | decide | omega) (by first | decide | omega) (by first | decide | omega) rfl ?_
      refine x_goto (np := 32) (x := 7) (by decide +kernel) ?_
      have m1323 : Clp ((1 + v361) - 2147483648) h1318 := by
        have e0 : v361 - 2147483648 = u1315 := by first | decide | omega
        have e9 : (1 + v361) = 2147483648 + (u1315 + 1) := by first | decide | omega
        have e1 : (1 + v361) - 2147483648 = u1315 + 1 := by rw [e9]; exact Nat.add_sub_cancel_left _ _
        have p9 := m368
        rw [e0] at p9
        rw [e1, ← e1320]
        exact Clp.step p9 j365 (by first | decide | omega)
      have m1324 : Cpa 78 76 h1 h1318 ((1 + v361) - 2147483648) := by
        have e0 : v361 - 2147483648 = u1315 := by first | decide | omega
        have e9 : (1 + v361) = 2147483648 + (u1315 + 1) := by first | decide | omega
        have e1 : (1 + v361) - 2147483648 = u1315 + 1 := by rw [e9]; exact Nat.add_sub_cancel_left _ _
        have p9 := m367
        rw [e0] at p9
        rw [e1, ← e1320]
        exact Cpa.step p9 (f364 76 u1315 (gr_76b (by first | decide | omega) (by decide) (by decide) (by decide) (by decide) (by decide) (by decide)))
      exact i370 (1 + v361) h1318 (by first | decide | omega) (by first | decide | omega) j1319 f1322 m1323 m1324
  exact p366 _ 2147483648 h1 (Nat.lt_succ_self _) (by first | decide | omega) j2 (Fr.refl _ _) Clp.zero Cpa.zero
