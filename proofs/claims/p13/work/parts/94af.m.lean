/-! ===== methods ===== -/
set_option maxHeartbeats 0 in
/-- LentNamesModel.readDebt()Z -/
theorem c184_75 {sc : Nat × Nat} {d  : Nat} {h : xh} {tB : Nat → Nat} {tN : Nat} (hJ : J h) (hC : Cl h) (hT : Tq tB tN h) : X sc 184 (d + 6) (xI fun r h' => J h' ∧ Fr 273678337 h h' ∧ (2147483648 ≤ r ∧ r ≤ 2147483649) ∧ (r = 2147483649 → h' 78 0 = h 78 0) ∧ (r = 2147483649 → h' 78 1 = h 78 1) ∧ (r = 2147483649 → h' 78 2 = h 78 2) ∧ (r = 2147483649 → h' 78 3 = h 78 3) ∧ (r = 2147483649 → h' 78 4 = h 78 4 + 1) ∧ (r = 2147483649 → h' 78 5 = h 78 5) ∧ (r = 2147483649 → Cl h') ∧ ((h 78 4 = 2147483658 ∧ r = 2147483648) ∨ (h 78 4 ≠ 2147483658 ∧ debt9 tB tN (h 76 0) (sk tB tN (h 75 7)) (rs r (sk tB tN (h' 75 7)))))) 0 0 0 [x_r 75, 147573952589676412928] [] h := by
  have hF := Fr.refl 273678337 h
  refine x_aload (np := 1) (x := 0) (by decide +kernel) rfl (x_nc_le (by decide)) ?_
  have q1 : h 75 3 = 78 := by have z := jB (e := 3) 0 hJ rg_75_3_0_1 (by decide) (by decide); omega
  refine x_getR (np := 4) (x := 707) (f := 3) (q := 78) (by decide +kernel) (by decide) (by decide +kernel) q1 ?_
  refine x_const (np := 5) (x := 9223372056182128644) (a := 2147483652) (by decide +kernel) (by decide) (by decide) ?_
  have b2 := jB (e := 4) 0 hJ rg_78_4_0_1 (by first | decide | omega) (by first | decide | omega)
  refine x_aldC (np := 6) (x := 0) (n := 290) (i := 4) (q := (h 78 4)) (by decide +kernel) (by decide +kernel) (by first | decide | omega) (by first | decide | omega) (by decide) rfl (fun l3 => ?_)
  refine x_const (np := 8) (x := 9223372081951932426) (a := 2147483658) (by decide +kernel) (by decide) (by decide) ?_
  refine x_icmp (k := 1) (tg := 13) (np := 11) (by decide +kernel) (by decide) l3 (by decide) (fun q4 => ?_) (fun q5 => ?_)
  · have q4 : (h 78 4) ≠ 2147483658 := q4
    refine x_const (np := 16) (x := 9223372897995718856) (a := 2147483848) (by decide +kernel) (by decide) (by decide) ?_
    refine x_const (np := 17) (x := 9223372060477095941) (a := 2147483653) (by decide +kernel) (by decide) (by decide) ?_
    refine x_aload (np := 18) (x := 0) (by decide +kernel) rfl (x_nc_le (by decide)) ?_
    have q6 : h 75 3 = 78 := by have z := jB (e := 3) 0 hJ rg_75_3_0_1 (by decide) (by decide); omega
    refine x_getR (np := 21) (x := 707) (f := 3) (q := 78) (by decide +kernel) (by decide) (by decide +kernel) q6 ?_
    refine x_const (np := 22) (x := 9223372056182128644) (a := 2147483652) (by decide +kernel) (by decide) (by decide) ?_
    refine x_aldC (np := 23) (x := 0) (n := 290) (i := 4) (q := (h 78 4)) (by decide +kernel) (by decide +kernel) (by first | decide | omega) (by first | decide | omega) (by decide) rfl (fun l7 => ?_)
    obtain ⟨u8, q9⟩ : ∃ z, (h 78 4) = 2147483648 + z := ⟨(h 78 4) - 2147483648, by first | decide | omega⟩
    refine x_imul (np := 24) (x := 0) (i := 5) (j := u8) (v := (2147483648 + 5 * u8)) (by decide +kernel) (by first | decide | omega) (by first | decide | omega) (by first | decide | omega) (by first | decide | omega) (by decide) l3 ?_
    refine x_iadd (np := 25) (x := 0) (v := (2147483848 + 5 * u8)) (by decide +kernel) (by decide) (by first | decide | omega) (by first | decide | omega) (by first | decide | omega) ?_
    refine x_istore (np := 26) (x := 1) (lo' := [x_r 75, iv_c (2147483848 + 5 * u8)]) (by decide +kernel) (by first | decide | omega) (Nat.le_of_ble_eq_true rfl) rfl ?_
    refine x_aload (np := 27) (x := 0) (by decide +kernel) rfl (x_nc_le (by decide)) ?_
    refine x_cV (t := 6) (mj := 169) (n := 1) (rc := 12) (ml := 1) (nr := 0) (np := 30) (as := [x_r 75]) (rest := []) (lo1 := [x_r 75]) (by decide +kernel) (by decide) (by decide +kernel) (x_rb_of (by decide +kernel)) rfl rfl (x_wr (by decide) x_wn) x_wn (by decide) rfl (c169_75 hJ  hT) (fun h14 q13 => ?_)
    obtain ⟨j15, f16, c19, c20, c21, c22⟩ := q13
    have f23 := Fr.trans hF f16 (by decide)
    have b24 := jB (e := 7) 0 hJ rg_75_7_0_1 (by first | decide | omega) (by first | decide | omega)
    have b25 := jB (e := 9) 0 j15 rg_75_9_0_1 (by first | decide | omega) (by first | decide | omega)
    have b26 := jB (e := 7) 0 j15 rg_75_7_0_1 (by first | decide | omega) (by first | decide | omega)
    refine x_aload (np := 31) (x := 0) (by decide +kernel) rfl (x_nc_le (by decide)) ?_
    have q27 : h14 75 3 = 78 := by have z := jB (e := 3) 0 j15 rg_75_3_0_1 (by decide) (by decide); omega
    refine x_getR (np := 34) (x := 707) (f := 3) (q := 78) (by decide +kernel) (by decide) (by decide +kernel) q27 ?_
    refine x_iload (np := 35) (x := 1) (by decide +kernel) rfl (by first | decide | omega) ?_
    refine x_aload (np := 36) (x := 0) (by decide +kernel) rfl (x_nc_le (by decide)) ?_
    refine x_ldcB (i := 10) (idx := 169) (tx := "name") (by rw [tb_y184]; exact List.mem_of_getElem? (i := 48) rfl) (by decide) (by rw [tb_b184]; decide +kernel) ?_
    have m31 := Tq.fr hT f16 (by decide) (by decide)
    refine x_cP (t := 6) (mj := 170) (n := 2) (rc := 12) (ml := 4) (nr := 2) (np := 41) (as := [x_r 75, x_b (10 + 1)]) (rest := [iv_c (2147483848 + 5 * u8), x_r 78]) (lo1 := [x_r 75, x_b (10 + 1), 147573952589676412928, 147573952589676412928]) (by decide +kernel) (by decide) (by decide +kernel) (x_rb_of (by decide +kernel)) rfl rfl (x_wr (by decide) (x_wB (by decide) x_wn)) (x_wi (by first | decide | omega) (x_wr (by decide) x_wn)) (by decide) rfl (c170_75_S0 j15  (by decide) m31) (fun v28 l29 q30 => ?_)
    obtain ⟨b34, c32, c33⟩ := q30
    have b35 : iv_tl 10 = 4 := by decide
    refine x_ifz (k := 0) (tg := 48) (np := 44) (by decide +kernel) (by decide) l29 (fun q36 => ?_) (fun q37 => ?_)
    · have q36 : v28 = 2147483648 := q36
      refine x_const (np := 49) (x := 9223372039002259456) (a := 2147483648) (by decide +kernel) (by decide) (by decide) ?_
      refine x_ast (np := 50) (x := 0) (kd := 1) (n := 290) (i := (200 + 5 * u8)) (by decide +kernel) (Or.inl rfl) (by decide +kernel) (by first | decide | omega) (by first | decide | omega) (by decide) (by decide) (fun z => absurd z (by decide)) ?_
      have j39 := jU (e := (200 + 5 * u8)) (v := 2147483648) u8 j15 rg_78_200_5_10 (by first | decide | omega) (by first | decide | omega) (by first | decide | omega)
      have f41 := jF (e := (200 + 5 * u8)) (v := 2147483648) u8 f23 rg_78_200_5_10 (by first | decide | omega) (by first | decide | omega) (by decide)
      generalize e40 : x_up h14 78 (200 + 5 * u8) 2147483648 = h38 at j39 f41 ⊢
      refine x_aload (np := 51) (x := 0) (by decide +kernel) rfl (x_nc_le (by decide)) ?_
      have q42 : h38 75 3 = 78 := by have z := jB (e := 3) 0 j39 rg_75_3_0_1 (by decide) (by decide); omega
      refine x_getR (np := 54) (x := 707) (f := 3) (q := 78) (by decide +kernel) (by decide) (by decide +kernel) q42 ?_
      refine x_iload (np := 55) (x := 1) (by decide +kernel) rfl (by first | decide | omega) ?_
      have q43 : h38 78 (200 + 5 * u8) = 2147483648 := by rw [← e40]; exact x_up_at
      refine x_aldC (np := 56) (x := 0) (n := 290) (i := (200 + 5 * u8)) (q := 2147483648) (by decide +kernel) (by decide +kernel) (by first | decide | omega) (by first | decide | omega) (by decide) q43 (fun l44 => ?_)
      refine x_ifz (k := 1) (tg := 70) (np := 59) (by decide +kernel) (by decide) (by decide) (fun q45 => ?_) (fun q46 => ?_)
      · have q45 : 2147483648 ≠ 2147483648 := q45
        exfalso; omega
      have q46 : ¬ (2147483648 ≠ 2147483648) := q46
      refine x_aload (np := 60) (x := 0) (by decide +kernel) rfl (x_nc_le (by decide)) ?_
      refine x_ldcB (i := 9) (idx := 171) (tx := "body") (by rw [tb_y184]; exact List.mem_of_getElem? (i := 49) rfl) (by decide) (by rw [tb_b184]; decide +kernel) ?_
      have m50 : Tq tB tN h38 := by rw [← e40]; exact Tq.oth m31 (by decide) (fun z => absurd z.1 (by decide))
      refine x_cP (t := 6) (mj := 170) (n := 2) (rc := 12) (ml := 4) (nr := 0) (np := 65) (as := [x_r 75, x_b (9 + 1)]) (rest := []) (lo1 := [x_r 75, x_b (9 + 1), 147573952589676412928, 147573952589676412928]) (by decide +kernel) (by decide) (by decide +kernel) (x_rb_of (by decide +kernel)) rfl rfl (x_wr (by decide) (x_wB (by decide) x_wn)) x_wn (by decide) rfl (c170_75_S0 j39  (by decide) m50) (fun v47 l48 q49 => ?_)
      obtain ⟨b53, c51, c52⟩ := q49
      have q54 : h38 75 7 = h14 75 7 := by rw [← e40]; exact x_up_k (by decide)
      have q55 : h38 75 9 = h14 75 9 := by rw [← e40]; exact x_up_k (by decide)
      have b56 : iv_tl 9 = 4 := by decide
      refine x_ifz (k := 1) (tg := 70) (np := 68) (by decide +kernel) (by decide) l48 (fun q57 => ?_) (fun q58 => ?_)
      · have q57 : v47 ≠ 2147483648 := q57
        have b59 := c51 (by first | decide | omega)
        refine x_aload (np := 71) (x := 0) (by decide +kernel) rfl (x_nc_le (by decide)) ?_
        refine x_iload (np := 72) (x := 1) (by decide +kernel) rfl (by first | decide | omega) ?_
        refine x_const (np := 73) (x := 9223372043297226753) (a := 2147483649) (by decide +kernel) (by decide) (by decide) ?_
        refine x_iadd (np := 74) (x := 0) (v := (2147483849 + 5 * u8)) (by decide +kernel) (by first | decide | omega) (by decide) (by first | decide | omega) (by first | decide | omega) ?_
        refine x_nI (t := 6) (mj := 177) (n := 2) (rc := 12) (ml := 2) (nr := 0) (np := 77) (as := [x_r 75, iv_c (2147483849 + 5 * u8)]) (rest := []) (lo1 := [x_r 75, iv_c (2147483849 + 5 * u8)]) (by decide +kernel) (by decide) (by decide +kernel) (x_rb_of (by decide +kernel)) rfl rfl (x_wr (by decide) (x_wi (by first | decide | omega) x_wn)) x_wn (by decide) rfl ?_
        refine x_aload (np := 1) (x := 0) (by decide +kernel) rfl (x_nc_le (by decide)) ?_
        refine x_iload (np := 2) (x := 1) (by decide +kernel) rfl (by first | decide | omega) ?_
        refine x_aload (np := 3) (x := 0) (by decide +kernel) rfl (x_nc_le (by decide)) ?_
        refine x_const (np := 4) (x := 9223372039002259456) (a := 2147483648) (by decide +kernel) (by decide) (by decide) ?_
        refine x_aload (np := 5) (x := 0) (by decide +kernel) rfl (x_nc_le (by decide)) ?_
        refine x_nI (t := 6) (mj := 157) (n := 1) (rc := 12) (ml := 1) (nr := 4) (np := 8) (as := [x_r 75]) (rest := [iv_c 2147483648, x_r 75, iv_c (2147483849 + 5 * u8), x_r 75]) (lo1 := [x_r 75]) (by decide +kernel) (by decide) (by decide +kernel) (x_rb_of (by decide +kernel)) rfl rfl (x_wr (by decide) x_wn) (x_wi (by decide) (x_wr (by decide) (x_wi (by first | decide | omega) (x_wr (by decide) x_wn)))) (by decide) rfl ?_
        refine x_aload (np := 1) (x := 0) (by decide +kernel) rfl (x_nc_le (by decide)) ?_
        have q60 : h38 75 1 = 76 := by have z := jB (e := 1) 0 j39 rg_75_1_0_1 (by decide) (by decide); omega
        refine x_getR (np := 4) (x := 705) (f := 1) (q := 76) (by decide +kernel) (by decide) (by decide +kernel) q60 ?_
        refine x_const (np := 5) (x := 9223372039002259456) (a := 2147483648) (by decide +kernel) (by decide) (by decide) ?_
        have q61 : h38 76 0 = h14 76 0 := by rw [← e40]; exact x_up_k (by decide)
        have q62 : h14 76 0 = h 76 0 := jK 0 f16 rg_76_0_0_1 (by first | decide | omega) (by first | decide | omega) (by decide)
        have b63 := jB (e := 0) 0 hJ rg_76_0_0_1 (by first | decide | omega) (by first | decide | omega)
        refine x_aldC (np := 6) (x := 0) (n := 1952) (i := 0) (q := (h 76 0)) (by decide +kernel) (by decide +kernel) (by first | decide | omega) (by first | decide | omega) (by decide) (q61.trans q62) (fun l64 => ?_)
        refine x_retI (np := 7) (x := 0) (by decide +kernel) l64 (Or.inl (by decide +kernel)) ⟨_, rfl, l64, ?_⟩
        refine x_const (np := 9) (x := 9223372043297226753) (a := 2147483649) (by decide +kernel) (by decide) (by decide) ?_
        obtain ⟨v65, q66⟩ : ∃ z, z + 2147483649 = (h 76 0) + 2147483648 := ⟨(h 76 0) + 2147483648 - 2147483649, by first | decide | omega⟩
        refine x_isub (np := 10) (x := 0) (v := v65) (by decide +kernel) l64 (by decide) (by first | decide | omega) (by first | decide | omega) ?_
        refine x_cI (t := 6) (mj := 174) (n := 3) (rc := 12) (ml := 4) (nr := 2) (np := 13) (as := [x_r 75, iv_c 2147483648, iv_c v65]) (rest := [iv_c (2147483849 + 5 * u8), x_r 75]) (lo1 := [x_r 75, iv_c 2147483648, iv_c v65, 147573952589676412928]) (by decide +kernel) (by decide) (by decide +kernel) (x_rb_of (by decide +kernel)) rfl rfl (x_wr (by decide) (x_wi (by decide) (x_wi (by first | decide | omega) x_wn))) (x_wi (by first | decide | omega) (x_wr (by decide) x_wn)) (by decide) rfl (c174_75 j39  (by first | decide | omega) (by first | decide | omega) m50) (fun v67 h70 l68 q69 => ?_)
        obtain ⟨j71, f72, b73, c74, c75, c76, c77, c78, c79⟩ := q69
        have f80 := Fr.trans f41 f72 (by decide)
        have q81 : h38 75 7 = h14 75 7 := by rw [← e40]; exact x_up_k (by decide)
        have b82 := jB (e := 7) 0 j71 rg_75_7_0_1 (by first | decide | omega) (by first | decide | omega)
        have q83 : h38 75 7 = h14 75 7 := by rw [← e40]; exact x_up_k (by decide)
        have b84 := c78 (by first | decide | omega)
        refine x_nI (t := 6) (mj := 176) (n := 3) (rc := 12) (ml := 3) (nr := 0) (np := 16) (as := [x_r 75, iv_c (2147483849 + 5 * u8), iv_c v67]) (rest := []) (lo1 := [x_r 75, iv_c (2147483849 + 5 * u8), iv_c v67]) (by decide +kernel) (by decide) (by decide +kernel) (x_rb_of (by decide +kernel)) rfl rfl (x_wr (by decide) (x_wi (by first | decide | omega) (x_wi l68 x_wn))) x_wn (by decide) rfl ?_
        refine x_aload (np := 1) (x := 0) (by decide +kernel) rfl (x_nc_le (by decide)) ?_
        have q85 : h70 75 3 = 78 := by have z := jB (e := 3) 0 j71 rg_75_3_0_1 (by decide) (by decide); omega
        refine x_getR (np := 4) (x := 707) (f := 3) (q := 78) (by decide +kernel) (by decide) (by decide +kernel) q85 ?_
        refine x_iload (np := 5) (x := 1) (by decide +kernel) rfl (by first | decide | omega) ?_
        refine x_iload (np := 6) (x := 2) (by decide +kernel) rfl l68 ?_
        refine x_ast (np := 7) (x := 0) (kd := 1) (n := 290) (i := (201 + 5 * u8)) (by decide +kernel) (Or.inl rfl) (by decide +kernel) (by first | decide | omega) (by first | decide | omega) (by decide) l68 (fun z => absurd z (by decide)) ?_
        have j87 := jU (e := (201 + 5 * u8)) (v := v67) u8 j71 rg_78_201_5_10 (by first | decide | omega) (by first | decide | omega) (by first | decide | omega)
        have f89 := jF (e := (201 + 5 * u8)) (v := v67) u8 f80 rg_78_201_5_10 (by first | decide | omega) (by first | decide | omega) (by decide)
        generalize e88 : x_up h70 78 (201 + 5 * u8) v67 = h86 at j87 f89 ⊢
        refine x_iload (np := 8) (x := 2) (by decide +kernel) rfl l68 ?_
        refine x_ifz (k := 2) (tg := 15) (np := 11) (by decide +kernel) (by decide) l68 (fun q90 => ?_) (fun q91 => ?_)
        · have q90 : v67 < 2147483648 := q90
          refine x_const (np := 16) (x := 9223372039002259456) (a := 2147483648) (by decide +kernel) (by decide) (by decide) ?_
          refine x_retI (np := 17) (x := 0) (by decide +kernel) (by decide) (Or.inr ⟨by decide +kernel, by first | decide | omega, by first | decide | omega⟩) ⟨_, rfl, (by decide), ?_⟩
          refine x_retI (np := 17) (x := 0) (by decide +kernel) (by decide) (Or.inr ⟨by decide +kernel, by first | decide | omega, by first | decide | omega⟩) ⟨_, rfl, (by decide), ?_⟩
          refine x_ifz (k := 0) (tg := 154) (np := 80) (by decide +kernel) (by decide) (by decide) (fun q92 => ?_) (fun q93 => ?_)
          · have q92 : 2147483648 = 2147483648 := q92
            refine x_const (np := 155) (x := 9223372039002259456) (a := 2147483648) (by decide +kernel) (by decide) (by decide) ?_
            have b94 := jB (e := 0) 0 hJ rg_78_0_0_1 (by first | decide | omega) (by first | decide | omega)
            have q95 : h86 78 0 = h70 78 0 := by rw [← e88]; exact x_up_i (by first | decide | omega)
            have q96 : h70 78 0 = h38 78 0 := jK 0 f72 rg_78_0_0_1 (by first | decide | omega) (by first | decide | omega) (by decide)
            have q97 : h38 78 0 = h14 78 0 := by rw [← e40]; exact x_up_i (by first | decide | omega)
            have q98 : h14 78 0 = h 78 0 := jK 0 f16 rg_78_0_0_1 (by first | decide | omega) (by first | decide | omega) (by decide)
            have q99 : h86 78 1 = h70 78 1 := by rw [← e88]; exact x_up_i (by first | decide | omega)
            have q100 : h70 78 1 = h38 78 1 := jK 0 f72 rg_78_1_0_1 (by first | decide | omega) (by first | decide | omega) (by decide)
            have q101 : h38 78 1 = h14 78 1 := by rw [← e40]; exact x_up_i (by first | decide | omega)
            have q102 : h14 78 1 = h 78 1 := jK 0 f16 rg_78_1_0_1 (by first | decide | omega) (by first | decide | omega) (by decide)
            have b103 := jB (e := 2) 0 hJ rg_78_2_0_1 (by first | decide | omega) (by first | decide | omega)
            have q104 : h86 78 2 = h70 78 2 := by rw [← e88]; exact x_up_i (by first | decide | omega)
            have q105 : h70 78 2 = h38 78 2 := jK 0 f72 rg_78_2_0_1 (by first | decide | omega) (by first | decide | omega) (by decide)
            have q106 : h38 78 2 = h14 78 2 := by rw [← e40]; exact x_up_i (by first | decide | omega)
            have q107 : h14 78 2 = h 78 2 := jK 0 f16 rg_78_2_0_1 (by first | decide | omega) (by first | decide | omega) (by decide)
            have b108 := jB (e := 3) 0 hJ rg_78_3_0_1 (by first | decide | omega) (by first | decide | omega)
            have q109 : h86 78 3 = h70 78 3 := by rw [← e88]; exact x_up_i (by first | decide | omega)
            have q110 : h70 78 3 = h38 78 3 := jK 0 f72 rg_78_3_0_1 (by first | decide | omega) (by first | decide | omega) (by decide)
            have q111 : h38 78 3 = h14 78 3 := by rw [← e40]; exact x_up_i (by first | decide | omega)
            have q112 : h14 78 3 = h 78 3 := jK 0 f16 rg_78_3_0_1 (by first | decide | omega) (by first | decide | omega) (by decide)
            have q113 : h86 78 4 = h70 78 4 := by rw [← e88]; exact x_up_i (by first | decide | omega)
            have q114 : h70 78 4 = h38 78 4 := jK 0 f72 rg_78_4_0_1 (by first | decide | omega) (by first | decide | omega) (by decide)
            have q115 : h38 78 4 = h14 78 4 := by rw [← e40]; exact x_up_i (by first | decide | omega)
            have q116 : h14 78 4 = h 78 4 := jK 0 f16 rg_78_4_0_1 (by first | decide | omega) (by first | decide | omega) (by decide)
            have b117 := jB (e := 5) 0 hJ rg_78_5_0_1 (by first | decide | omega) (by first | decide | omega)
            have q118 : h86 78 5 = h70 78 5 := by rw [← e88]; exact x_up_i (by first | decide | omega)
            have q119 : h70 78 5 = h38 78 5 := jK 0 f72 rg_78_5_0_1 (by first | decide | omega) (by first | decide | omega) (by decide)
            have q120 : h38 78 5 = h14 78 5 := by rw [← e40]; exact x_up_i (by first | decide | omega)
            have q121 : h14 78 5 = h 78 5 := jK 0 f16 rg_78_5_0_1 (by first | decide | omega) (by first | decide | omega) (by decide)
            have w122 : ¬ Wd tB tN 10 (sk tB tN (h 75 7)) := by rw [← c21]; exact Wd.no (by decide) (Is.no c33 (by first | decide | omega)) c22
            have q123 : h38 75 7 = h14 75 7 := by rw [← e40]; exact x_up_k (by decide)
            have q124 : h38 75 9 = h14 75 9 := by rw [← e40]; exact x_up_k (by decide)
            have c125 : Is (Wm tB 9 (h14 75 9) (h14 75 7)) v47 := by rw [show h14 75 9 = h38 75 9 by first | decide | omega, show h14 75 7 = h38 75 7 by first | decide | omega]; exact c52
            have y126 := Is.yes c125 (by first | decide | omega)
            have w127 : Wd tB tN 9 (sk tB tN (h 75 7)) := by rw [← c21]; exact Wd.of' (by decide) y126 c22
            have e128 : sk tB tN (h14 75 7) = sk tB tN ((sk tB tN (h 75 7)) + iv_tl 9) := by rw [← c21, ← y126.1]
            have q129 : h38 75 7 = h14 75 7 := by rw [← e40]; exact x_up_k (by decide)
            refine x_retI (np := 156) (x := 0) (by decide +kernel) (by decide) (Or.inr ⟨by decide +kernel, by first | decide | omega, by first | decide | omega⟩) ⟨_, rfl, (by decide), ?_⟩
            exact ⟨j87, f89, (by first | decide | omega), (fun z => by first | decide | omega), (fun z => by first | decide | omega), (fun z => by first | decide | omega), (fun z => by first | decide | omega), (fun z => by first | decide | omega), (fun z => by first | decide | omega), (fun z => absurd z (by first | decide | omega)), (Or.inr ⟨by first | decide | omega, (or9.y w127 rfl e128 rfl (nm9.f c79 (by first | decide | omega) (by first | decide | omega) (congrArg (sk tB tN) (show h38 75 7 = h14 75 7 by first | decide | omega)) (by first | decide | omega) (by first | decide | omega)))⟩)⟩
          have q93 : ¬ (2147483648 = 2147483648) := q93
          exfalso; omega
        have q91 : ¬ (v67 < 2147483648) := q91
        have b130 := c75 (by first | decide | omega)
        have b131 := c76 (by first | decide | omega)
        have b132 := c77 (by first | decide | omega)
        refine x_const (np := 12) (x := 9223372043297226753) (a := 2147483649) (by decide +kernel) (by decide) (by decide) ?_
        refine x_goto (np := 15) (x := 16) (by decide +kernel) ?_
        refine x_retI (np := 17) (x := 0) (by decide +kernel) (by decide) (Or.inr ⟨by decide +kernel, by first | decide | omega, by first | decide | omega⟩) ⟨_, rfl, (by decide), ?_⟩
        refine x_retI (np := 17) (x := 0) (by decide +kernel) (by decide) (Or.inr ⟨by decide +kernel, by first | decide | omega, by first | decide | omega⟩) ⟨_, rfl, (by decide), ?_⟩
        refine x_ifz (k := 0) (tg := 154) (np := 80) (by decide +kernel) (by decide) (by decide) (fun q133 => ?_) (fun q134 => ?_)
        · have q133 : 2147483649 = 2147483648 := q133
          exfalso; omega
        have q134 : ¬ (2147483649 = 2147483648) := q134
        refine x_aload (np := 81) (x := 0) (by decide +kernel) rfl (x_nc_le (by decide)) ?_
        refine x_ldcB (i := 2) (idx := 147) (tx := "day") (by rw [tb_y184]; exact List.mem_of_getElem? (i := 37) rfl) (by decide) (by rw [tb_b184]; decide +kernel) ?_
        have m139 := Tq.fr m50 f72 (by decide) (by decide)
        have m138 : Tq tB tN h86 := by rw [← e88]; exact Tq.oth m139 (by decide) (fun z => absurd z.1 (by decide))
        refine x_cI (t := 6) (mj := 172) (n := 2) (rc := 12) (ml := 2) (nr := 0) (np := 86) (as := [x_r 75, x_b (2 + 1)]) (rest := []) (lo1 := [x_r 75, x_b (2 + 1)]) (by decide +kernel) (by decide) (by decide +kernel) (x_rb_of (by decide +kernel)) rfl rfl (x_wr (by decide) (x_wB (by decide) x_wn)) x_wn (by decide) rfl (c172_75_S0 j87  (by decide) m138) (fun v135 h140 l136 q137 => ?_)
        obtain ⟨j141, f142, b143, c144, c145, c146⟩ := q137
        have f147 := Fr.trans f89 f142 (by decide)
        have q148 : h86 75 7 = h70 75 7 := by rw [← e88]; exact x_up_k (by decide)
        have b149 := jB (e := 7) 0 j141 rg_75_7_0_1 (by first | decide | omega) (by first | decide | omega)
        have q150 : h86 75 7 = h70 75 7 := by rw [← e88]; exact x_up_k (by decide)
        refine x_ifz (k := 0) (tg := 154) (np := 89) (by decide +kernel) (by decide) l136 (fun q151 => ?_) (fun q152 => ?_)
        · have q151 : v135 = 2147483648 := q151
          refine x_const (np := 155) (x := 9223372039002259456) (a := 2147483648) (by decide +kernel) (by decide) (by decide) ?_
          have b153 := jB (e := 0) 0 hJ rg_78_0_0_1 (by first | decide | omega) (by first | decide | omega)
          have q154 : h140 78 0 = h86 78 0 := jK 0 f142 rg_78_0_0_1 (by first | decide | omega) (by first | decide | omega) (by decide)
          have q155 : h86 78 0 = h70 78 0 := by rw [← e88]; exact x_up_i (by first | decide | omega)
          have q156 : h70 78 0 = h38 78 0 := jK 0 f72 rg_78_0_0_1 (by first | decide | omega) (by first | decide | omega) (by decide)
          have q157 : h38 78 0 = h14 78 0 := by rw [← e40]; exact x_up_i (by first | decide | omega)
          have q158 : h14 78 0 = h 78 0 := jK 0 f16 rg_78_0_0_1 (by first | decide | omega) (by first | decide | omega) (by decide)
          have q159 : h140 78 1 = h86 78 1 := jK 0 f142 rg_78_1_0_1 (by first | decide | omega) (by first | decide | omega) (by decide)
          have q160 : h86 78 1 = h70 78 1 := by rw [← e88]; exact x_up_i (by first | decide | omega)
          have q161 : h70 78 1 = h38 78 1 := jK 0 f72 rg_78_1_0_1 (by first | decide | omega) (by first | decide | omega) (by decide)
          have q162 : h38 78 1 = h14 78 1 := by rw [← e40]; exact x_up_i (by first | decide | omega)
          have q163 : h14 78 1 = h 78 1 := jK 0 f16 rg_78_1_0_1 (by first | decide | omega) (by first | decide | omega) (by decide)
          have b164 := jB (e := 2) 0 hJ rg_78_2_0_1 (by first | decide | omega) (by first | decide | omega)
          have q165 : h140 78 2 = h86 78 2 := jK 0 f142 rg_78_2_0_1 (by first | decide | omega) (by first | decide | omega) (by decide)
          have q166 : h86 78 2 = h70 78 2 := by rw [← e88]; exact x_up_i (by first | decide | omega)
          have q167 : h70 78 2 = h38 78 2 := jK 0 f72 rg_78_2_0_1 (by first | decide | omega) (by first | decide | omega) (by decide)
          have q168 : h38 78 2 = h14 78 2 := by rw [← e40]; exact x_up_i (by first | decide | omega)
          have q169 : h14 78 2 = h 78 2 := jK 0 f16 rg_78_2_0_1 (by first | decide | omega) (by first | decide | omega) (by decide)
          have b170 := jB (e := 3) 0 hJ rg_78_3_0_1 (by first | decide | omega) (by first | decide | omega)
          have q171 : h140 78 3 = h86 78 3 := jK 0 f142 rg_78_3_0_1 (by first | decide | omega) (by first | decide | omega) (by decide)
          have q172 : h86 78 3 = h70 78 3 := by rw [← e88]; exact x_up_i (by first | decide | omega)
          have q173 : h70 78 3 = h38 78 3 := jK 0 f72 rg_78_3_0_1 (by first | decide | omega) (by first | decide | omega) (by decide)
          have q174 : h38 78 3 = h14 78 3 := by rw [← e40]; exact x_up_i (by first | decide | omega)
          have q175 : h14 78 3 = h 78 3 := jK 0 f16 rg_78_3_0_1 (by first | decide | omega) (by first | decide | omega) (by decide)
          have q176 : h140 78 4 = h86 78 4 := jK 0 f142 rg_78_4_0_1 (by first | decide | omega) (by first | decide | omega) (by decide)
          have q177 : h86 78 4 = h70 78 4 := by rw [← e88]; exact x_up_i (by first | decide | omega)
          have q178 : h70 78 4 = h38 78 4 := jK 0 f72 rg_78_4_0_1 (by first | decide | omega) (by first | decide | omega) (by decide)
          have q179 : h38 78 4 = h14 78 4 := by rw [← e40]; exact x_up_i (by first | decide | omega)
          have q180 : h14 78 4 = h 78 4 := jK 0 f16 rg_78_4_0_1 (by first | decide | omega) (by first | decide | omega) (by decide)
          have b181 := jB (e := 5) 0 hJ rg_78_5_0_1 (by first | decide | omega) (by first | decide | omega)
          have q182 : h140 78 5 = h86 78 5 := jK 0 f142 rg_78_5_0_1 (by first | decide | omega) (by first | decide | omega) (by decide)
          have q183 : h86 78 5 = h70 78 5 := by rw [← e88]; exact x_up_i (by first | decide | omega)
          have q184 : h70 78 5 = h38 78 5 := jK 0 f72 rg_78_5_0_1 (by first | decide | omega) (by first | decide | omega) (by decide)
          have q185 : h38 78 5 = h14 78 5 := by rw [← e40]; exact x_up_i (by first | decide | omega)
          have q186 : h14 78 5 = h 78 5 := jK 0 f16 rg_78_5_0_1 (by first | decide | omega) (by first | decide | omega) (by decide)
          have w187 : ¬ Wd tB tN 10 (sk tB tN (h 75 7)) := by rw [← c21]; exact Wd.no (by decide) (Is.no c33 (by first | decide | omega)) c22
          have q188 : h38 75 7 = h14 75 7 := by rw [← e40]; exact x_up_k (by decide)
          have q189 : h38 75 9 = h14 75 9 := by rw [← e40]; exact x_up_k (by decide)
          have c190 : Is (Wm tB 9 (h14 75 9) (h14 75 7)) v47 := by rw [show h14 75 9 = h38 75 9 by first | decide | omega, show h14 75 7 = h38 75 7 by first | decide | omega]; exact c52
          have y191 := Is.yes c190 (by first | decide | omega)
          have w192 : Wd tB tN 9 (sk tB tN (h 75 7)) := by rw [← c21]; exact Wd.of' (by decide) y191 c22
          have e193 : sk tB tN (h14 75 7) = sk tB tN ((sk tB tN (h 75 7)) + iv_tl 9) := by rw [← c21, ← y191.1]
          have q194 : h38 75 7 = h14 75 7 := by rw [← e40]; exact x_up_k (by decide)
          have q195 : h86 75 7 = h70 75 7 := by rw [← e88]; exact x_up_k (by decide)
          refine x_retI (np := 156) (x := 0) (by decide +kernel) (by decide) (Or.inr ⟨by decide +kernel, by first | decide | omega, by first | decide | omega⟩) ⟨_, rfl, (by decide), ?_⟩
          exact ⟨j141, f147, (by first | decide | omega), (fun z => by first | decide | omega), (fun z => by first | decide | omega), (fun z => by first | decide | omega), (fun z => by first | decide | omega), (fun z => by first | decide | omega), (fun z => by first | decide | omega), (fun z => absurd z (by first | decide | omega)), (Or.inr ⟨by first | decide | omega, (or9.y w192 rfl e193 rfl (nm9.y c79 (by first | decide | omega) (by first | decide | omega) (congrArg (sk tB tN) (show h38 75 7 = h14 75 7 by first | decide | omega)) (by first | decide | omega) rfl (wd9.f (Tw.no c146 (by first | decide | omega)) (congrArg (sk tB tN) (show h86 75 7 = h70 75 7 by first | decide | omega)) (by first | decide | omega))))⟩)⟩
        have q152 : ¬ (v135 = 2147483648) := q152
        have b196 := c145 (by first | decide | omega)
        refine x_aload (np := 90) (x := 0) (by decide +kernel) rfl (x_nc_le (by decide)) ?_
        refine x_iload (np := 91) (x := 1) (by decide +kernel) rfl (by first | decide | omega) ?_
        refine x_const (np := 92) (x := 9223372047592194050) (a := 2147483650) (by decide +kernel) (by decide) (by decide) ?_
        refine x_iadd (np := 93) (x := 0) (v := (2147483850 + 5 * u8)) (by decide +kernel) (by first | decide | omega) (by decide) (by first | decide | omega) (by first | decide | omega) ?_
        refine x_const (np := 94) (x := 9223372039002259456) (a := 2147483648) (by decide +kernel) (by decide) (by decide) ?_
        refine x_nI (t := 6) (mj := 178) (n := 3) (rc := 12) (ml := 3) (nr := 0) (np := 97) (as := [x_r 75, iv_c (2147483850 + 5 * u8), iv_c 2147483648]) (rest := []) (lo1 := [x_r 75, iv_c (2147483850 + 5 * u8), iv_c 2147483648]) (by decide +kernel) (by decide) (by decide +kernel) (x_rb_of (by decide +kernel)) rfl rfl (x_wr (by decide) (x_wi (by first | decide | omega) (x_wi (by decide) x_wn))) x_wn (by decide) rfl ?_
        refine x_aload (np := 1) (x := 0) (by decide +kernel) rfl (x_nc_le (by decide)) ?_
        refine x_iload (np := 2) (x := 1) (by decide +kernel) rfl (by first | decide | omega) ?_
        refine x_aload (np := 3) (x := 0) (by decide +kernel) rfl (x_nc_le (by decide)) ?_
        refine x_iload (np := 4) (x := 2) (by decide +kernel) rfl (by decide) ?_
        refine x_const (np := 6) (x := 9223372086246899723) (a := 2147483659) (by decide +kernel) (by decide) (by decide) ?_
        have m200 := Tq.fr m138 f142 (by decide) (by decide)
        refine x_cI (t := 6) (mj := 174) (n := 3) (rc := 12) (ml := 4) (nr := 2) (np := 9) (as := [x_r 75, iv_c 2147483648, iv_c 2147483659]) (rest := [iv_c (2147483850 + 5 * u8), x_r 75]) (lo1 := [x_r 75, iv_c 2147483648, iv_c 2147483659, 147573952589676412928]) (by decide +kernel) (by decide) (by decide +kernel) (x_rb_of (by decide +kernel)) rfl rfl (x_wr (by decide) (x_wi (by decide) (x_wi (by decide) x_wn))) (x_wi (by first | decide | omega) (x_wr (by decide) x_wn)) (by decide) rfl (c174_75 j141  (by first | decide | omega) (by first | decide | omega) m200) (fun v197 h201 l198 q199 => ?_)
        obtain ⟨j202, f203, b204, c205, c206, c207, c208, c209, c210⟩ := q199
        have f211 := Fr.trans f147 f203 (by decide)
        have b212 := jB (e := 7) 0 j202 rg_75_7_0_1 (by first | decide | omega) (by first | decide | omega)
        have b213 := c209 (by first | decide | omega)
        refine x_nI (t := 6) (mj := 176) (n := 3) (rc := 12) (ml := 3) (nr := 0) (np := 12) (as := [x_r 75, iv_c (2147483850 + 5 * u8), iv_c v197]) (rest := []) (lo1 := [x_r 75, iv_c (2147483850 + 5 * u8), iv_c v197]) (by decide +kernel) (by decide) (by decide +kernel) (x_rb_of (by decide +kernel)) rfl rfl (x_wr (by decide) (x_wi (by first | decide | omega) (x_wi l198 x_wn))) x_wn (by decide) rfl ?_
        refine x_aload (np := 1) (x := 0) (by decide +kernel) rfl (x_nc_le (by decide)) ?_
        have q214 : h201 75 3 = 78 := by have z := jB (e := 3) 0 j202 rg_75_3_0_1 (by decide) (by decide); omega
        refine x_getR (np := 4) (x := 707) (f := 3) (q := 78) (by decide +kernel) (by decide) (by decide +kernel) q214 ?_
        refine x_iload (np := 5) (x := 1) (by decide +kernel) rfl (by first | decide | omega) ?_
        refine x_iload (np := 6) (x := 2) (by decide +kernel) rfl l198 ?_
        refine x_ast (np := 7) (x := 0) (kd := 1) (n := 290) (i := (202 + 5 * u8)) (by decide +kernel) (Or.inl rfl) (by decide +kernel) (by first | decide | omega) (by first | decide | omega) (by decide) l198 (fun z => absurd z (by decide)) ?_
        have j216 := jU (e := (202 + 5 * u8)) (v := v197) u8 j202 rg_78_202_5_10 (by first | decide | omega) (by first | decide | omega) (by first | decide | omega)
        have f218 := jF (e := (202 + 5 * u8)) (v := v197) u8 f211 rg_78_202_5_10 (by first | decide | omega) (by first | decide | omega) (by decide)
        generalize e217 : x_up h201 78 (202 + 5 * u8) v197 = h215 at j216 f218 ⊢
        refine x_iload (np := 8) (x := 2) (by decide +kernel) rfl l198 ?_
        refine x_ifz (k := 2) (tg := 15) (np := 11) (by decide +kernel) (by decide) l198 (fun q219 => ?_) (fun q220 => ?_)
        · have q219 : v197 < 2147483648 := q219
          refine x_const (np := 16) (x := 9223372039002259456) (a := 2147483648) (by decide +kernel) (by decide) (by decide) ?_
          refine x_retI (np := 17) (x := 0) (by decide +kernel) (by decide) (Or.inr ⟨by decide +kernel, by first | decide | omega, by first | decide | omega⟩) ⟨_, rfl, (by decide), ?_⟩
          refine x_retI (np := 13) (x := 0) (by decide +kernel) (by decide) (Or.inr ⟨by decide +kernel, by first | decide | omega, by first | decide | omega⟩) ⟨_, rfl, (by decide), ?_⟩
          refine x_ifz (k := 0) (tg := 154) (np := 100) (by decide +kernel) (by decide) (by decide) (fun q221 => ?_) (fun q222 => ?_)
          · have q221 : 2147483648 = 2147483648 := q221
            refine x_const (np := 155) (x := 9223372039002259456) (a := 2147483648) (by decide +kernel) (by decide) (by decide) ?_
            have b223 := jB (e := 0) 0 hJ rg_78_0_0_1 (by first | decide | omega) (by first | decide | omega)
            have q224 : h215 78 0 = h201 78 0 := by rw [← e217]; exact x_up_i (by first | decide | omega)
            have q225 : h201 78 0 = h140 78 0 := jK 0 f203 rg_78_0_0_1 (by first | decide | omega) (by first | decide | omega) (by decide)
            have q226 : h140 78 0 = h86 78 0 := jK 0 f142 rg_78_0_0_1 (by first | decide | omega) (by first | decide | omega) (by decide)
            have q227 : h86 78 0 = h70 78 0 := by rw [← e88]; exact x_up_i (by first | decide | omega)
            have q228 : h70 78 0 = h38 78 0 := jK 0 f72 rg_78_0_0_1 (by first | decide | omega) (by first | decide | omega) (by decide)
            have q229 : h38 78 0 = h14 78 0 := by rw [← e40]; exact x_up_i (by first | decide | omega)
            have q230 : h14 78 0 = h 78 0 := jK 0 f16 rg_78_0_0_1 (by first | decide | omega) (by first | decide | omega) (by decide)
            have q231 : h215 78 1 = h201 78 1 := by rw [← e217]; exact x_up_i (by first | decide | omega)
            have q232 : h201 78 1 = h140 78 1 := jK 0 f203 rg_78_1_0_1 (by first | decide | omega) (by first | decide | omega) (by decide)
            have q233 : h140 78 1 = h86 78 1 := jK 0 f142 rg_78_1_0_1 (by first | decide | omega) (by first | decide | omega) (by decide)
            have q234 : h86 78 1 = h70 78 1 := by rw [← e88]; exact x_up_i (by first | decide | omega)
            have q235 : h70 78 1 = h38 78 1 := jK 0 f72 rg_78_1_0_1 (by first | decide | omega) (by first | decide | omega) (by decide)
            have q236 : h38 78 1 = h14 78 1 := by rw [← e40]; exact x_up_i (by first | decide | omega)
            have q237 : h14 78 1 = h 78 1 := jK 0 f16 rg_78_1_0_1 (by first | decide | omega) (by first | decide | omega) (by decide)
            have b238 := jB (e := 2) 0 hJ rg_78_2_0_1 (by first | decide | omega) (by first | decide | omega)
            have q239 : h215 78 2 = h201 78 2 := by rw [← e217]; exact x_up_i (by first | decide | omega)
            have q240 : h201 78 2 = h140 78 2 := jK 0 f203 rg_78_2_0_1 (by first | decide | omega) (by first | decide | omega) (by decide)
            have q241 : h140 78 2 = h86 78 2 := jK 0 f142 rg_78_2_0_1 (by first | decide | omega) (by first | decide | omega) (by decide)
            have q242 : h86 78 2 = h70 78 2 := by rw [← e88]; exact x_up_i (by first | decide | omega)
            have q243 : h70 78 2 = h38 78 2 := jK 0 f72 rg_78_2_0_1 (by first | decide | omega) (by first | decide | omega) (by decide)
            have q244 : h38 78 2 = h14 78 2 := by rw [← e40]; exact x_up_i (by first | decide | omega)
            have q245 : h14 78 2 = h 78 2 := jK 0 f16 rg_78_2_0_1 (by first | decide | omega) (by first | decide | omega) (by decide)
            have b246 := jB (e := 3) 0 hJ rg_78_3_0_1 (by first | decide | omega) (by first | decide | omega)
            have q247 : h215 78 3 = h201 78 3 := by rw [← e217]; exact x_up_i (by first | decide | omega)
            have q248 : h201 78 3 = h140 78 3 := jK 0 f203 rg_78_3_0_1 (by first | decide | omega) (by first | decide | omega) (by decide)
            have q249 : h140 78 3 = h86 78 3 := jK 0 f142 rg_78_3_0_1 (by first | decide | omega) (by first | decide | omega) (by decide)
            have q250 : h86 78 3 = h70 78 3 := by rw [← e88]; exact x_up_i (by first | decide | omega)
            have q251 : h70 78 3 = h38 78 3 := jK 0 f72 rg_78_3_0_1 (by first | decide | omega) (by first | decide | omega) (by decide)
            have q252 : h38 78 3 = h14 78 3 := by rw [← e40]; exact x_up_i (by first | decide | omega)
            have q253 : h14 78 3 = h 78 3 := jK 0 f16 rg_78_3_0_1 (by first | decide | omega) (by first | decide | omega) (by decide)
            have q254 : h215 78 4 = h201 78 4 := by rw [← e217]; exact x_up_i (by first | decide | omega)
            have q255 : h201 78 4 = h140 78 4 := jK 0 f203 rg_78_4_0_1 (by first | decide | omega) (by first | decide | omega) (by decide)
            have q256 : h140 78 4 = h86 78 4 := jK 0 f142 rg_78_4_0_1 (by first | decide | omega) (by first | decide | omega) (by decide)
            have q257 : h86 78 4 = h70 78 4 := by rw [← e88]; exact x_up_i (by first | decide | omega)
            have q258 : h70 78 4 = h38 78 4 := jK 0 f72 rg_78_4_0_1 (by first | decide | omega) (by first | decide | omega) (by decide)
            have q259 : h38 78 4 = h14 78 4 := by rw [← e40]; exact x_up_i (by first | decide | omega)
            have q260 : h14 78 4 = h 78 4 := jK 0 f16 rg_78_4_0_1 (by first | decide | omega) (by first | decide | omega) (by decide)
            have b261 := jB (e := 5) 0 hJ rg_78_5_0_1 (by first | decide | omega) (by first | decide | omega)
            have q262 : h215 78 5 = h201 78 5 := by rw [← e217]; exact x_up_i (by first | decide | omega)
            have q263 : h201 78 5 = h140 78 5 := jK 0 f203 rg_78_5_0_1 (by first | decide | omega) (by first | decide | omega) (by decide)
            have q264 : h140 78 5 = h86 78 5 := jK 0 f142 rg_78_5_0_1 (by first | decide | omega) (by first | decide | omega) (by decide)
            have q265 : h86 78 5 = h70 78 5 := by rw [← e88]; exact x_up_i (by first | decide | omega)
            have q266 : h70 78 5 = h38 78 5 := jK 0 f72 rg_78_5_0_1 (by first | decide | omega) (by first | decide | omega) (by decide)
            have q267 : h38 78 5 = h14 78 5 := by rw [← e40]; exact x_up_i (by first | decide | omega)
            have q268 : h14 78 5 = h 78 5 := jK 0 f16 rg_78_5_0_1 (by first | decide | omega) (by first | decide | omega) (by decide)
            have w269 : ¬ Wd tB tN 10 (sk tB tN (h 75 7)) := by rw [← c21]; exact Wd.no (by decide) (Is.no c33 (by first | decide | omega)) c22
            have q270 : h38 75 7 = h14 75 7 := by rw [← e40]; exact x_up_k (by decide)
            have q271 : h38 75 9 = h14 75 9 := by rw [← e40]; exact x_up_k (by decide)
            have c272 : Is (Wm tB 9 (h14 75 9) (h14 75 7)) v47 := by rw [show h14 75 9 = h38 75 9 by first | decide | omega, show h14 75 7 = h38 75 7 by first | decide | omega]; exact c52
            have y273 := Is.yes c272 (by first | decide | omega)
            have w274 : Wd tB tN 9 (sk tB tN (h 75 7)) := by rw [← c21]; exact Wd.of' (by decide) y273 c22
            have e275 : sk tB tN (h14 75 7) = sk tB tN ((sk tB tN (h 75 7)) + iv_tl 9) := by rw [← c21, ← y273.1]
            have q276 : h38 75 7 = h14 75 7 := by rw [← e40]; exact x_up_k (by decide)
            have q277 : h86 75 7 = h70 75 7 := by rw [← e88]; exact x_up_k (by decide)
            obtain ⟨w278, e279⟩ := Tw.yes c146 (by first | decide | omega)
            refine x_retI (np := 156) (x := 0) (by decide +kernel) (by decide) (Or.inr ⟨by decide +kernel, by first | decide | omega, by first | decide | omega⟩) ⟨_, rfl, (by decide), ?_⟩
            exact ⟨j216, f218, (by first | decide | omega), (fun z => by first | decide | omega), (fun z => by first | decide | omega), (fun z => by first | decide | omega), (fun z => by first | decide | omega), (fun z => by first | decide | omega), (fun z => by first | decide | omega), (fun z => absurd z (by first | decide | omega)), (Or.inr ⟨by first | decide | omega, (or9.y w274 rfl e275 rfl (nm9.y c79 (by first | decide | omega) (by first | decide | omega) (congrArg (sk tB tN) (show h38 75 7 = h14 75 7 by first | decide | omega)) (by first | decide | omega) rfl (wd9.y w278 (congrArg (sk tB tN) (show h86 75 7 = h70 75 7 by first | decide | omega)) e279 rfl (nm9.f c210 (by first | decide | omega) (by first | decide | omega) rfl (by first | decide | omega) (by first | decide | omega)))))⟩)⟩
          have q222 : ¬ (2147483648 = 2147483648) := q222
          exfalso; omega
        have q220 : ¬ (v197 < 2147483648) := q220
        have b280 := c206 (by first | decide | omega)
        have b281 := c207 (by first | decide | omega)
        have b282 := c208 (by first | decide | omega)
        refine x_const (np := 12) (x := 9223372043297226753) (a := 2147483649) (by decide +kernel) (by decide) (by decide) ?_
        refine x_goto (np := 15) (x := 16) (by decide +kernel) ?_
        refine x_retI (np := 17) (x := 0) (by decide +kernel) (by decide) (Or.inr ⟨by decide +kernel, by first | decide | omega, by first | decide | omega⟩) ⟨_, rfl, (by decide), ?_⟩
        refine x_retI (np := 13) (x := 0) (by decide +kernel) (by decide) (Or.inr ⟨by decide +kernel, by first | decide | omega, by first | decide | omega⟩) ⟨_, rfl, (by decide), ?_⟩
        refine x_ifz (k := 0) (tg := 154) (np := 100) (by decide +kernel) (by decide) (by decide) (fun q283 => ?_) (fun q284 => ?_)
        · have q283 : 2147483649 = 2147483648 := q283
          exfalso; omega
        have q284 : ¬ (2147483649 = 2147483648) := q284
        refine x_aload (np := 101) (x := 0) (by decide +kernel) rfl (x_nc_le (by decide)) ?_
        refine x_ldcB (i := 11) (idx := 173) (tx := "judged") (by rw [tb_y184]; exact List.mem_of_getElem? (i := 50) rfl) (by decide) (by rw [tb_b184]; decide +kernel) ?_
        have m289 := Tq.fr m200 f203 (by decide) (by decide)
        have m288 : Tq tB tN h215 := by rw [← e217]; exact Tq.oth m289 (by decide) (fun z => absurd z.1 (by decide))
        refine x_cI (t := 6) (mj := 172) (n := 2) (rc := 12) (ml := 2) (nr := 0) (np := 106) (as := [x_r 75, x_b (11 + 1)]) (rest := []) (lo1 := [x_r 75, x_b (11 + 1)]) (by decide +kernel) (by decide) (by decide +kernel) (x_rb_of (by decide +kernel)) rfl rfl (x_wr (by decide) (x_wB (by decide) x_wn)) x_wn (by decide) rfl (c172_75_S0 j216  (by decide) m288) (fun v285 h290 l286 q287 => ?_)
        obtain ⟨j291, f292, b293, c294, c295, c296⟩ := q287
        have f297 := Fr.trans f218 f292 (by decide)
        have q298 : h215 75 7 = h201 75 7 := by rw [← e217]; exact x_up_k (by decide)
        have b299 := jB (e := 7) 0 j291 rg_75_7_0_1 (by first | decide | omega) (by first | decide | omega)
        have q300 : h215 75 7 = h201 75 7 := by rw [← e217]; exact x_up_k (by decide)
        refine x_ifz (k := 0) (tg := 154) (np := 109) (by decide +kernel) (by decide) l286 (fun q301 => ?_) (fun q302 => ?_)
        · have q301 : v285 = 2147483648 := q301
          refine x_const (np := 155) (x := 9223372039002259456) (a := 2147483648) (by decide +kernel) (by decide) (by decide) ?_
          have b303 := jB (e := 0) 0 hJ rg_78_0_0_1 (by first | decide | omega) (by first | decide | omega)
          have q304 : h290 78 0 = h215 78 0 := jK 0 f292 rg_78_0_0_1 (by first | decide | omega) (by first | decide | omega) (by decide)
          have q305 : h215 78 0 = h201 78 0 := by rw [← e217]; exact x_up_i (by first | decide | omega)
          have q306 : h201 78 0 = h140 78 0 := jK 0 f203 rg_78_0_0_1 (by first | decide | omega) (by first | decide | omega) (by decide)
          have q307 : h140 78 0 = h86 78 0 := jK 0 f142 rg_78_0_0_1 (by first | decide | omega) (by first | decide | omega) (by decide)
          have q308 : h86 78 0 = h70 78 0 := by rw [← e88]; exact x_up_i (by first | decide | omega)
          have q309 : h70 78 0 = h38 78 0 := jK 0 f72 rg_78_0_0_1 (by first | decide | omega) (by first | decide | omega) (by decide)
          have q310 : h38 78 0 = h14 78 0 := by rw [← e40]; exact x_up_i (by first | decide | omega)
          have q311 : h14 78 0 = h 78 0 := jK 0 f16 rg_78_0_0_1 (by first | decide | omega) (by first | decide | omega) (by decide)
          have q312 : h290 78 1 = h215 78 1 := jK 0 f292 rg_78_1_0_1 (by first | decide | omega) (by first | decide | omega) (by decide)
          have q313 : h215 78 1 = h201 78 1 := by rw [← e217]; exact x_up_i (by first | decide | omega)
          have q314 : h201 78 1 = h140 78 1 := jK 0 f203 rg_78_1_0_1 (by first | decide | omega) (by first | decide | omega) (by decide)
          have q315 : h140 78 1 = h86 78 1 := jK 0 f142 rg_78_1_0_1 (by first | decide | omega) (by first | decide | omega) (by decide)
          have q316 : h86 78 1 = h70 78 1 := by rw [← e88]; exact x_up_i (by first | decide | omega)
          have q317 : h70 78 1 = h38 78 1 := jK 0 f72 rg_78_1_0_1 (by first | decide | omega) (by first | decide | omega) (by decide)
          have q318 : h38 78 1 = h14 78 1 := by rw [← e40]; exact x_up_i (by first | decide | omega)
          have q319 : h14 78 1 = h 78 1 := jK 0 f16 rg_78_1_0_1 (by first | decide | omega) (by first | decide | omega) (by decide)
          have b320 := jB (e := 2) 0 hJ rg_78_2_0_1 (by first | decide | omega) (by first | decide | omega)
          have q321 : h290 78 2 = h215 78 2 := jK 0 f292 rg_78_2_0_1 (by first | decide | omega) (by first | decide | omega) (by decide)
          have q322 : h215 78 2 = h201 78 2 := by rw [← e217]; exact x_up_i (by first | decide | omega)
          have q323 : h201 78 2 = h140 78 2 := jK 0 f203 rg_78_2_0_1 (by first | decide | omega) (by first | decide | omega) (by decide)
          have q324 : h140 78 2 = h86 78 2 := jK 0 f142 rg_78_2_0_1 (by first | decide | omega) (by first | decide | omega) (by decide)
          have q325 : h86 78 2 = h70 78 2 := by rw [← e88]; exact x_up_i (by first | decide | omega)
          have q326 : h70 78 2 = h38 78 2 := jK 0 f72 rg_78_2_0_1 (by first | decide | omega) (by first | decide | omega) (by decide)
          have q327 : h38 78 2 = h14 78 2 := by rw [← e40]; exact x_up_i (by first | decide | omega)
          have q328 : h14 78 2 = h 78 2 := jK 0 f16 rg_78_2_0_1 (by first | decide | omega) (by first | decide | omega) (by decide)
          have b329 := jB (e := 3) 0 hJ rg_78_3_0_1 (by first | decide | omega) (by first | decide | omega)
          have q330 : h290 78 3 = h215 78 3 := jK 0 f292 rg_78_3_0_1 (by first | decide | omega) (by first | decide | omega) (by decide)
          have q331 : h215 78 3 = h201 78 3 := by rw [← e217]; exact x_up_i (by first | decide | omega)
          have q332 : h201 78 3 = h140 78 3 := jK 0 f203 rg_78_3_0_1 (by first | decide | omega) (by first | decide | omega) (by decide)
          have q333 : h140 78 3 = h86 78 3 := jK 0 f142 rg_78_3_0_1 (by first | decide | omega) (by first | decide | omega) (by decide)
          have q334 : h86 78 3 = h70 78 3 := by rw [← e88]; exact x_up_i (by first | decide | omega)
          have q335 : h70 78 3 = h38 78 3 := jK 0 f72 rg_78_3_0_1 (by first | decide | omega) (by first | decide | omega) (by decide)
          have q336 : h38 78 3 = h14 78 3 := by rw [← e40]; exact x_up_i (by first | decide | omega)
          have q337 : h14 78 3 = h 78 3 := jK 0 f16 rg_78_3_0_1 (by first | decide | omega) (by first | decide | omega) (by decide)
          have q338 : h290 78 4 = h215 78 4 := jK 0 f292 rg_78_4_0_1 (by first | decide | omega) (by first | decide | omega) (by decide)
          have q339 : h215 78 4 = h201 78 4 := by rw [← e217]; exact x_up_i (by first | decide | omega)
          have q340 : h201 78 4 = h140 78 4 := jK 0 f203 rg_78_4_0_1 (by first | decide | omega) (by first | decide | omega) (by decide)
          have q341 : h140 78 4 = h86 78 4 := jK 0 f142 rg_78_4_0_1 (by first | decide | omega) (by first | decide | omega) (by decide)
          have q342 : h86 78 4 = h70 78 4 := by rw [← e88]; exact x_up_i (by first | decide | omega)
          have q343 : h70 78 4 = h38 78 4 := jK 0 f72 rg_78_4_0_1 (by first | decide | omega) (by first | decide | omega) (by decide)
          have q344 : h38 78 4 = h14 78 4 := by rw [← e40]; exact x_up_i (by first | decide | omega)
          have q345 : h14 78 4 = h 78 4 := jK 0 f16 rg_78_4_0_1 (by first | decide | omega) (by first | decide | omega) (by decide)
          have b346 := jB (e := 5) 0 hJ rg_78_5_0_1 (by first | decide | omega) (by first | decide | omega)
          have q347 : h290 78 5 = h215 78 5 := jK 0 f292 rg_78_5_0_1 (by first | decide | omega) (by first | decide | omega) (by decide)
          have q348 : h215 78 5 = h201 78 5 := by rw [← e217]; exact x_up_i (by first | decide | omega)
          have q349 : h201 78 5 = h140 78 5 := jK 0 f203 rg_78_5_0_1 (by first | decide | omega) (by first | decide | omega) (by decide)
          have q350 : h140 78 5 = h86 78 5 := jK 0 f142 rg_78_5_0_1 (by first | decide | omega) (by first | decide | omega) (by decide)
          have q351 : h86 78 5 = h70 78 5 := by rw [← e88]; exact x_up_i (by first | decide | omega)
          have q352 : h70 78 5 = h38 78 5 := jK 0 f72 rg_78_5_0_1 (by first | decide | omega) (by first | decide | omega) (by decide)
          have q353 : h38 78 5 = h14 78 5 := by rw [← e40]; exact x_up_i (by first | decide | omega)
          have q354 : h14 78 5 = h 78 5 := jK 0 f16 rg_78_5_0_1 (by first | decide | omega) (by first | decide | omega) (by decide)
          have w355 : ¬ Wd tB tN 10 (sk tB tN (h 75 7)) := by rw [← c21]; exact Wd.no (by decide) (Is.no c33 (by first | decide | omega)) c22
          have q356 : h38 75 7 = h14 75 7 := by rw [← e40]; exact x_up_k (by decide)
          have q357 : h38 75 9 = h14 75 9 := by rw [← e40]; exact x_up_k (by decide)
          have c358 : Is (Wm tB 9 (h14 75 9) (h14 75 7)) v47 := by rw [show h14 75 9 = h38 75 9 by first | decide | omega, show h14 75 7 = h38 75 7 by first | decide | omega]; exact c52
          have y359 := Is.yes c358 (by first | decide | omega)
          have w360 : Wd tB tN 9 (sk tB tN (h 75 7)) := by rw [← c21]; exact Wd.of' (by decide) y359 c22
          have e361 : sk tB tN (h14 75 7) = sk tB tN ((sk tB tN (h 75 7)) + iv_tl 9) := by rw [← c21, ← y359.1]
          have q362 : h38 75 7 = h14 75 7 := by rw [← e40]; exact x_up_k (by decide)
          have q363 : h86 75 7 = h70 75 7 := by rw [← e88]; exact x_up_k (by decide)
          obtain ⟨w364, e365⟩ := Tw.yes c146 (by first | decide | omega)
          have q366 : h215 75 7 = h201 75 7 := by rw [← e217]; exact x_up_k (by decide)
          refine x_retI (np := 156) (x := 0) (by decide +kernel) (by decide) (Or.inr ⟨by decide +kernel, by first | decide | omega, by first | decide | omega⟩) ⟨_, rfl, (by decide), ?_⟩
          exact ⟨j291, f297, (by first | decide | omega), (fun z => by first | decide | omega), (fun z => by first | decide | omega), (fun z => by first | decide | omega), (fun z => by first | decide | omega), (fun z => by first | decide | omega), (fun z => by first | decide | omega), (fun z => absurd z (by first | decide | omega)), (Or.inr ⟨by first | decide | omega, (or9.y w360 rfl e361 rfl (nm9.y c79 (by first | decide | omega) (by first | decide | omega) (congrArg (sk tB tN) (show h38 75 7 = h14 75 7 by first | decide | omega)) (by first | decide | omega) rfl (wd9.y w364 (congrArg (sk tB tN) (show h86 75 7 = h70 75 7 by first | decide | omega)) e365 rfl (nm9.y c210 (by first | decide | omega) (by first | decide | omega) rfl (by first | decide | omega) rfl (wd9.f (Tw.no c296 (by first | decide | omega)) (congrArg (sk tB tN) (show h215 75 7 = h201 75 7 by first | decide | omega)) (by first | decide | omega))))))⟩)⟩
        have q302 : ¬ (v285 = 2147483648) := q302
        have b367 := c295 (by first | decide | omega)
        refine x_aload (np := 110) (x := 0) (by decide +kernel) rfl (x_nc_le (by decide)) ?_
        refine x_iload (np := 111) (x := 1) (by decide +kernel) rfl (by first | decide | omega) ?_
        refine x_const (np := 112) (x := 9223372051887161347) (a := 2147483651) (by decide +kernel) (by decide) (by decide) ?_
        refine x_iadd (np := 113) (x := 0) (v := (2147483851 + 5 * u8)) (by decide +kernel) (by first | decide | omega) (by decide) (by first | decide | omega) (by first | decide | omega) ?_
        refine x_aload (np := 114) (x := 0) (by decide +kernel) rfl (x_nc_le (by decide)) ?_
        have q368 : h290 75 3 = 78 := by have z := jB (e := 3) 0 j291 rg_75_3_0_1 (by decide) (by decide); omega
        refine x_getR (np := 117) (x := 707) (f := 3) (q := 78) (by decide +kernel) (by decide) (by decide +kernel) q368 ?_
        refine x_iload (np := 118) (x := 1) (by decide +kernel) rfl (by first | decide | omega) ?_
        refine x_const (np := 119) (x := 9223372047592194050) (a := 2147483650) (by decide +kernel) (by decide) (by decide) ?_
        refine x_iadd (np := 120) (x := 0) (v := (2147483850 + 5 * u8)) (by decide +kernel) (by first | decide | omega) (by decide) (by first | decide | omega) (by first | decide | omega) ?_
        have q369 : h290 78 (202 + 5 * u8) = h215 78 (202 + 5 * u8) := jK u8 f292 rg_78_202_5_10 (by first | decide | omega) (by first | decide | omega) (by decide)
        have q370 : h215 78 (202 + 5 * u8) = v197 := by rw [← e217]; exact x_up_at
        refine x_aldC (np := 121) (x := 0) (n := 290) (i := (202 + 5 * u8)) (q := v197) (by decide +kernel) (by decide +kernel) (by first | decide | omega) (by first | decide | omega) (by decide) (q369.trans q370) (fun l371 => ?_)
        refine x_nI (t := 6) (mj := 178) (n := 3) (rc := 12) (ml := 3) (nr := 0) (np := 124) (as := [x_r 75, iv_c (2147483851 + 5 * u8), iv_c v197]) (rest := []) (lo1 := [x_r 75, iv_c (2147483851 + 5 * u8), iv_c v197]) (by decide +kernel) (by decide) (by decide +kernel) (x_rb_of (by decide +kernel)) rfl rfl (x_wr (by decide) (x_wi (by first | decide | omega) (x_wi l198 x_wn))) x_wn (by decide) rfl ?_
        refine x_aload (np := 1) (x := 0) (by decide +kernel) rfl (x_nc_le (by decide)) ?_
        refine x_iload (np := 2) (x := 1) (by decide +kernel) rfl (by first | decide | omega) ?_
        refine x_aload (np := 3) (x := 0) (by decide +kernel) rfl (x_nc_le (by decide)) ?_
        refine x_iload (np := 4) (x := 2) (by decide +kernel) rfl l198 ?_
        refine x_const (np := 6) (x := 9223372086246899723) (a := 2147483659) (by decide +kernel) (by decide) (by decide) ?_
        have m375 := Tq.fr m288 f292 (by decide) (by decide)
        refine x_cI (t := 6) (mj := 174) (n := 3) (rc := 12) (ml := 4) (nr := 2) (np := 9) (as := [x_r 75, iv_c v197, iv_c 2147483659]) (rest := [iv_c (2147483851 + 5 * u8), x_r 75]) (lo1 := [x_r 75, iv_c v197, iv_c 2147483659, 147573952589676412928]) (by decide +kernel) (by decide) (by decide +kernel) (x_rb_of (by decide +kernel)) rfl rfl (x_wr (by decide) (x_wi l198 (x_wi (by decide) x_wn))) (x_wi (by first | decide | omega) (x_wr (by decide) x_wn)) (by decide) rfl (c174_75 j291  (by first | decide | omega) (by first | decide | omega) m375) (fun v372 h376 l373 q374 => ?_)
        obtain ⟨j377, f378, b379, c380, c381, c382, c383, c384, c385⟩ := q374
        have f386 := Fr.trans f297 f378 (by decide)
        have b387 := jB (e := 7) 0 j377 rg_75_7_0_1 (by first | decide | omega) (by first | decide | omega)
        have b388 := c384 (by first | decide | omega)
        refine x_nI (t := 6) (mj := 176) (n := 3) (rc := 12) (ml := 3) (nr := 0) (np := 12) (as := [x_r 75, iv_c (2147483851 + 5 * u8), iv_c v372]) (rest := []) (lo1 := [x_r 75, iv_c (2147483851 + 5 * u8), iv_c v372]) (by decide +kernel) (by decide) (by decide +kernel) (x_rb_of (by decide +kernel)) rfl rfl (x_wr (by decide) (x_wi (by first | decide | omega) (x_wi l373 x_wn))) x_wn (by decide) rfl ?_
        refine x_aload (np := 1) (x := 0) (by decide +kernel) rfl (x_nc_le (by decide)) ?_
        have q389 : h376 75 3 = 78 := by have z := jB (e := 3) 0 j377 rg_75_3_0_1 (by decide) (by decide); omega
        refine x_getR (np := 4) (x := 707) (f := 3) (q := 78) (by decide +kernel) (by decide) (by decide +kernel) q389 ?_
        refine x_iload (np := 5) (x := 1) (by decide +kernel) rfl (by first | decide | omega) ?_
        refine x_iload (np := 6) (x := 2) (by decide +kernel) rfl l373 ?_
        refine x_ast (np := 7) (x := 0) (kd := 1) (n := 290) (i := (203 + 5 * u8)) (by decide +kernel) (Or.inl rfl) (by decide +kernel) (by first | decide | omega) (by first | decide | omega) (by decide) l373 (fun z => absurd z (by decide)) ?_
        have j391 := jU (e := (203 + 5 * u8)) (v := v372) u8 j377 rg_78_203_5_10 (by first | decide | omega) (by first | decide | omega) (by first | decide | omega)
        have f393 := jF (e := (203 + 5 * u8)) (v := v372) u8 f386 rg_78_203_5_10 (by first | decide | omega) (by first | decide | omega) (by decide)
        generalize e392 : x_up h376 78 (203 + 5 * u8) v372 = h390 at j391 f393 ⊢
        refine x_iload (np := 8) (x := 2) (by decide +kernel) rfl l373 ?_
        refine x_ifz (k := 2) (tg := 15) (np := 11) (by decide +kernel) (by decide) l373 (fun q394 => ?_) (fun q395 => ?_)
        · have q394 : v372 < 2147483648 := q394
          refine x_const (np := 16) (x := 9223372039002259456) (a := 2147483648) (by decide +kernel) (by decide) (by decide) ?_
          refine x_retI (np := 17) (x := 0) (by decide +kernel) (by decide) (Or.inr ⟨by decide +kernel, by first | decide | omega, by first | decide | omega⟩) ⟨_, rfl, (by decide), ?_⟩
          refine x_retI (np := 13) (x := 0) (by decide +kernel) (by decide) (Or.inr ⟨by decide +kernel, by first | decide | omega, by first | decide | omega⟩) ⟨_, rfl, (by decide), ?_⟩
          refine x_ifz (k := 0) (tg := 154) (np := 127) (by decide +kernel) (by decide) (by decide) (fun q396 => ?_) (fun q397 => ?_)
          · have q396 : 2147483648 = 2147483648 := q396
            refine x_const (np := 155) (x := 9223372039002259456) (a := 2147483648) (by decide +kernel) (by decide) (by decide) ?_
            have b398 := jB (e := 0) 0 hJ rg_78_0_0_1 (by first | decide | omega) (by first | decide | omega)
            have q399 : h390 78 0 = h376 78 0 := by rw [← e392]; exact x_up_i (by first | decide | omega)
            have q400 : h376 78 0 = h290 78 0 := jK 0 f378 rg_78_0_0_1 (by first | decide | omega) (by first | decide | omega) (by decide)
            have q401 : h290 78 0 = h215 78 0 := jK 0 f292 rg_78_0_0_1 (by first | decide | omega) (by first | decide | omega) (by decide)
            have q402 : h215 78 0 = h201 78 0 := by rw [← e217]; exact x_up_i (by first | decide | omega)
            have q403 : h201 78 0 = h140 78 0 := jK 0 f203 rg_78_0_0_1 (by first | decide | omega) (by first | decide | omega) (by decide)
            have q404 : h140 78 0 = h86 78 0 := jK 0 f142 rg_78_0_0_1 (by first | decide | omega) (by first | decide | omega) (by decide)
            have q405 : h86 78 0 = h70 78 0 := by rw [← e88]; exact x_up_i (by first | decide | omega)
            have q406 : h70 78 0 = h38 78 0 := jK 0 f72 rg_78_0_0_1 (by first | decide | omega) (by first | decide | omega) (by decide)
            have q407 : h38 78 0 = h14 78 0 := by rw [← e40]; exact x_up_i (by first | decide | omega)
            have q408 : h14 78 0 = h 78 0 := jK 0 f16 rg_78_0_0_1 (by first | decide | omega) (by first | decide | omega) (by decide)
            have q409 : h390 78 1 = h376 78 1 := by rw [← e392]; exact x_up_i (by first | decide | omega)
            have q410 : h376 78 1 = h290 78 1 := jK 0 f378 rg_78_1_0_1 (by first | decide | omega) (by first | decide | omega) (by decide)
            have q411 : h290 78 1 = h215 78 1 := jK 0 f292 rg_78_1_0_1 (by first | decide | omega) (by first | decide | omega) (by decide)
            have q412 : h215 78 1 = h201 78 1 := by rw [← e217]; exact x_up_i (by first | decide | omega)
            have q413 : h201 78 1 = h140 78 1 := jK 0 f203 rg_78_1_0_1 (by first | decide | omega) (by first | decide | omega) (by decide)
            have q414 : h140 78 1 = h86 78 1 := jK 0 f142 rg_78_1_0_1 (by first | decide | omega) (by first | decide | omega) (by decide)
            have q415 : h86 78 1 = h70 78 1 := by rw [← e88]; exact x_up_i (by first | decide | omega)
            have q416 : h70 78 1 = h38 78 1 := jK 0 f72 rg_78_1_0_1 (by first | decide | omega) (by first | decide | omega) (by decide)
            have q417 : h38 78 1 = h14 78 1 := by rw [← e40]; exact x_up_i (by first | decide | omega)
            have q418 : h14 78 1 = h 78 1 := jK 0 f16 rg_78_1_0_1 (by first | decide | omega) (by first | decide | omega) (by decide)
            have b419 := jB (e := 2) 0 hJ rg_78_2_0_1 (by first | decide | omega) (by first | decide | omega)
            have q420 : h390 78 2 = h376 78 2 := by rw [← e392]; exact x_up_i (by first | decide | omega)
            have q421 : h376 78 2 = h290 78 2 := jK 0 f378 rg_78_2_0_1 (by first | decide | omega) (by first | decide | omega) (by decide)
            have q422 : h290 78 2 = h215 78 2 := jK 0 f292 rg_78_2_0_1 (by first | decide | omega) (by first | decide | omega) (by decide)
            have q423 : h215 78 2 = h201 78 2 := by rw [← e217]; exact x_up_i (by first | decide | omega)
            have q424 : h201 78 2 = h140 78 2 := jK 0 f203 rg_78_2_0_1 (by first | decide | omega) (by first | decide | omega) (by decide)
            have q425 : h140 78 2 = h86 78 2 := jK 0 f142 rg_78_2_0_1 (by first | decide | omega) (by first | decide | omega) (by decide)
            have q426 : h86 78 2 = h70 78 2 := by rw [← e88]; exact x_up_i (by first | decide | omega)
            have q427 : h70 78 2 = h38 78 2 := jK 0 f72 rg_78_2_0_1 (by first | decide | omega) (by first | decide | omega) (by decide)
            have q428 : h38 78 2 = h14 78 2 := by rw [← e40]; exact x_up_i (by first | decide | omega)
            have q429 : h14 78 2 = h 78 2 := jK 0 f16 rg_78_2_0_1 (by first | decide | omega) (by first | decide | omega) (by decide)
            have b430 := jB (e := 3) 0 hJ rg_78_3_0_1 (by first | decide | omega) (by first | decide | omega)
            have q431 : h390 78 3 = h376 78 3 := by rw [← e392]; exact x_up_i (by first | decide | omega)
            have q432 : h376 78 3 = h290 78 3 := jK 0 f378 rg_78_3_0_1 (by first | decide | omega) (by first | decide | omega) (by decide)
            have q433 : h290 78 3 = h215 78 3 := jK 0 f292 rg_78_3_0_1 (by first | decide | omega) (by first | decide | omega) (by decide)
            have q434 : h215 78 3 = h201 78 3 := by rw [← e217]; exact x_up_i (by first | decide | omega)
            have q435 : h201 78 3 = h140 78 3 := jK 0 f203 rg_78_3_0_1 (by first | decide | omega) (by first | decide | omega) (by decide)
            have q436 : h140 78 3 = h86 78 3 := jK 0 f142 rg_78_3_0_1 (by first | decide | omega) (by first | decide | omega) (by decide)
            have q437 : h86 78 3 = h70 78 3 := by rw [← e88]; exact x_up_i (by first | decide | omega)
            have q438 : h70 78 3 = h38 78 3 := jK 0 f72 rg_78_3_0_1 (by first | decide | omega) (by first | decide | omega) (by decide)
            have q439 : h38 78 3 = h14 78 3 := by rw [← e40]; exact x_up_i (by first | decide | omega)
            have q440 : h14 78 3 = h 78 3 := jK 0 f16 rg_78_3_0_1 (by first | decide | omega) (by first | decide | omega) (by decide)
            have q441 : h390 78 4 = h376 78 4 := by rw [← e392]; exact x_up_i (by first | decide | omega)
            have q442 : h376 78 4 = h290 78 4 := jK 0 f378 rg_78_4_0_1 (by first | decide | omega) (by first | decide | omega) (by decide)
            have q443 : h290 78 4 = h215 78 4 := jK 0 f292 rg_78_4_0_1 (by first | decide | omega) (by first | decide | omega) (by decide)
            have q444 : h215 78 4 = h201 78 4 := by rw [← e217]; exact x_up_i (by first | decide | omega)
            have q445 : h201 78 4 = h140 78 4 := jK 0 f203 rg_78_4_0_1 (by first | decide | omega) (by first | decide | omega) (by decide)
            have q446 : h140 78 4 = h86 78 4 := jK 0 f142 rg_78_4_0_1 (by first | decide | omega) (by first | decide | omega) (by decide)
            have q447 : h86 78 4 = h70 78 4 := by rw [← e88]; exact x_up_i (by first | decide | omega)
            have q448 : h70 78 4 = h38 78 4 := jK 0 f72 rg_78_4_0_1 (by first | decide | omega) (by first | decide | omega) (by decide)
            have q449 : h38 78 4 = h14 78 4 := by rw [← e40]; exact x_up_i (by first | decide | omega)
            have q450 : h14 78 4 = h 78 4 := jK 0 f16 rg_78_4_0_1 (by first | decide | omega) (by first | decide | omega) (by decide)
            have b451 := jB (e := 5) 0 hJ rg_78_5_0_1 (by first | decide | omega) (by first | decide | omega)
            have q452 : h390 78 5 = h376 78 5 := by rw [← e392]; exact x_up_i (by first | decide | omega)
            have q453 : h376 78 5 = h290 78 5 := jK 0 f378 rg_78_5_0_1 (by first | decide | omega) (by first | decide | omega) (by decide)
            have q454 : h290 78 5 = h215 78 5 := jK 0 f292 rg_78_5_0_1 (by first | decide | omega) (by first | decide | omega) (by decide)
            have q455 : h215 78 5 = h201 78 5 := by rw [← e217]; exact x_up_i (by first | decide | omega)
            have q456 : h201 78 5 = h140 78 5 := jK 0 f203 rg_78_5_0_1 (by first | decide | omega) (by first | decide | omega) (by decide)
            have q457 : h140 78 5 = h86 78 5 := jK 0 f142 rg_78_5_0_1 (by first | decide | omega) (by first | decide | omega) (by decide)
            have q458 : h86 78 5 = h70 78 5 := by rw [← e88]; exact x_up_i (by first | decide | omega)
            have q459 : h70 78 5 = h38 78 5 := jK 0 f72 rg_78_5_0_1 (by first | decide | omega) (by first | decide | omega) (by decide)
            have q460 : h38 78 5 = h14 78 5 := by rw [← e40]; exact x_up_i (by first | decide | omega)
            have q461 : h14 78 5 = h 78 5 := jK 0 f16 rg_78_5_0_1 (by first | decide | omega) (by first | decide | omega) (by decide)
            have w462 : ¬ Wd tB tN 10 (sk tB tN (h 75 7)) := by rw [← c21]; exact Wd.no (by decide) (Is.no c33 (by first | decide | omega)) c22
            have q463 : h38 75 7 = h14 75 7 := by rw [← e40]; exact x_up_k (by decide)
            have q464 : h38 75 9 = h14 75 9 := by rw [← e40]; exact x_up_k (by decide)
            have c465 : Is (Wm tB 9 (h14 75 9) (h14 75 7)) v47 := by rw [show h14 75 9 = h38 75 9 by first | decide | omega, show h14 75 7 = h38 75 7 by first | decide | omega]; exact c52
            have y466 := Is.yes c465 (by first | decide | omega)
            have w467 : Wd tB tN 9 (sk tB tN (h 75 7)) := by rw [← c21]; exact Wd.of' (by decide) y466 c22
            have e468 : sk tB tN (h14 75 7) = sk tB tN ((sk tB tN (h 75 7)) + iv_tl 9) := by rw [← c21, ← y466.1]
            have q469 : h38 75 7 = h14 75 7 := by rw [← e40]; exact x_up_k (by decide)
            have q470 : h86 75 7 = h70 75 7 := by rw [← e88]; exact x_up_k (by decide)
            obtain ⟨w471, e472⟩ := Tw.yes c146 (by first | decide | omega)
            have q473 : h215 75 7 = h201 75 7 := by rw [← e217]; exact x_up_k (by decide)
            obtain ⟨w474, e475⟩ := Tw.yes c296 (by first | decide | omega)
            refine x_retI (np := 156) (x := 0) (by decide +kernel) (by decide) (Or.inr ⟨by decide +kernel, by first | decide | omega, by first | decide | omega⟩) ⟨_, rfl, (by decide), ?_⟩
            exact ⟨j391, f393, (by first | decide | omega), (fun z => by first | decide | omega), (fun z => by first | decide | omega), (fun z => by first | decide | omega), (fun z => by first | decide | omega), (fun z => by first | decide | omega), (fun z => by first | decide | omega), (fun z => absurd z (by first | decide | omega)), (Or.inr ⟨by first | decide | omega, (or9.y w467 rfl e468 rfl (nm9.y c79 (by first | decide | omega) (by first | decide | omega) (congrArg (sk tB tN) (show h38 75 7 = h14 75 7 by first | decide | omega)) (by first | decide | omega) rfl (wd9.y w471 (congrArg (sk tB tN) (show h86 75 7 = h70 75 7 by first | decide | omega)) e472 rfl (nm9.y c210 (by first | decide | omega) (by first | decide | omega) rfl (by first | decide | omega) rfl (wd9.y w474 (congrArg (sk tB tN) (show h215 75 7 = h201 75 7 by first | decide | omega)) e475 rfl (nm9.f c385 (by first | decide | omega) (by first | decide | omega) rfl (by first | decide | omega) (by first | decide | omega)))))))⟩)⟩
          have q397 : ¬ (2147483648 = 2147483648) := q397
          exfalso; omega
        have q395 : ¬ (v372 < 2147483648) := q395
        have b476 := c381 (by first | decide | omega)
        have b477 := c382 (by first | decide | omega)
        have b478 := c383 (by first | decide | omega)
        refine x_const (np := 12) (x := 9223372043297226753) (a := 2147483649) (by decide +kernel) (by decide) (by decide) ?_
        refine x_goto (np := 15) (x := 16) (by decide +kernel) ?_
        refine x_retI (np := 17) (x := 0) (by decide +kernel) (by decide) (Or.inr ⟨by decide +kernel, by first | decide | omega, by first | decide | omega⟩) ⟨_, rfl, (by decide), ?_⟩
        refine x_retI (np := 13) (x := 0) (by decide +kernel) (by decide) (Or.inr ⟨by decide +kernel, by first | decide | omega, by first | decide | omega⟩) ⟨_, rfl, (by decide), ?_⟩
        refine x_ifz (k := 0) (tg := 154) (np := 127) (by decide +kernel) (by decide) (by decide) (fun q479 => ?_) (fun q480 => ?_)
        · have q479 : 2147483649 = 2147483648 := q479
          exfalso; omega
        have q480 : ¬ (2147483649 = 2147483648) := q480
        refine x_aload (np := 128) (x := 0) (by decide +kernel) rfl (x_nc_le (by decide)) ?_
        refine x_ldcB (i := 12) (idx := 175) (tx := "of") (by rw [tb_y184]; exact List.mem_of_getElem? (i := 51) rfl) (by decide) (by rw [tb_b184]; decide +kernel) ?_
        have m485 := Tq.fr m375 f378 (by decide) (by decide)
        have m484 : Tq tB tN h390 := by rw [← e392]; exact Tq.oth m485 (by decide) (fun z => absurd z.1 (by decide))
        refine x_cI (t := 6) (mj := 172) (n := 2) (rc := 12) (ml := 2) (nr := 0) (np := 133) (as := [x_r 75, x_b (12 + 1)]) (rest := []) (lo1 := [x_r 75, x_b (12 + 1)]) (by decide +kernel) (by decide) (by decide +kernel) (x_rb_of (by decide +kernel)) rfl rfl (x_wr (by decide) (x_wB (by decide) x_wn)) x_wn (by decide) rfl (c172_75_S0 j391  (by decide) m484) (fun v481 h486 l482 q483 => ?_)
        obtain ⟨j487, f488, b489, c490, c491, c492⟩ := q483
        have f493 := Fr.trans f393 f488 (by decide)
        have q494 : h390 75 7 = h376 75 7 := by rw [← e392]; exact x_up_k (by decide)
        have b495 := jB (e := 7) 0 j487 rg_75_7_0_1 (by first | decide | omega) (by first | decide | omega)
        have q496 : h390 75 7 = h376 75 7 := by rw [← e392]; exact x_up_k (by decide)
        refine x_ifz (k := 0) (tg := 154) (np := 136) (by decide +kernel) (by decide) l482 (fun q497 => ?_) (fun q498 => ?_)
        · have q497 : v481 = 2147483648 := q497
          refine x_const (np := 155) (x := 9223372039002259456) (a := 2147483648) (by decide +kernel) (by decide) (by decide) ?_
          have b499 := jB (e := 0) 0 hJ rg_78_0_0_1 (by first | decide | omega) (by first | decide | omega)
          have q500 : h486 78 0 = h390 78 0 := jK 0 f488 rg_78_0_0_1 (by first | decide | omega) (by first | decide | omega) (by decide)
          have q501 : h390 78 0 = h376 78 0 := by rw [← e392]; exact x_up_i (by first | decide | omega)
          have q502 : h376 78 0 = h290 78 0 := jK 0 f378 rg_78_0_0_1 (by first | decide | omega) (by first | decide | omega) (by decide)
          have q503 : h290 78 0 = h215 78 0 := jK 0 f292 rg_78_0_0_1 (by first | decide | omega) (by first | decide | omega) (by decide)
          have q504 : h215 78 0 = h201 78 0 := by rw [← e217]; exact x_up_i (by first | decide | omega)
          have q505 : h201 78 0 = h140 78 0 := jK 0 f203 rg_78_0_0_1 (by first | decide | omega) (by first | decide | omega) (by decide)
          have q506 : h140 78 0 = h86 78 0 := jK 0 f142 rg_78_0_0_1 (by first | decide | omega) (by first | decide | omega) (by decide)
          have q507 : h86 78 0 = h70 78 0 := by rw [← e88]; exact x_up_i (by first | decide | omega)
          have q508 : h70 78 0 = h38 78 0 := jK 0 f72 rg_78_0_0_1 (by first | decide | omega) (by first | decide | omega) (by decide)
          have q509 : h38 78 0 = h14 78 0 := by rw [← e40]; exact x_up_i (by first | decide | omega)
          have q510 : h14 78 0 = h 78 0 := jK 0 f16 rg_78_0_0_1 (by first | decide | omega) (by first | decide | omega) (by decide)
          have q511 : h486 78 1 = h390 78 1 := jK 0 f488 rg_78_1_0_1 (by first | decide | omega) (by first | decide | omega) (by decide)
          have q512 : h390 78 1 = h376 78 1 := by rw [← e392]; exact x_up_i (by first | decide | omega)
          have q513 : h376 78 1 = h290 78 1 := jK 0 f378 rg_78_1_0_1 (by first | decide | omega) (by first | decide | omega) (by decide)
          have q514 : h290 78 1 = h215 78 1 := jK 0 f292 rg_78_1_0_1 (by first | decide | omega) (by first | decide | omega) (by decide)
          have q515 : h215 78 1 = h201 78 1 := by rw [← e217]; exact x_up_i (by first | decide | omega)
          have q516 : h201 78 1 = h140 78 1 := jK 0 f203 rg_78_1_0_1 (by first | decide | omega) (by first | decide | omega) (by decide)
          have q517 : h140 78 1 = h86 78 1 := jK 0 f142 rg_78_1_0_1 (by first | decide | omega) (by first | decide | omega) (by decide)
          have q518 : h86 78 1 = h70 78 1 := by rw [← e88]; exact x_up_i (by first | decide | omega)
          have q519 : h70 78 1 = h38 78 1 := jK 0 f72 rg_78_1_0_1 (by first | decide | omega) (by first | decide | omega) (by decide)
          have q520 : h38 78 1 = h14 78 1 := by rw [← e40]; exact x_up_i (by first | decide | omega)
          have q521 : h14 78 1 = h 78 1 := jK 0 f16 rg_78_1_0_1 (by first | decide | omega) (by first | decide | omega) (by decide)
          have b522 := jB (e := 2) 0 hJ rg_78_2_0_1 (by first | decide | omega) (by first | decide | omega)
          have q523 : h486 78 2 = h390 78 2 := jK 0 f488 rg_78_2_0_1 (by first | decide | omega) (by first | decide | omega) (by decide)
          have q524 : h390 78 2 = h376 78 2 := by rw [← e392]; exact x_up_i (by first | decide | omega)
          have q525 : h376 78 2 = h290 78 2 := jK 0 f378 rg_78_2_0_1 (by first | decide | omega) (by first | decide | omega) (by decide)
          have q526 : h290 78 2 = h215 78 2 := jK 0 f292 rg_78_2_0_1 (by first | decide | omega) (by first | decide | omega) (by decide)
          have q527 : h215 78 2 = h201 78 2 := by rw [← e217]; exact x_up_i (by first | decide | omega)
          have q528 : h201 78 2 = h140 78 2 := jK 0 f203 rg_78_2_0_1 (by first | decide | omega) (by first | decide | omega) (by decide)
          have q529 : h140 78 2 = h86 78 2 := jK 0 f142 rg_78_2_0_1 (by first | decide | omega) (by first | decide | omega) (by decide)
          have q530 : h86 78 2 = h70 78 2 := by rw [← e88]; exact x_up_i (by first | decide | omega)
          have q531 : h70 78 2 = h38 78 2 := jK 0 f72 rg_78_2_0_1 (by first | decide | omega) (by first | decide | omega) (by decide)
          have q532 : h38 78 2 = h14 78 2 := by rw [← e40]; exact x_up_i (by first | decide | omega)
          have q533 : h14 78 2 = h 78 2 := jK 0 f16 rg_78_2_0_1 (by first | decide | omega) (by first | decide | omega) (by decide)
          have b534 := jB (e := 3) 0 hJ rg_78_3_0_1 (by first | decide | omega) (by first | decide | omega)
          have q535 : h486 78 3 = h390 78 3 := jK 0 f488 rg_78_3_0_1 (by first | decide | omega) (by first | decide | omega) (by decide)
          have q536 : h390 78 3 = h376 78 3 := by rw [← e392]; exact x_up_i (by first | decide | omega)
          have q537 : h376 78 3 = h290 78 3 := jK 0 f378 rg_78_3_0_1 (by first | decide | omega) (by first | decide | omega) (by decide)
          have q538 : h290 78 3 = h215 78 3 := jK 0 f292 rg_78_3_0_1 (by first | decide | omega) (by first | decide | omega) (by decide)
          have q539 : h215 78 3 = h201 78 3 := by rw [← e217]; exact x_up_i (by first | decide | omega)
          have q540 : h201 78 3 = h140 78 3 := jK 0 f203 rg_78_3_0_1 (by first | decide | omega) (by first | decide | omega) (by decide)
          have q541 : h140 78 3 = h86 78 3 := jK 0 f142 rg_78_3_0_1 (by first | decide | omega) (by first | decide | omega) (by decide)
          have q542 : h86 78 3 = h70 78 3 := by rw [← e88]; exact x_up_i (by first | decide | omega)
          have q543 : h70 78 3 = h38 78 3 := jK 0 f72 rg_78_3_0_1 (by first | decide | omega) (by first | decide | omega) (by decide)
          have q544 : h38 78 3 = h14 78 3 := by rw [← e40]; exact x_up_i (by first | decide | omega)
          have q545 : h14 78 3 = h 78 3 := jK 0 f16 rg_78_3_0_1 (by first | decide | omega) (by first | decide | omega) (by decide)
          have q546 : h486 78 4 = h390 78 4 := jK 0 f488 rg_78_4_0_1 (by first | decide | omega) (by first | decide | omega) (by decide)
          have q547 : h390 78 4 = h376 78 4 := by rw [← e392]; exact x_up_i (by first | decide | omega)
          have q548 : h376 78 4 = h290 78 4 := jK 0 f378 rg_78_4_0_1 (by first | decide | omega) (by first | decide | omega) (by decide)
          have q549 : h290 78 4 = h215 78 4 := jK 0 f292 rg_78_4_0_1 (by first | decide | omega) (by first | decide | omega) (by decide)
          have q550 : h215 78 4 = h201 78 4 := by rw [← e217]; exact x_up_i (by first | decide | omega)
          have q551 : h201 78 4 = h140 78 4 := jK 0 f203 rg_78_4_0_1 (by first | decide | omega) (by first | decide | omega) (by decide)
          have q552 : h140 78 4 = h86 78 4 := jK 0 f142 rg_78_4_0_1 (by first | decide | omega) (by first | decide | omega) (by decide)
          have q553 : h86 78 4 = h70 78 4 := by rw [← e88]; exact x_up_i (by first | decide | omega)
          have q554 : h70 78 4 = h38 78 4 := jK 0 f72 rg_78_4_0_1 (by first | decide | omega) (by first | decide | omega) (by decide)
          have q555 : h38 78 4 = h14 78 4 := by rw [← e40]; exact x_up_i (by first | decide | omega)
          have q556 : h14 78 4 = h 78 4 := jK 0 f16 rg_78_4_0_1 (by first | decide | omega) (by first | decide | omega) (by decide)
          have b557 := jB (e := 5) 0 hJ rg_78_5_0_1 (by first | decide | omega) (by first | decide | omega)
          have q558 : h486 78 5 = h390 78 5 := jK 0 f488 rg_78_5_0_1 (by first | decide | omega) (by first | decide | omega) (by decide)
          have q559 : h390 78 5 = h376 78 5 := by rw [← e392]; exact x_up_i (by first | decide | omega)
          have q560 : h376 78 5 = h290 78 5 := jK 0 f378 rg_78_5_0_1 (by first | decide | omega) (by first | decide | omega) (by decide)
          have q561 : h290 78 5 = h215 78 5 := jK 0 f292 rg_78_5_0_1 (by first | decide | omega) (by first | decide | omega) (by decide)
          have q562 : h215 78 5 = h201 78 5 := by rw [← e217]; exact x_up_i (by first | decide | omega)
          have q563 : h201 78 5 = h140 78 5 := jK 0 f203 rg_78_5_0_1 (by first | decide | omega) (by first | decide | omega) (by decide)
          have q564 : h140 78 5 = h86 78 5 := jK 0 f142 rg_78_5_0_1 (by first | decide | omega) (by first | decide | omega) (by decide)
          have q565 : h86 78 5 = h70 78 5 := by rw [← e88]; exact x_up_i (by first | decide | omega)
          have q566 : h70 78 5 = h38 78 5 := jK 0 f72 rg_78_5_0_1 (by first | decide | omega) (by first | decide | omega) (by decide)
          have q567 : h38 78 5 = h14 78 5 := by rw [← e40]; exact x_up_i (by first | decide | omega)
          have q568 : h14 78 5 = h 78 5 := jK 0 f16 rg_78_5_0_1 (by first | decide | omega) (by first | decide | omega) (by decide)
          have w569 : ¬ Wd tB tN 10 (sk tB tN (h 75 7)) := by rw [← c21]; exact Wd.no (by decide) (Is.no c33 (by first | decide | omega)) c22
          have q570 : h38 75 7 = h14 75 7 := by rw [← e40]; exact x_up_k (by decide)
          have q571 : h38 75 9 = h14 75 9 := by rw [← e40]; exact x_up_k (by decide)
          have c572 : Is (Wm tB 9 (h14 75 9) (h14 75 7)) v47 := by rw [show h14 75 9 = h38 75 9 by first | decide | omega, show h14 75 7 = h38 75 7 by first | decide | omega]; exact c52
          have y573 := Is.yes c572 (by first | decide | omega)
          have w574 : Wd tB tN 9 (sk tB tN (h 75 7)) := by rw [← c21]; exact Wd.of' (by decide) y573 c22
          have e575 : sk tB tN (h14 75 7) = sk tB tN ((sk tB tN (h 75 7)) + iv_tl 9) := by rw [← c21, ← y573.1]
          have q576 : h38 75 7 = h14 75 7 := by rw [← e40]; exact x_up_k (by decide)
          have q577 : h86 75 7 = h70 75 7 := by rw [← e88]; exact x_up_k (by decide)
          obtain ⟨w578, e579⟩ := Tw.yes c146 (by first | decide | omega)
          have q580 : h215 75 7 = h201 75 7 := by rw [← e217]; exact x_up_k (by decide)
          obtain ⟨w581, e582⟩ := Tw.yes c296 (by first | decide | omega)
          have q583 : h390 75 7 = h376 75 7 := by rw [← e392]; exact x_up_k (by decide)
          refine x_retI (np := 156) (x := 0) (by decide +kernel) (by decide) (Or.inr ⟨by decide +kernel, by first | decide | omega, by first | decide | omega⟩) ⟨_, rfl, (by decide), ?_⟩
          exact ⟨j487, f493, (by first | decide | omega), (fun z => by first | decide | omega), (fun z => by first | decide | omega), (fun z => by first | decide | omega), (fun z => by first | decide | omega), (fun z => by first | decide | omega), (fun z => by first | decide | omega), (fun z => absurd z (by first | decide | omega)), (Or.inr ⟨by first | decide | omega, (or9.y w574 rfl e575 rfl (nm9.y c79 (by first | decide | omega) (by first | decide | omega) (congrArg (sk tB tN) (show h38 75 7 = h14 75 7 by first | decide | omega)) (by first | decide | omega) rfl (wd9.y w578 (congrArg (sk tB tN) (show h86 75 7 = h70 75 7 by first | decide | omega)) e579 rfl (nm9.y c210 (by first | decide | omega) (by first | decide | omega) rfl (by first | decide | omega) rfl (wd9.y w581 (congrArg (sk tB tN) (show h215 75 7 = h201 75 7 by first | decide | omega)) e582 rfl (nm9.y c385 (by first | decide | omega) (by first | decide | omega) rfl (by first | decide | omega) rfl (wd9.f (Tw.no c492 (by first | decide | omega)) (congrArg (sk tB tN) (show h390 75 7 = h376 75 7 by first | decide | omega)) (by first | decide | omega))))))))⟩)⟩
        have q498 : ¬ (v481 = 2147483648) := q498
        have b584 := c491 (by first | decide | omega)
        refine x_aload (np := 137) (x := 0) (by decide +kernel) rfl (x_nc_le (by decide)) ?_
        refine x_iload (np := 138) (x := 1) (by decide +kernel) rfl (by first | decide | omega) ?_
        refine x_const (np := 139) (x := 9223372056182128644) (a := 2147483652) (by decide +kernel) (by decide) (by decide) ?_
        refine x_iadd (np := 140) (x := 0) (v := (2147483852 + 5 * u8)) (by decide +kernel) (by first | decide | omega) (by decide) (by first | decide | omega) (by first | decide | omega) ?_
        refine x_aload (np := 141) (x := 0) (by decide +kernel) rfl (x_nc_le (by decide)) ?_
        refine x_const (np := 142) (x := 9223372039002259456) (a := 2147483648) (by decide +kernel) (by decide) (by decide) ?_
        refine x_const (np := 145) (x := 9223376329674589159) (a := 2147484647) (by decide +kernel) (by decide) (by decide) ?_
        have m588 := Tq.fr m484 f488 (by decide) (by decide)
        refine x_cI (t := 6) (mj := 174) (n := 3) (rc := 12) (ml := 4) (nr := 2) (np := 148) (as := [x_r 75, iv_c 2147483648, iv_c 2147484647]) (rest := [iv_c (2147483852 + 5 * u8), x_r 75]) (lo1 := [x_r 75, iv_c 2147483648, iv_c 2147484647, 147573952589676412928]) (by decide +kernel) (by decide) (by decide +kernel) (x_rb_of (by decide +kernel)) rfl rfl (x_wr (by decide) (x_wi (by decide) (x_wi (by decide) x_wn))) (x_wi (by first | decide | omega) (x_wr (by decide) x_wn)) (by decide) rfl (c174_75 j487  (by first | decide | omega) (by first | decide | omega) m588) (fun v585 h589 l586 q587 => ?_)
        obtain ⟨j590, f591, b592, c593, c594, c595, c596, c597, c598⟩ := q587
        have f599 := Fr.trans f493 f591 (by decide)
        have b600 := jB (e := 7) 0 j590 rg_75_7_0_1 (by first | decide | omega) (by first | decide | omega)
        have b601 := c597 (by first | decide | omega)
        refine x_nI (t := 6) (mj := 176) (n := 3) (rc := 12) (ml := 3) (nr := 0) (np := 151) (as := [x_r 75, iv_c (2147483852 + 5 * u8), iv_c v585]) (rest := []) (lo1 := [x_r 75, iv_c (2147483852 + 5 * u8), iv_c v585]) (by decide +kernel) (by decide) (by decide +kernel) (x_rb_of (by decide +kernel)) rfl rfl (x_wr (by decide) (x_wi (by first | decide | omega) (x_wi l586 x_wn))) x_wn (by decide) rfl ?_
        refine x_aload (np := 1) (x := 0) (by decide +kernel) rfl (x_nc_le (by decide)) ?_
        have q602 : h589 75 3 = 78 := by have z := jB (e := 3) 0 j590 rg_75_3_0_1 (by decide) (by decide); omega
        refine x_getR (np := 4) (x := 707) (f := 3) (q := 78) (by decide +kernel) (by decide) (by decide +kernel) q602 ?_
        refine x_iload (np := 5) (x := 1) (by decide +kernel) rfl (by first | decide | omega) ?_
        refine x_iload (np := 6) (x := 2) (by decide +kernel) rfl l586 ?_
        refine x_ast (np := 7) (x := 0) (kd := 1) (n := 290) (i := (204 + 5 * u8)) (by decide +kernel) (Or.inl rfl) (by decide +kernel) (by first | decide | omega) (by first | decide | omega) (by decide) l586 (fun z => absurd z (by decide)) ?_
        have j604 := jU (e := (204 + 5 * u8)) (v := v585) u8 j590 rg_78_204_5_10 (by first | decide | omega) (by first | decide | omega) (by first | decide | omega)
        have f606 := jF (e := (204 + 5 * u8)) (v := v585) u8 f599 rg_78_204_5_10 (by first | decide | omega) (by first | decide | omega) (by decide)
        generalize e605 : x_up h589 78 (204 + 5 * u8) v585 = h603 at j604 f606 ⊢
        refine x_iload (np := 8) (x := 2) (by decide +kernel) rfl l586 ?_
        refine x_ifz (k := 2) (tg := 15) (np := 11) (by decide +kernel) (by decide) l586 (fun q607 => ?_) (fun q608 => ?_)
        · have q607 : v585 < 2147483648 := q607
          refine x_const (np := 16) (x := 9223372039002259456) (a := 2147483648) (by decide +kernel) (by decide) (by decide) ?_
          refine x_retI (np := 17) (x := 0) (by decide +kernel) (by decide) (Or.inr ⟨by decide +kernel, by first | decide | omega, by first | decide | omega⟩) ⟨_, rfl, (by decide), ?_⟩
          refine x_ifz (k := 1) (tg := 156) (np := 154) (by decide +kernel) (by decide) (by decide) (fun q609 => ?_) (fun q610 => ?_)
          · have q609 : 2147483648 ≠ 2147483648 := q609
            exfalso; omega
          have q610 : ¬ (2147483648 ≠ 2147483648) := q610
          refine x_const (np := 155) (x := 9223372039002259456) (a := 2147483648) (by decide +kernel) (by decide) (by decide) ?_
          have b611 := jB (e := 0) 0 hJ rg_78_0_0_1 (by first | decide | omega) (by first | decide | omega)
          have q612 : h603 78 0 = h589 78 0 := by rw [← e605]; exact x_up_i (by first | decide | omega)
          have q613 : h589 78 0 = h486 78 0 := jK 0 f591 rg_78_0_0_1 (by first | decide | omega) (by first | decide | omega) (by decide)
          have q614 : h486 78 0 = h390 78 0 := jK 0 f488 rg_78_0_0_1 (by first | decide | omega) (by first | decide | omega) (by decide)
          have q615 : h390 78 0 = h376 78 0 := by rw [← e392]; exact x_up_i (by first | decide | omega)
          have q616 : h376 78 0 = h290 78 0 := jK 0 f378 rg_78_0_0_1 (by first | decide | omega) (by first | decide | omega) (by decide)
          have q617 : h290 78 0 = h215 78 0 := jK 0 f292 rg_78_0_0_1 (by first | decide | omega) (by first | decide | omega) (by decide)
          have q618 : h215 78 0 = h201 78 0 := by rw [← e217]; exact x_up_i (by first | decide | omega)
          have q619 : h201 78 0 = h140 78 0 := jK 0 f203 rg_78_0_0_1 (by first | decide | omega) (by first | decide | omega) (by decide)
          have q620 : h140 78 0 = h86 78 0 := jK 0 f142 rg_78_0_0_1 (by first | decide | omega) (by first | decide | omega) (by decide)
          have q621 : h86 78 0 = h70 78 0 := by rw [← e88]; exact x_up_i (by first | decide | omega)
          have q622 : h70 78 0 = h38 78 0 := jK 0 f72 rg_78_0_0_1 (by first | decide | omega) (by first | decide | omega) (by decide)
          have q623 : h38 78 0 = h14 78 0 := by rw [← e40]; exact x_up_i (by first | decide | omega)
          have q624 : h14 78 0 = h 78 0 := jK 0 f16 rg_78_0_0_1 (by first | decide | omega) (by first | decide | omega) (by decide)
          have q625 : h603 78 1 = h589 78 1 := by rw [← e605]; exact x_up_i (by first | decide | omega)
          have q626 : h589 78 1 = h486 78 1 := jK 0 f591 rg_78_1_0_1 (by first | decide | omega) (by first | decide | omega) (by decide)
          have q627 : h486 78 1 = h390 78 1 := jK 0 f488 rg_78_1_0_1 (by first | decide | omega) (by first | decide | omega) (by decide)
          have q628 : h390 78 1 = h376 78 1 := by rw [← e392]; exact x_up_i (by first | decide | omega)
          have q629 : h376 78 1 = h290 78 1 := jK 0 f378 rg_78_1_0_1 (by first | decide | omega) (by first | decide | omega) (by decide)
          have q630 : h290 78 1 = h215 78 1 := jK 0 f292 rg_78_1_0_1 (by first | decide | omega) (by first | decide | omega) (by decide)
          have q631 : h215 78 1 = h201 78 1 := by rw [← e217]; exact x_up_i (by first | decide | omega)
          have q632 : h201 78 1 = h140 78 1 := jK 0 f203 rg_78_1_0_1 (by first | decide | omega) (by first | decide | omega) (by decide)
          have q633 : h140 78 1 = h86 78 1 := jK 0 f142 rg_78_1_0_1 (by first | decide | omega) (by first | decide | omega) (by decide)
          have q634 : h86 78 1 = h70 78 1 := by rw [← e88]; exact x_up_i (by first | decide | omega)
          have q635 : h70 78 1 = h38 78 1 := jK 0 f72 rg_78_1_0_1 (by first | decide | omega) (by first | decide | omega) (by decide)
          have q636 : h38 78 1 = h14 78 1 := by rw [← e40]; exact x_up_i (by first | decide | omega)
          have q637 : h14 78 1 = h 78 1 := jK 0 f16 rg_78_1_0_1 (by first | decide | omega) (by first | decide | omega) (by decide)
          have b638 := jB (e := 2) 0 hJ rg_78_2_0_1 (by first | decide | omega) (by first | decide | omega)
          have q639 : h603 78 2 = h589 78 2 := by rw [← e605]; exact x_up_i (by first | decide | omega)
          have q640 : h589 78 2 = h486 78 2 := jK 0 f591 rg_78_2_0_1 (by first | decide | omega) (by first | decide | omega) (by decide)
          have q641 : h486 78 2 = h390 78 2 := jK 0 f488 rg_78_2_0_1 (by first | decide | omega) (by first | decide | omega) (by decide)
          have q642 : h390 78 2 = h376 78 2 := by rw [← e392]; exact x_up_i (by first | decide | omega)
          have q643 : h376 78 2 = h290 78 2 := jK 0 f378 rg_78_2_0_1 (by first | decide | omega) (by first | decide | omega) (by decide)
          have q644 : h290 78 2 = h215 78 2 := jK 0 f292 rg_78_2_0_1 (by first | decide | omega) (by first | decide | omega) (by decide)
          have q645 : h215 78 2 = h201 78 2 := by rw [← e217]; exact x_up_i (by first | decide | omega)
          have q646 : h201 78 2 = h140 78 2 := jK 0 f203 rg_78_2_0_1 (by first | decide | omega) (by first | decide | omega) (by decide)
          have q647 : h140 78 2 = h86 78 2 := jK 0 f142 rg_78_2_0_1 (by first | decide | omega) (by first | decide | omega) (by decide)
          have q648 : h86 78 2 = h70 78 2 := by rw [← e88]; exact x_up_i (by first | decide | omega)
          have q649 : h70 78 2 = h38 78 2 := jK 0 f72 rg_78_2_0_1 (by first | decide | omega) (by first | decide | omega) (by decide)
          have q650 : h38 78 2 = h14 78 2 := by rw [← e40]; exact x_up_i (by first | decide | omega)
          have q651 : h14 78 2 = h 78 2 := jK 0 f16 rg_78_2_0_1 (by first | decide | omega) (by first | decide | omega) (by decide)
          have b652 := jB (e := 3) 0 hJ rg_78_3_0_1 (by first | decide | omega) (by first | decide | omega)
          have q653 : h603 78 3 = h589 78 3 := by rw [← e605]; exact x_up_i (by first | decide | omega)
          have q654 : h589 78 3 = h486 78 3 := jK 0 f591 rg_78_3_0_1 (by first | decide | omega) (by first | decide | omega) (by decide)
          have q655 : h486 78 3 = h390 78 3 := jK 0 f488 rg_78_3_0_1 (by first | decide | omega) (by first | decide | omega) (by decide)
          have q656 : h390 78 3 = h376 78 3 := by rw [← e392]; exact x_up_i (by first | decide | omega)
          have q657 : h376 78 3 = h290 78 3 := jK 0 f378 rg_78_3_0_1 (by first | decide | omega) (by first | decide | omega) (by decide)
          have q658 : h290 78 3 = h215 78 3 := jK 0 f292 rg_78_3_0_1 (by first | decide | omega) (by first | decide | omega) (by decide)
          have q659 : h215 78 3 = h201 78 3 := by rw [← e217]; exact x_up_i (by first | decide | omega)
          have q660 : h201 78 3 = h140 78 3 := jK 0 f203 rg_78_3_0_1 (by first | decide | omega) (by first | decide | omega) (by decide)
          have q661 : h140 78 3 = h86 78 3 := jK 0 f142 rg_78_3_0_1 (by first | decide | omega) (by first | decide | omega) (by decide)
          have q662 : h86 78 3 = h70 78 3 := by rw [← e88]; exact x_up_i (by first | decide | omega)
          have q663 : h70 78 3 = h38 78 3 := jK 0 f72 rg_78_3_0_1 (by first | decide | omega) (by first | decide | omega) (by decide)
          have q664 : h38 78 3 = h14 78 3 := by rw [← e40]; exact x_up_i (by first | decide | omega)
          have q665 : h14 78 3 = h 78 3 := jK 0 f16 rg_78_3_0_1 (by first | decide | omega) (by first | decide | omega) (by decide)
          have q666 : h603 78 4 = h589 78 4 := by rw [← e605]; exact x_up_i (by first | decide | omega)
          have q667 : h589 78 4 = h486 78 4 := jK 0 f591 rg_78_4_0_1 (by first | decide | omega) (by first | decide | omega) (by decide)
          have q668 : h486 78 4 = h390 78 4 := jK 0 f488 rg_78_4_0_1 (by first | decide | omega) (by first | decide | omega) (by decide)
          have q669 : h390 78 4 = h376 78 4 := by rw [← e392]; exact x_up_i (by first | decide | omega)
          have q670 : h376 78 4 = h290 78 4 := jK 0 f378 rg_78_4_0_1 (by first | decide | omega) (by first | decide | omega) (by decide)
          have q671 : h290 78 4 = h215 78 4 := jK 0 f292 rg_78_4_0_1 (by first | decide | omega) (by first | decide | omega) (by decide)
          have q672 : h215 78 4 = h201 78 4 := by rw [← e217]; exact x_up_i (by first | decide | omega)
          have q673 : h201 78 4 = h140 78 4 := jK 0 f203 rg_78_4_0_1 (by first | decide | omega) (by first | decide | omega) (by decide)
          have q674 : h140 78 4 = h86 78 4 := jK 0 f142 rg_78_4_0_1 (by first | decide | omega) (by first | decide | omega) (by decide)
          have q675 : h86 78 4 = h70 78 4 := by rw [← e88]; exact x_up_i (by first | decide | omega)
          have q676 : h70 78 4 = h38 78 4 := jK 0 f72 rg_78_4_0_1 (by first | decide | omega) (by first | decide | omega) (by decide)
          have q677 : h38 78 4 = h14 78 4 := by rw [← e40]; exact x_up_i (by first | decide | omega)
          have q678 : h14 78 4 = h 78 4 := jK 0 f16 rg_78_4_0_1 (by first | decide | omega) (by first | decide | omega) (by decide)
          have b679 := jB (e := 5) 0 hJ rg_78_5_0_1 (by first | decide | omega) (by first | decide | omega)
          have q680 : h603 78 5 = h589 78 5 := by rw [← e605]; exact x_up_i (by first | decide | omega)
          have q681 : h589 78 5 = h486 78 5 := jK 0 f591 rg_78_5_0_1 (by first | decide | omega) (by first | decide | omega) (by decide)
          have q682 : h486 78 5 = h390 78 5 := jK 0 f488 rg_78_5_0_1 (by first | decide | omega) (by first | decide | omega) (by decide)
          have q683 : h390 78 5 = h376 78 5 := by rw [← e392]; exact x_up_i (by first | decide | omega)
          have q684 : h376 78 5 = h290 78 5 := jK 0 f378 rg_78_5_0_1 (by first | decide | omega) (by first | decide | omega) (by decide)
          have q685 : h290 78 5 = h215 78 5 := jK 0 f292 rg_78_5_0_1 (by first | decide | omega) (by first | decide | omega) (by decide)
          have q686 : h215 78 5 = h201 78 5 := by rw [← e217]; exact x_up_i (by first | decide | omega)
          have q687 : h201 78 5 = h140 78 5 := jK 0 f203 rg_78_5_0_1 (by first | decide | omega) (by first | decide | omega) (by decide)
          have q688 : h140 78 5 = h86 78 5 := jK 0 f142 rg_78_5_0_1 (by first | decide | omega) (by first | decide | omega) (by decide)
          have q689 : h86 78 5 = h70 78 5 := by rw [← e88]; exact x_up_i (by first | decide | omega)
          have q690 : h70 78 5 = h38 78 5 := jK 0 f72 rg_78_5_0_1 (by first | decide | omega) (by first | decide | omega) (by decide)
          have q691 : h38 78 5 = h14 78 5 := by rw [← e40]; exact x_up_i (by first | decide | omega)
          have q692 : h14 78 5 = h 78 5 := jK 0 f16 rg_78_5_0_1 (by first | decide | omega) (by first | decide | omega) (by decide)
          have w693 : ¬ Wd tB tN 10 (sk tB tN (h 75 7)) := by rw [← c21]; exact Wd.no (by decide) (Is.no c33 (by first | decide | omega)) c22
          have q694 : h38 75 7 = h14 75 7 := by rw [← e40]; exact x_up_k (by decide)
          have q695 : h38 75 9 = h14 75 9 := by rw [← e40]; exact x_up_k (by decide)
          have c696 : Is (Wm tB 9 (h14 75 9) (h14 75 7)) v47 := by rw [show h14 75 9 = h38 75 9 by first | decide | omega, show h14 75 7 = h38 75 7 by first | decide | omega]; exact c52
          have y697 := Is.yes c696 (by first | decide | omega)
          have w698 : Wd tB tN 9 (sk tB tN (h 75 7)) := by rw [← c21]; exact Wd.of' (by decide) y697 c22
          have e699 : sk tB tN (h14 75 7) = sk tB tN ((sk tB tN (h 75 7)) + iv_tl 9) := by rw [← c21, ← y697.1]
          have q700 : h38 75 7 = h14 75 7 := by rw [← e40]; exact x_up_k (by decide)
          have q701 : h86 75 7 = h70 75 7 := by rw [← e88]; exact x_up_k (by decide)
          obtain ⟨w702, e703⟩ := Tw.yes c146 (by first | decide | omega)
          have q704 : h215 75 7 = h201 75 7 := by rw [← e217]; exact x_up_k (by decide)
          obtain ⟨w705, e706⟩ := Tw.yes c296 (by first | decide | omega)
          have q707 : h390 75 7 = h376 75 7 := by rw [← e392]; exact x_up_k (by decide)
          obtain ⟨w708, e709⟩ := Tw.yes c492 (by first | decide | omega)
          refine x_retI (np := 156) (x := 0) (by decide +kernel) (by decide) (Or.inr ⟨by decide +kernel, by first | decide | omega, by first | decide | omega⟩) ⟨_, rfl, (by decide), ?_⟩
          exact ⟨j604, f606, (by first | decide | omega), (fun z => by first | decide | omega), (fun z => by first | decide | omega), (fun z => by first | decide | omega), (fun z => by first | decide | omega), (fun z => by first | decide | omega), (fun z => by first | decide | omega), (fun z => absurd z (by first | decide | omega)), (Or.inr ⟨by first | decide | omega, (or9.y w698 rfl e699 rfl (nm9.y c79 (by first | decide | omega) (by first | decide | omega) (congrArg (sk tB tN) (show h38 75 7 = h14 75 7 by first | decide | omega)) (by first | decide | omega) rfl (wd9.y w702 (congrArg (sk tB tN) (show h86 75 7 = h70 75 7 by first | decide | omega)) e703 rfl (nm9.y c210 (by first | decide | omega) (by first | decide | omega) rfl (by first | decide | omega) rfl (wd9.y w705 (congrArg (sk tB tN) (show h215 75 7 = h201 75 7 by first | decide | omega)) e706 rfl (nm9.y c385 (by first | decide | omega) (by first | decide | omega) rfl (by first | decide | omega) rfl (wd9.y w708 (congrArg (sk tB tN) (show h390 75 7 = h376 75 7 by first | decide | omega)) e709 rfl (nm9.f c598 (by first | decide | omega) (by first | decide | omega) rfl (by first | decide | omega) (by first | decide | omega)))))))))⟩)⟩
        have q608 : ¬ (v585 < 2147483648) := q608
        have b710 := c594 (by first | decide | omega)
        have b711 := c595 (by first | decide | omega)
        have b712 := c596 (by first | decide | omega)
        refine x_const (np := 12) (x := 9223372043297226753) (a := 2147483649) (by decide +kernel) (by decide) (by decide) ?_
        refine x_goto (np := 15) (x := 16) (by decide +kernel) ?_
        refine x_retI (np := 17) (x := 0) (by decide +kernel) (by decide) (Or.inr ⟨by decide +kernel, by first | decide | omega, by first | decide | omega⟩) ⟨_, rfl, (by decide), ?_⟩
        refine x_ifz (k := 1) (tg := 156) (np := 154) (by decide +kernel) (by decide) (by decide) (fun q713 => ?_) (fun q714 => ?_)
        · have q713 : 2147483649 ≠ 2147483648 := q713
          refine x_aload (np := 157) (x := 0) (by decide +kernel) rfl (x_nc_le (by decide)) ?_
          have q715 : h603 75 3 = 78 := by have z := jB (e := 3) 0 j604 rg_75_3_0_1 (by decide) (by decide); omega
          refine x_getR (np := 160) (x := 707) (f := 3) (q := 78) (by decide +kernel) (by decide) (by decide +kernel) q715 ?_
          refine x_const (np := 161) (x := 9223372056182128644) (a := 2147483652) (by decide +kernel) (by decide) (by decide) ?_
          refine x_dup2 (np := 162) (x := 0) (by decide +kernel) (by have z := (iw_c_lt (a := 2147483652) (by decide)).1; omega) (by have z := x_nc_le (k := 78) (by decide); unfold x_r; omega) ?_
          have q716 : h603 78 4 = h589 78 4 := by rw [← e605]; exact x_up_i (by first | decide | omega)
          have q717 : h589 78 4 = h486 78 4 := jK 0 f591 rg_78_4_0_1 (by first | decide | omega) (by first | decide | omega) (by decide)
          have q718 : h486 78 4 = h390 78 4 := jK 0 f488 rg_78_4_0_1 (by first | decide | omega) (by first | decide | omega) (by decide)
          have q719 : h390 78 4 = h376 78 4 := by rw [← e392]; exact x_up_i (by first | decide | omega)
          have q720 : h376 78 4 = h290 78 4 := jK 0 f378 rg_78_4_0_1 (by first | decide | omega) (by first | decide | omega) (by decide)
          have q721 : h290 78 4 = h215 78 4 := jK 0 f292 rg_78_4_0_1 (by first | decide | omega) (by first | decide | omega) (by decide)
          have q722 : h215 78 4 = h201 78 4 := by rw [← e217]; exact x_up_i (by first | decide | omega)
          have q723 : h201 78 4 = h140 78 4 := jK 0 f203 rg_78_4_0_1 (by first | decide | omega) (by first | decide | omega) (by decide)
          have q724 : h140 78 4 = h86 78 4 := jK 0 f142 rg_78_4_0_1 (by first | decide | omega) (by first | decide | omega) (by decide)
          have q725 : h86 78 4 = h70 78 4 := by rw [← e88]; exact x_up_i (by first | decide | omega)
          have q726 : h70 78 4 = h38 78 4 := jK 0 f72 rg_78_4_0_1 (by first | decide | omega) (by first | decide | omega) (by decide)
          have q727 : h38 78 4 = h14 78 4 := by rw [← e40]; exact x_up_i (by first | decide | omega)
          have q728 : h14 78 4 = h 78 4 := jK 0 f16 rg_78_4_0_1 (by first | decide | omega) (by first | decide | omega) (by decide)
          refine x_aldC (np := 163) (x := 0) (n := 290) (i := 4) (q := (h 78 4)) (by decide +kernel) (by decide +kernel) (by first | decide | omega) (by first | decide | omega) (by decide) ((((((((((((q716.trans q717).trans q718).trans q719).trans q720).trans q721).trans q722).trans q723).trans q724).trans q725).trans q726).trans q727).trans q728) (fun l729 => ?_)
          refine x_const (np := 164) (x := 9223372043297226753) (a := 2147483649) (by decide +kernel) (by decide) (by decide) ?_
          refine x_iadd (np := 165) (x := 0) (v := (1 + (h 78 4))) (by decide +kernel) l3 (by decide) (by first | decide | omega) (by first | decide | omega) ?_
          refine x_ast (np := 166) (x := 0) (kd := 1) (n := 290) (i := 4) (by decide +kernel) (Or.inl rfl) (by decide +kernel) (by first | decide | omega) (by first | decide | omega) (by decide) (by first | decide | omega) (fun z => absurd z (by decide)) ?_
          have j731 := jU (e := 4) (v := (1 + (h 78 4))) 0 j604 rg_78_4_0_1 (by first | decide | omega) (by first | decide | omega) (by first | decide | omega)
          have f733 := jF (e := 4) (v := (1 + (h 78 4))) 0 f606 rg_78_4_0_1 (by first | decide | omega) (by first | decide | omega) (by decide)
          generalize e732 : x_up h603 78 4 (1 + (h 78 4)) = h730 at j731 f733 ⊢
          refine x_const (np := 167) (x := 9223372043297226753) (a := 2147483649) (by decide +kernel) (by decide) (by decide) ?_
          have b734 := jB (e := 0) 0 hJ rg_78_0_0_1 (by first | decide | omega) (by first | decide | omega)
          have q735 : h730 78 0 = h603 78 0 := by rw [← e732]; exact x_up_i (by first | decide | omega)
          have q736 : h603 78 0 = h589 78 0 := by rw [← e605]; exact x_up_i (by first | decide | omega)
          have q737 : h589 78 0 = h486 78 0 := jK 0 f591 rg_78_0_0_1 (by first | decide | omega) (by first | decide | omega) (by decide)
          have q738 : h486 78 0 = h390 78 0 := jK 0 f488 rg_78_0_0_1 (by first | decide | omega) (by first | decide | omega) (by decide)
          have q739 : h390 78 0 = h376 78 0 := by rw [← e392]; exact x_up_i (by first | decide | omega)
          have q740 : h376 78 0 = h290 78 0 := jK 0 f378 rg_78_0_0_1 (by first | decide | omega) (by first | decide | omega) (by decide)
          have q741 : h290 78 0 = h215 78 0 := jK 0 f292 rg_78_0_0_1 (by first | decide | omega) (by first | decide | omega) (by decide)
          have q742 : h215 78 0 = h201 78 0 := by rw [← e217]; exact x_up_i (by first | decide | omega)
          have q743 : h201 78 0 = h140 78 0 := jK 0 f203 rg_78_0_0_1 (by first | decide | omega) (by first | decide | omega) (by decide)
          have q744 : h140 78 0 = h86 78 0 := jK 0 f142 rg_78_0_0_1 (by first | decide | omega) (by first | decide | omega) (by decide)
          have q745 : h86 78 0 = h70 78 0 := by rw [← e88]; exact x_up_i (by first | decide | omega)
          have q746 : h70 78 0 = h38 78 0 := jK 0 f72 rg_78_0_0_1 (by first | decide | omega) (by first | decide | omega) (by decide)
          have q747 : h38 78 0 = h14 78 0 := by rw [← e40]; exact x_up_i (by first | decide | omega)
          have q748 : h14 78 0 = h 78 0 := jK 0 f16 rg_78_0_0_1 (by first | decide | omega) (by first | decide | omega) (by decide)
          have q749 : h730 78 1 = h603 78 1 := by rw [← e732]; exact x_up_i (by first | decide | omega)
          have q750 : h603 78 1 = h589 78 1 := by rw [← e605]; exact x_up_i (by first | decide | omega)
          have q751 : h589 78 1 = h486 78 1 := jK 0 f591 rg_78_1_0_1 (by first | decide | omega) (by first | decide | omega) (by decide)
          have q752 : h486 78 1 = h390 78 1 := jK 0 f488 rg_78_1_0_1 (by first | decide | omega) (by first | decide | omega) (by decide)
          have q753 : h390 78 1 = h376 78 1 := by rw [← e392]; exact x_up_i (by first | decide | omega)
          have q754 : h376 78 1 = h290 78 1 := jK 0 f378 rg_78_1_0_1 (by first | decide | omega) (by first | decide | omega) (by decide)
          have q755 : h290 78 1 = h215 78 1 := jK 0 f292 rg_78_1_0_1 (by first | decide | omega) (by first | decide | omega) (by decide)
          have q756 : h215 78 1 = h201 78 1 := by rw [← e217]; exact x_up_i (by first | decide | omega)
          have q757 : h201 78 1 = h140 78 1 := jK 0 f203 rg_78_1_0_1 (by first | decide | omega) (by first | decide | omega) (by decide)
          have q758 : h140 78 1 = h86 78 1 := jK 0 f142 rg_78_1_0_1 (by first | decide | omega) (by first | decide | omega) (by decide)
          have q759 : h86 78 1 = h70 78 1 := by rw [← e88]; exact x_up_i (by first | decide | omega)
          have q760 : h70 78 1 = h38 78 1 := jK 0 f72 rg_78_1_0_1 (by first | decide | omega) (by first | decide | omega) (by decide)
          have q761 : h38 78 1 = h14 78 1 := by rw [← e40]; exact x_up_i (by first | decide | omega)
          have q762 : h14 78 1 = h 78 1 := jK 0 f16 rg_78_1_0_1 (by first | decide | omega) (by first | decide | omega) (by decide)
          have b763 := jB (e := 2) 0 hJ rg_78_2_0_1 (by first | decide | omega) (by first | decide | omega)
          have q764 : h730 78 2 = h603 78 2 := by rw [← e732]; exact x_up_i (by first | decide | omega)
          have q765 : h603 78 2 = h589 78 2 := by rw [← e605]; exact x_up_i (by first | decide | omega)
          have q766 : h589 78 2 = h486 78 2 := jK 0 f591 rg_78_2_0_1 (by first | decide | omega) (by first | decide | omega) (by decide)
          have q767 : h486 78 2 = h390 78 2 := jK 0 f488 rg_78_2_0_1 (by first | decide | omega) (by first | decide | omega) (by decide)
          have q768 : h390 78 2 = h376 78 2 := by rw [← e392]; exact x_up_i (by first | decide | omega)
          have q769 : h376 78 2 = h290 78 2 := jK 0 f378 rg_78_2_0_1 (by first | decide | omega) (by first | decide | omega) (by decide)
          have q770 : h290 78 2 = h215 78 2 := jK 0 f292 rg_78_2_0_1 (by first | decide | omega) (by first | decide | omega) (by decide)
          have q771 : h215 78 2 = h201 78 2 := by rw [← e217]; exact x_up_i (by first | decide | omega)
          have q772 : h201 78 2 = h140 78 2 := jK 0 f203 rg_78_2_0_1 (by first | decide | omega) (by first | decide | omega) (by decide)
          have q773 : h140 78 2 = h86 78 2 := jK 0 f142 rg_78_2_0_1 (by first | decide | omega) (by first | decide | omega) (by decide)
          have q774 : h86 78 2 = h70 78 2 := by rw [← e88]; exact x_up_i (by first | decide | omega)
          have q775 : h70 78 2 = h38 78 2 := jK 0 f72 rg_78_2_0_1 (by first | decide | omega) (by first | decide | omega) (by decide)
          have q776 : h38 78 2 = h14 78 2 := by rw [← e40]; exact x_up_i (by first | decide | omega)
          have q777 : h14 78 2 = h 78 2 := jK 0 f16 rg_78_2_0_1 (by first | decide | omega) (by first | decide | omega) (by decide)
          have b778 := jB (e := 3) 0 hJ rg_78_3_0_1 (by first | decide | omega) (by first | decide | omega)
          have q779 : h730 78 3 = h603 78 3 := by rw [← e732]; exact x_up_i (by first | decide | omega)
          have q780 : h603 78 3 = h589 78 3 := by rw [← e605]; exact x_up_i (by first | decide | omega)
          have q781 : h589 78 3 = h486 78 3 := jK 0 f591 rg_78_3_0_1 (by first | decide | omega) (by first | decide | omega) (by decide)
          have q782 : h486 78 3 = h390 78 3 := jK 0 f488 rg_78_3_0_1 (by first | decide | omega) (by first | decide | omega) (by decide)
          have q783 : h390 78 3 = h376 78 3 := by rw [← e392]; exact x_up_i (by first | decide | omega)
          have q784 : h376 78 3 = h290 78 3 := jK 0 f378 rg_78_3_0_1 (by first | decide | omega) (by first | decide | omega) (by decide)
          have q785 : h290 78 3 = h215 78 3 := jK 0 f292 rg_78_3_0_1 (by first | decide | omega) (by first | decide | omega) (by decide)
          have q786 : h215 78 3 = h201 78 3 := by rw [← e217]; exact x_up_i (by first | decide | omega)
          have q787 : h201 78 3 = h140 78 3 := jK 0 f203 rg_78_3_0_1 (by first | decide | omega) (by first | decide | omega) (by decide)
          have q788 : h140 78 3 = h86 78 3 := jK 0 f142 rg_78_3_0_1 (by first | decide | omega) (by first | decide | omega) (by decide)
          have q789 : h86 78 3 = h70 78 3 := by rw [← e88]; exact x_up_i (by first | decide | omega)
          have q790 : h70 78 3 = h38 78 3 := jK 0 f72 rg_78_3_0_1 (by first | decide | omega) (by first | decide | omega) (by decide)
          have q791 : h38 78 3 = h14 78 3 := by rw [← e40]; exact x_up_i (by first | decide | omega)
          have q792 : h14 78 3 = h 78 3 := jK 0 f16 rg_78_3_0_1 (by first | decide | omega) (by first | decide | omega) (by decide)
          have q793 : h730 78 4 = (1 + (h 78 4)) := by rw [← e732]; exact x_up_at
          have b794 := jB (e := 5) 0 hJ rg_78_5_0_1 (by first | decide | omega) (by first | decide | omega)
          have q795 : h730 78 5 = h603 78 5 := by rw [← e732]; exact x_up_i (by first | decide | omega)
          have q796 : h603 78 5 = h589 78 5 := by rw [← e605]; exact x_up_i (by first | decide | omega)
          have q797 : h589 78 5 = h486 78 5 := jK 0 f591 rg_78_5_0_1 (by first | decide | omega) (by first | decide | omega) (by decide)
          have q798 : h486 78 5 = h390 78 5 := jK 0 f488 rg_78_5_0_1 (by first | decide | omega) (by first | decide | omega) (by decide)
          have q799 : h390 78 5 = h376 78 5 := by rw [← e392]; exact x_up_i (by first | decide | omega)
          have q800 : h376 78 5 = h290 78 5 := jK 0 f378 rg_78_5_0_1 (by first | decide | omega) (by first | decide | omega) (by decide)
          have q801 : h290 78 5 = h215 78 5 := jK 0 f292 rg_78_5_0_1 (by first | decide | omega) (by first | decide | omega) (by decide)
          have q802 : h215 78 5 = h201 78 5 := by rw [← e217]; exact x_up_i (by first | decide | omega)
          have q803 : h201 78 5 = h140 78 5 := jK 0 f203 rg_78_5_0_1 (by first | decide | omega) (by first | decide | omega) (by decide)
          have q804 : h140 78 5 = h86 78 5 := jK 0 f142 rg_78_5_0_1 (by first | decide | omega) (by first | decide | omega) (by decide)
          have q805 : h86 78 5 = h70 78 5 := by rw [← e88]; exact x_up_i (by first | decide | omega)
          have q806 : h70 78 5 = h38 78 5 := jK 0 f72 rg_78_5_0_1 (by first | decide | omega) (by first | decide | omega) (by decide)
          have q807 : h38 78 5 = h14 78 5 := by rw [← e40]; exact x_up_i (by first | decide | omega)
          have q808 : h14 78 5 = h 78 5 := jK 0 f16 rg_78_5_0_1 (by first | decide | omega) (by first | decide | omega) (by decide)
          have m822 := Cl.fr hC f16 (by decide)
          have m821 : Cl h38 := by rw [← e40]; exact Cl.upR (e := (200 + 5 * u8)) (v := 2147483648) u8 m822 rg_76_200_5_10 (by first | decide | omega) (by first | decide | omega) (by first | decide | omega)
          have m820 := Cl.fr m821 f72 (by decide)
          have m819 : Cl h86 := by rw [← e88]; exact Cl.upR (e := (201 + 5 * u8)) (v := v67) u8 m820 rg_76_201_5_10 (by first | decide | omega) (by first | decide | omega) (by first | decide | omega)
          have m818 := Cl.fr m819 f142 (by decide)
          have m817 := Cl.fr m818 f203 (by decide)
          have m816 : Cl h215 := by rw [← e217]; exact Cl.upR (e := (202 + 5 * u8)) (v := v197) u8 m817 rg_76_202_5_10 (by first | decide | omega) (by first | decide | omega) (by first | decide | omega)
          have m815 := Cl.fr m816 f292 (by decide)
          have m814 := Cl.fr m815 f378 (by decide)
          have m813 : Cl h390 := by rw [← e392]; exact Cl.upR (e := (203 + 5 * u8)) (v := v372) u8 m814 rg_76_203_5_10 (by first | decide | omega) (by first | decide | omega) (by first | decide | omega)
          have m812 := Cl.fr m813 f488 (by decide)
          have m811 := Cl.fr m812 f591 (by decide)
          have m810 : Cl h603 := by rw [← e605]; exact Cl.upR (e := (204 + 5 * u8)) (v := v585) u8 m811 rg_76_204_5_10 (by first | decide | omega) (by first | decide | omega) (by first | decide | omega)
          have m809 : Cl h730 := by rw [← e732]; exact Cl.upR (e := 4) (v := (1 + (h 78 4))) 0 m810 rg_76_4_0_1 (by first | decide | omega) (by first | decide | omega) (by first | decide | omega)
          have w823 : ¬ Wd tB tN 10 (sk tB tN (h 75 7)) := by rw [← c21]; exact Wd.no (by decide) (Is.no c33 (by first | decide | omega)) c22
          have q824 : h38 75 7 = h14 75 7 := by rw [← e40]; exact x_up_k (by decide)
          have q825 : h38 75 9 = h14 75 9 := by rw [← e40]; exact x_up_k (by decide)
          have c826 : Is (Wm tB 9 (h14 75 9) (h14 75 7)) v47 := by rw [show h14 75 9 = h38 75 9 by first | decide | omega, show h14 75 7 = h38 75 7 by first | decide | omega]; exact c52
          have y827 := Is.yes c826 (by first | decide | omega)
          have w828 : Wd tB tN 9 (sk tB tN (h 75 7)) := by rw [← c21]; exact Wd.of' (by decide) y827 c22
          have e829 : sk tB tN (h14 75 7) = sk tB tN ((sk tB tN (h 75 7)) + iv_tl 9) := by rw [← c21, ← y827.1]
          have q830 : h38 75 7 = h14 75 7 := by rw [← e40]; exact x_up_k (by decide)
          have q831 : h86 75 7 = h70 75 7 := by rw [← e88]; exact x_up_k (by decide)
          obtain ⟨w832, e833⟩ := Tw.yes c146 (by first | decide | omega)
          have q834 : h215 75 7 = h201 75 7 := by rw [← e217]; exact x_up_k (by decide)
          obtain ⟨w835, e836⟩ := Tw.yes c296 (by first | decide | omega)
          have q837 : h390 75 7 = h376 75 7 := by rw [← e392]; exact x_up_k (by decide)
          obtain ⟨w838, e839⟩ := Tw.yes c492 (by first | decide | omega)
          have q840 : h730 75 7 = h603 75 7 := by rw [← e732]; exact x_up_k (by decide)
          have q841 : h603 75 7 = h589 75 7 := by rw [← e605]; exact x_up_k (by decide)
          refine x_retI (np := 168) (x := 0) (by decide +kernel) (by decide) (Or.inr ⟨by decide +kernel, by first | decide | omega, by first | decide | omega⟩) ⟨_, rfl, (by decide), ?_⟩
          exact ⟨j731, f733, (by first | decide | omega), (fun z => by first | decide | omega), (fun z => by first | decide | omega), (fun z => by first | decide | omega), (fun z => by first | decide | omega), (fun z => by first | decide | omega), (fun z => by first | decide | omega), (fun _ => m809), (Or.inr ⟨by first | decide | omega, (or9.y w828 rfl e829 rfl (nm9.y c79 (by first | decide | omega) (by first | decide | omega) (congrArg (sk tB tN) (show h38 75 7 = h14 75 7 by first | decide | omega)) (by first | decide | omega) rfl (wd9.y w832 (congrArg (sk tB tN) (show h86 75 7 = h70 75 7 by first | decide | omega)) e833 rfl (nm9.y c210 (by first | decide | omega) (by first | decide | omega) rfl (by first | decide | omega) rfl (wd9.y w835 (congrArg (sk tB tN) (show h215 75 7 = h201 75 7 by first | decide | omega)) e836 rfl (nm9.y c385 (by first | decide | omega) (by first | decide | omega) rfl (by first | decide | omega) rfl (wd9.y w838 (congrArg (sk tB tN) (show h390 75 7 = h376 75 7 by first | decide | omega)) e839 rfl (nm9.y c598 (by first | decide | omega) (by first | decide | omega) rfl (by first | decide | omega) rfl (fin9.mk (by first | decide | omega) (congrArg (sk tB tN) (show h589 75 7 = h730 75 7 by first | decide | omega)))))))))))⟩)⟩
        have q714 : ¬ (2147483649 ≠ 2147483648) := q714
        exfalso; omega
      have q58 : ¬ (v47 ≠ 2147483648) := q58
      refine x_const (np := 69) (x := 9223372039002259456) (a := 2147483648) (by decide +kernel) (by decide) (by decide) ?_
      have b842 := jB (e := 0) 0 hJ rg_78_0_0_1 (by first | decide | omega) (by first | decide | omega)
      have q843 : h38 78 0 = h14 78 0 := by rw [← e40]; exact x_up_i (by first | decide | omega)
      have q844 : h14 78 0 = h 78 0 := jK 0 f16 rg_78_0_0_1 (by first | decide | omega) (by first | decide | omega) (by decide)
      have q845 : h38 78 1 = h14 78 1 := by rw [← e40]; exact x_up_i (by first | decide | omega)
      have q846 : h14 78 1 = h 78 1 := jK 0 f16 rg_78_1_0_1 (by first | decide | omega) (by first | decide | omega) (by decide)
      have b847 := jB (e := 2) 0 hJ rg_78_2_0_1 (by first | decide | omega) (by first | decide | omega)
      have q848 : h38 78 2 = h14 78 2 := by rw [← e40]; exact x_up_i (by first | decide | omega)
      have q849 : h14 78 2 = h 78 2 := jK 0 f16 rg_78_2_0_1 (by first | decide | omega) (by first | decide | omega) (by decide)
      have b850 := jB (e := 3) 0 hJ rg_78_3_0_1 (by first | decide | omega) (by first | decide | omega)
      have q851 : h38 78 3 = h14 78 3 := by rw [← e40]; exact x_up_i (by first | decide | omega)
      have q852 : h14 78 3 = h 78 3 := jK 0 f16 rg_78_3_0_1 (by first | decide | omega) (by first | decide | omega) (by decide)
      have q853 : h38 78 4 = h14 78 4 := by rw [← e40]; exact x_up_i (by first | decide | omega)
      have q854 : h14 78 4 = h 78 4 := jK 0 f16 rg_78_4_0_1 (by first | decide | omega) (by first | decide | omega) (by decide)
      have b855 := jB (e := 5) 0 hJ rg_78_5_0_1 (by first | decide | omega) (by first | decide | omega)
      have q856 : h38 78 5 = h14 78 5 := by rw [← e40]; exact x_up_i (by first | decide | omega)
      have q857 : h14 78 5 = h 78 5 := jK 0 f16 rg_78_5_0_1 (by first | decide | omega) (by first | decide | omega) (by decide)
      have b858 := jB (e := 0) 0 hJ rg_76_0_0_1 (by first | decide | omega) (by first | decide | omega)
      have w859 : ¬ Wd tB tN 10 (sk tB tN (h 75 7)) := by rw [← c21]; exact Wd.no (by decide) (Is.no c33 (by first | decide | omega)) c22
      have q860 : h38 75 7 = h14 75 7 := by rw [← e40]; exact x_up_k (by decide)
      have q861 : h38 75 9 = h14 75 9 := by rw [← e40]; exact x_up_k (by decide)
      have c862 : Is (Wm tB 9 (h14 75 9) (h14 75 7)) v47 := by rw [show h14 75 9 = h38 75 9 by first | decide | omega, show h14 75 7 = h38 75 7 by first | decide | omega]; exact c52
      have w863 : ¬ Wd tB tN 9 (sk tB tN (h 75 7)) := by rw [← c21]; exact Wd.no (by decide) (Is.no c862 (by first | decide | omega)) c22
      refine x_retI (np := 70) (x := 0) (by decide +kernel) (by decide) (Or.inr ⟨by decide +kernel, by first | decide | omega, by first | decide | omega⟩) ⟨_, rfl, (by decide), ?_⟩
      exact ⟨j39, f41, (by first | decide | omega), (fun z => by first | decide | omega), (fun z => by first | decide | omega), (fun z => by first | decide | omega), (fun z => by first | decide | omega), (fun z => by first | decide | omega), (fun z => by first | decide | omega), (fun z => absurd z (by first | decide | omega)), (Or.inr ⟨by first | decide | omega, (or9.f w863 rfl rfl (wd9.f w859 rfl (by first | decide | omega)))⟩)⟩
    have q37 : ¬ (v28 = 2147483648) := q37
    have b864 := c32 (by first | decide | omega)
    refine x_const (np := 45) (x := 9223372043297226753) (a := 2147483649) (by decide +kernel) (by decide) (by decide) ?_
    refine x_goto (np := 48) (x := 49) (by decide +kernel) ?_
    refine x_ast (np := 50) (x := 0) (kd := 1) (n := 290) (i := (200 + 5 * u8)) (by decide +kernel) (Or.inl rfl) (by decide +kernel) (by first | decide | omega) (by first | decide | omega) (by decide) (by decide) (fun z => absurd z (by decide)) ?_
    have j866 := jU (e := (200 + 5 * u8)) (v := 2147483649) u8 j15 rg_78_200_5_10 (by first | decide | omega) (by first | decide | omega) (by first | decide | omega)
    have f868 := jF (e := (200 + 5 * u8)) (v := 2147483649) u8 f23 rg_78_200_5_10 (by first | decide | omega) (by first | decide | omega) (by decide)
    generalize e867 : x_up h14 78 (200 + 5 * u8) 2147483649 = h865 at j866 f868 ⊢
    refine x_aload (np := 51) (x := 0) (by decide +kernel) rfl (x_nc_le (by decide)) ?_
    have q869 : h865 75 3 = 78 := by have z := jB (e := 3) 0 j866 rg_75_3_0_1 (by decide) (by decide); omega
    refine x_getR (np := 54) (x := 707) (f := 3) (q := 78) (by decide +kernel) (by decide) (by decide +kernel) q869 ?_
    refine x_iload (np := 55) (x := 1) (by decide +kernel) rfl (by first | decide | omega) ?_
    have q870 : h865 78 (200 + 5 * u8) = 2147483649 := by rw [← e867]; exact x_up_at
    refine x_aldC (np := 56) (x := 0) (n := 290) (i := (200 + 5 * u8)) (q := 2147483649) (by decide +kernel) (by decide +kernel) (by first | decide | omega) (by first | decide | omega) (by decide) q870 (fun l871 => ?_)
    refine x_ifz (k := 1) (tg := 70) (np := 59) (by decide +kernel) (by decide) (by decide) (fun q872 => ?_) (fun q873 => ?_)
    · have q872 : 2147483649 ≠ 2147483648 := q872
      refine x_aload (np := 71) (x := 0) (by decide +kernel) rfl (x_nc_le (by decide)) ?_
      refine x_iload (np := 72) (x := 1) (by decide +kernel) rfl (by first | decide | omega) ?_
      refine x_const (np := 73) (x := 9223372043297226753) (a := 2147483649) (by decide +kernel) (by decide) (by decide) ?_
      refine x_iadd (np := 74) (x := 0) (v := (2147483849 + 5 * u8)) (by decide +kernel) (by first | decide | omega) (by decide) (by first | decide | omega) (by first | decide | omega) ?_
      refine x_nI (t := 6) (mj := 177) (n := 2) (rc := 12) (ml := 2) (nr := 0) (np := 77) (as := [x_r 75, iv_c (2147483849 + 5 * u8)]) (rest := []) (lo1 := [x_r 75, iv_c (2147483849 + 5 * u8)]) (by decide +kernel) (by decide) (by decide +kernel) (x_rb_of (by decide +kernel)) rfl rfl (x_wr (by decide) (x_wi (by first | decide | omega) x_wn)) x_wn (by decide) rfl ?_
      refine x_aload (np := 1) (x := 0) (by decide +kernel) rfl (x_nc_le (by decide)) ?_
      refine x_iload (np := 2) (x := 1) (by decide +kernel) rfl (by first | decide | omega) ?_
      refine x_aload (np := 3) (x := 0) (by decide +kernel) rfl (x_nc_le (by decide)) ?_
      refine x_const (np := 4) (x := 9223372039002259456) (a := 2147483648) (by decide +kernel) (by decide) (by decide) ?_
      refine x_aload (np := 5) (x := 0) (by decide +kernel) rfl (x_nc_le (by decide)) ?_
      refine x_nI (t := 6) (mj := 157) (n := 1) (rc := 12) (ml := 1) (nr := 4) (np := 8) (as := [x_r 75]) (rest := [iv_c 2147483648, x_r 75, iv_c (2147483849 + 5 * u8), x_r 75]) (lo1 := [x_r 75]) (by decide +kernel) (by decide) (by decide +kernel) (x_rb_of (by decide +kernel)) rfl rfl (x_wr (by decide) x_wn) (x_wi (by decide) (x_wr (by decide) (x_wi (by first | decide | omega) (x_wr (by decide) x_wn)))) (by decide) rfl ?_
      refine x_aload (np := 1) (x := 0) (by decide +kernel) rfl (x_nc_le (by decide)) ?_
      have q874 : h865 75 1 = 76 := by have z := jB (e := 1) 0 j866 rg_75_1_0_1 (by decide) (by decide); omega
      refine x_getR (np := 4) (x := 705) (f := 1) (q := 76) (by decide +kernel) (by decide) (by decide +kernel) q874 ?_
      refine x_const (np := 5) (x := 9223372039002259456) (a := 2147483648) (by decide +kernel) (by decide) (by decide) ?_
      have q875 : h865 76 0 = h14 76 0 := by rw [← e867]; exact x_up_k (by decide)
      have q876 : h14 76 0 = h 76 0 := jK 0 f16 rg_76_0_0_1 (by first | decide | omega) (by first | decide | omega) (by decide)
      have b877 := jB (e := 0) 0 hJ rg_76_0_0_1 (by first | decide | omega) (by first | decide | omega)
      refine x_aldC (np := 6) (x := 0) (n := 1952) (i := 0) (q := (h 76 0)) (by decide +kernel) (by decide +kernel) (by first | decide | omega) (by first | decide | omega) (by decide) (q875.trans q876) (fun l878 => ?_)
      refine x_retI (np := 7) (x := 0) (by decide +kernel) l878 (Or.inl (by decide +kernel)) ⟨_, rfl, l878, ?_⟩
      refine x_const (np := 9) (x := 9223372043297226753) (a := 2147483649) (by decide +kernel) (by decide) (by decide) ?_
      obtain ⟨v879, q880⟩ : ∃ z, z + 2147483649 = (h 76 0) + 2147483648 := ⟨(h 76 0) + 2147483648 - 2147483649, by first | decide | omega⟩
      refine x_isub (np := 10) (x := 0) (v := v879) (by decide +kernel) l878 (by decide) (by first | decide | omega) (by first | decide | omega) ?_
      have m884 : Tq tB tN h865 := by rw [← e867]; exact Tq.oth m31 (by decide) (fun z => absurd z.1 (by decide))
      refine x_cI (t := 6) (mj := 174) (n := 3) (rc := 12) (ml := 4) (nr := 2) (np := 13) (as := [x_r 75, iv_c 2147483648, iv_c v879]) (rest := [iv_c (2147483849 + 5 * u8), x_r 75]) (lo1 := [x_r 75, iv_c 2147483648, iv_c v879, 147573952589676412928]) (by decide +kernel) (by decide) (by decide +kernel) (x_rb_of (by decide +kernel)) rfl rfl (x_wr (by decide) (x_wi (by decide) (x_wi (by first | decide | omega) x_wn))) (x_wi (by first | decide | omega) (x_wr (by decide) x_wn)) (by decide) rfl (c174_75 j866  (by first | decide | omega) (by first | decide | omega) m884) (fun v881 h885 l882 q883 => ?_)
      obtain ⟨j886, f887, b888, c889, c890, c891, c892, c893, c894⟩ := q883
      have f895 := Fr.trans f868 f887 (by decide)
      have q896 : h865 75 7 = h14 75 7 := by rw [← e867]; exact x_up_k (by decide)
      have b897 := jB (e := 7) 0 j886 rg_75_7_0_1 (by first | decide | omega) (by first | decide | omega)
      have q898 : h865 75 7 = h14 75 7 := by rw [← e867]; exact x_up_k (by decide)
      have b899 := c893 (by first | decide | omega)
      refine x_nI (t := 6) (mj := 176) (n := 3) (rc := 12) (ml := 3) (nr := 0) (np := 16) (as := [x_r 75, iv_c (2147483849 + 5 * u8), iv_c v881]) (rest := []) (lo1 := [x_r 75, iv_c (2147483849 + 5 * u8), iv_c v881]) (by decide +kernel) (by decide) (by decide +kernel) (x_rb_of (by decide +kernel)) rfl rfl (x_wr (by decide) (x_wi (by first | decide | omega) (x_wi l882 x_wn))) x_wn (by decide) rfl ?_
      refine x_aload (np := 1) (x := 0) (by decide +kernel) rfl (x_nc_le (by decide)) ?_
      have q900 : h885 75 3 = 78 := by have z := jB (e := 3) 0 j886 rg_75_3_0_1 (by decide) (by decide); omega
      refine x_getR (np := 4) (x := 707) (f := 3) (q := 78) (by decide +kernel) (by decide) (by decide +kernel) q900 ?_
      refine x_iload (np := 5) (x := 1) (by decide +kernel) rfl (by first | decide | omega) ?_
      refine x_iload (np := 6) (x := 2) (by decide +kernel) rfl l882 ?_
      refine x_ast (np := 7) (x := 0) (kd := 1) (n := 290) (i := (201 + 5 * u8)) (by decide +kernel) (Or.inl rfl) (by decide +kernel) (by first | decide | omega) (by first | decide | omega) (by decide) l882 (fun z => absurd z (by decide)) ?_
      have j902 := jU (e := (201 + 5 * u8)) (v := v881) u8 j886 rg_78_201_5_10 (by first | decide | omega) (by first | decide | omega) (by first | decide | omega)
      have f904 := jF (e := (201 + 5 * u8)) (v := v881) u8 f895 rg_78_201_5_10 (by first | decide | omega) (by first | decide | omega) (by decide)
      generalize e903 : x_up h885 78 (201 + 5 * u8) v881 = h901 at j902 f904 ⊢
      refine x_iload (np := 8) (x := 2) (by decide +kernel) rfl l882 ?_
      refine x_ifz (k := 2) (tg := 15) (np := 11) (by decide +kernel) (by decide) l882 (fun q905 => ?_) (fun q906 => ?_)
      · have q905 : v881 < 2147483648 := q905
        refine x_const (np := 16) (x := 9223372039002259456) (a := 2147483648) (by decide +kernel) (by decide) (by decide) ?_
        refine x_retI (np := 17) (x := 0) (by decide +kernel) (by decide) (Or.inr ⟨by decide +kernel, by first | decide | omega, by first | decide | omega⟩) ⟨_, rfl, (by decide), ?_⟩
        refine x_retI (np := 17) (x := 0) (by decide +kernel) (by decide) (Or.inr ⟨by decide +kernel, by first | decide | omega, by first | decide | omega⟩) ⟨_, rfl, (by decide), ?_⟩
        refine x_ifz (k := 0) (tg := 154) (np := 80) (by decide +kernel) (by decide) (by decide) (fun q907 => ?_) (fun q908 => ?_)
        · have q907 : 2147483648 = 2147483648 := q907
          refine x_const (np := 155) (x := 9223372039002259456) (a := 2147483648) (by decide +kernel) (by decide) (by decide) ?_
          have b909 := jB (e := 0) 0 hJ rg_78_0_0_1 (by first | decide | omega) (by first | decide | omega)
          have q910 : h901 78 0 = h885 78 0 := by rw [← e903]; exact x_up_i (by first | decide | omega)
          have q911 : h885 78 0 = h865 78 0 := jK 0 f887 rg_78_0_0_1 (by first | decide | omega) (by first | decide | omega) (by decide)
          have q912 : h865 78 0 = h14 78 0 := by rw [← e867]; exact x_up_i (by first | decide | omega)
          have q913 : h14 78 0 = h 78 0 := jK 0 f16 rg_78_0_0_1 (by first | decide | omega) (by first | decide | omega) (by decide)
          have q914 : h901 78 1 = h885 78 1 := by rw [← e903]; exact x_up_i (by first | decide | omega)
          have q915 : h885 78 1 = h865 78 1 := jK 0 f887 rg_78_1_0_1 (by first | decide | omega) (by first | decide | omega) (by decide)
          have q916 : h865 78 1 = h14 78 1 := by rw [← e867]; exact x_up_i (by first | decide | omega)
          have q917 : h14 78 1 = h 78 1 := jK 0 f16 rg_78_1_0_1 (by first | decide | omega) (by first | decide | omega) (by decide)
          have b918 := jB (e := 2) 0 hJ rg_78_2_0_1 (by first | decide | omega) (by first | decide | omega)
          have q919 : h901 78 2 = h885 78 2 := by rw [← e903]; exact x_up_i (by first | decide | omega)
          have q920 : h885 78 2 = h865 78 2 := jK 0 f887 rg_78_2_0_1 (by first | decide | omega) (by first | decide | omega) (by decide)
          have q921 : h865 78 2 = h14 78 2 := by rw [← e867]; exact x_up_i (by first | decide | omega)
          have q922 : h14 78 2 = h 78 2 := jK 0 f16 rg_78_2_0_1 (by first | decide | omega) (by first | decide | omega) (by decide)
          have b923 := jB (e := 3) 0 hJ rg_78_3_0_1 (by first | decide | omega) (by first | decide | omega)
          have q924 : h901 78 3 = h885 78 3 := by rw [← e903]; exact x_up_i (by first | decide | omega)
          have q925 : h885 78 3 = h865 78 3 := jK 0 f887 rg_78_3_0_1 (by first | decide | omega) (by first | decide | omega) (by decide)
          have q926 : h865 78 3 = h14 78 3 := by rw [← e867]; exact x_up_i (by first | decide | omega)
          have q927 : h14 78 3 = h 78 3 := jK 0 f16 rg_78_3_0_1 (by first | decide | omega) (by first | decide | omega) (by decide)
          have q928 : h901 78 4 = h885 78 4 := by rw [← e903]; exact x_up_i (by first | decide | omega)
          have q929 : h885 78 4 = h865 78 4 := jK 0 f887 rg_78_4_0_1 (by first | decide | omega) (by first | decide | omega) (by decide)
          have q930 : h865 78 4 = h14 78 4 := by rw [← e867]; exact x_up_i (by first | decide | omega)
          have q931 : h14 78 4 = h 78 4 := jK 0 f16 rg_78_4_0_1 (by first | decide | omega) (by first | decide | omega) (by decide)
          have b932 := jB (e := 5) 0 hJ rg_78_5_0_1 (by first | decide | omega) (by first | decide | omega)
          have q933 : h901 78 5 = h885 78 5 := by rw [← e903]; exact x_up_i (by first | decide | omega)
          have q934 : h885 78 5 = h865 78 5 := jK 0 f887 rg_78_5_0_1 (by first | decide | omega) (by first | decide | omega) (by decide)
          have q935 : h865 78 5 = h14 78 5 := by rw [← e867]; exact x_up_i (by first | decide | omega)
          have q936 : h14 78 5 = h 78 5 := jK 0 f16 rg_78_5_0_1 (by first | decide | omega) (by first | decide | omega) (by decide)
          have y937 := Is.yes c33 (by first | decide | omega)
          have w938 : Wd tB tN 10 (sk tB tN (h 75 7)) := by rw [← c21]; exact Wd.of' (by decide) y937 c22
          have e939 : sk tB tN (h14 75 7) = sk tB tN ((sk tB tN (h 75 7)) + iv_tl 10) := by rw [← c21, ← y937.1]
          have q940 : h865 75 7 = h14 75 7 := by rw [← e867]; exact x_up_k (by decide)
          refine x_retI (np := 156) (x := 0) (by decide +kernel) (by decide) (Or.inr ⟨by decide +kernel, by first | decide | omega, by first | decide | omega⟩) ⟨_, rfl, (by decide), ?_⟩
          exact ⟨j902, f904, (by first | decide | omega), (fun z => by first | decide | omega), (fun z => by first | decide | omega), (fun z => by first | decide | omega), (fun z => by first | decide | omega), (fun z => by first | decide | omega), (fun z => by first | decide | omega), (fun z => absurd z (by first | decide | omega)), (Or.inr ⟨by first | decide | omega, (or9.f (wd_910 w938) rfl rfl (wd9.y w938 rfl e939 rfl (nm9.f c894 (by first | decide | omega) (by first | decide | omega) (congrArg (sk tB tN) (show h865 75 7 = h14 75 7 by first | decide | omega)) (by first | decide | omega) (by first | decide | omega))))⟩)⟩
        have q908 : ¬ (2147483648 = 2147483648) := q908
        exfalso; omega
      have q906 : ¬ (v881 < 2147483648) := q906
      have b941 := c890 (by first | decide | omega)
      have b942 := c891 (by first | decide | omega)
      have b943 := c892 (by first | decide | omega)
      refine x_const (np := 12) (x := 9223372043297226753) (a := 2147483649) (by decide +kernel) (by decide) (by decide) ?_
      refine x_goto (np := 15) (x := 16) (by decide +kernel) ?_
      refine x_retI (np := 17) (x := 0) (by decide +kernel) (by decide) (Or.inr ⟨by decide +kernel, by first | decide | omega, by first | decide | omega⟩) ⟨_, rfl, (by decide), ?_⟩
      refine x_retI (np := 17) (x := 0) (by decide +kernel) (by decide) (Or.inr ⟨by decide +kernel, by first | decide | omega, by first | decide | omega⟩) ⟨_, rfl, (by decide), ?_⟩
      refine x_ifz (k := 0) (tg := 154) (np := 80) (by decide +kernel) (by decide) (by decide) (fun q944 => ?_) (fun q945 => ?_)
      · have q944 : 2147483649 = 2147483648 := q944
        exfalso; omega
      have q945 : ¬ (2147483649 = 2147483648) := q945
      refine x_aload (np := 81) (x := 0) (by decide +kernel) rfl (x_nc_le (by decide)) ?_
      refine x_ldcB (i := 2) (idx := 147) (tx := "day") (by rw [tb_y184]; exact List.mem_of_getElem? (i := 37) rfl) (by decide) (by rw [tb_b184]; decide +kernel) ?_
      have m950 := Tq.fr m884 f887 (by decide) (by decide)
      have m949 : Tq tB tN h901 := by rw [← e903]; exact Tq.oth m950 (by decide) (fun z => absurd z.1 (by decide))
      refine x_cI (t := 6) (mj := 172) (n := 2) (rc := 12) (ml := 2) (nr := 0) (np := 86) (as := [x_r 75, x_b (2 + 1)]) (rest := []) (lo1 := [x_r 75, x_b (2 + 1)]) (by decide +kernel) (by decide) (by decide +kernel) (x_rb_of (by decide +kernel)) rfl rfl (x_wr (by decide) (x_wB (by decide) x_wn)) x_wn (by decide) rfl (c172_75_S0 j902  (by decide) m949) (fun v946 h951 l947 q948 => ?_)
      obtain ⟨j952, f953, b954, c955, c956, c957⟩ := q948
      have f958 := Fr.trans f904 f953 (by decide)
      have q959 : h901 75 7 = h885 75 7 := by rw [← e903]; exact x_up_k (by decide)
      have b960 := jB (e := 7) 0 j952 rg_75_7_0_1 (by first | decide | omega) (by first | decide | omega)
      have q961 : h901 75 7 = h885 75 7 := by rw [← e903]; exact x_up_k (by decide)
      refine x_ifz (k := 0) (tg := 154) (np := 89) (by decide +kernel) (by decide) l947 (fun q962 => ?_) (fun q963 => ?_)
      · have q962 : v946 = 2147483648 := q962
        refine x_const (np := 155) (x := 9223372039002259456) (a := 2147483648) (by decide +kernel) (by decide) (by decide) ?_
        have b964 := jB (e := 0) 0 hJ rg_78_0_0_1 (by first | decide | omega) (by first | decide | omega)
        have q965 : h951 78 0 = h901 78 0 := jK 0 f953 rg_78_0_0_1 (by first | decide | omega) (by first | decide | omega) (by decide)
        have q966 : h901 78 0 = h885 78 0 := by rw [← e903]; exact x_up_i (by first | decide | omega)
        have q967 : h885 78 0 = h865 78 0 := jK 0 f887 rg_78_0_0_1 (by first | decide | omega) (by first | decide | omega) (by decide)
        have q968 : h865 78 0 = h14 78 0 := by rw [← e867]; exact x_up_i (by first | decide | omega)
        have q969 : h14 78 0 = h 78 0 := jK 0 f16 rg_78_0_0_1 (by first | decide | omega) (by first | decide | omega) (by decide)
        have q970 : h951 78 1 = h901 78 1 := jK 0 f953 rg_78_1_0_1 (by first | decide | omega) (by first | decide | omega) (by decide)
        have q971 : h901 78 1 = h885 78 1 := by rw [← e903]; exact x_up_i (by first | decide | omega)
        have q972 : h885 78 1 = h865 78 1 := jK 0 f887 rg_78_1_0_1 (by first | decide | omega) (by first | decide | omega) (by decide)
        have q973 : h865 78 1 = h14 78 1 := by rw [← e867]; exact x_up_i (by first | decide | omega)
        have q974 : h14 78 1 = h 78 1 := jK 0 f16 rg_78_1_0_1 (by first | decide | omega) (by first | decide | omega) (by decide)
        have b975 := jB (e := 2) 0 hJ rg_78_2_0_1 (by first | decide | omega) (by first | decide | omega)
        have q976 : h951 78 2 = h901 78 2 := jK 0 f953 rg_78_2_0_1 (by first | decide | omega) (by first | decide | omega) (by decide)
        have q977 : h901 78 2 = h885 78 2 := by rw [← e903]; exact x_up_i (by first | decide | omega)
        have q978 : h885 78 2 = h865 78 2 := jK 0 f887 rg_78_2_0_1 (by first | decide | omega) (by first | decide | omega) (by decide)
        have q979 : h865 78 2 = h14 78 2 := by rw [← e867]; exact x_up_i (by first | decide | omega)
        have q980 : h14 78 2 = h 78 2 := jK 0 f16 rg_78_2_0_1 (by first | decide | omega) (by first | decide | omega) (by decide)
        have b981 := jB (e := 3) 0 hJ rg_78_3_0_1 (by first | decide | omega) (by first | decide | omega)
        have q982 : h951 78 3 = h901 78 3 := jK 0 f953 rg_78_3_0_1 (by first | decide | omega) (by first | decide | omega) (by decide)
        have q983 : h901 78 3 = h885 78 3 := by rw [← e903]; exact x_up_i (by first | decide | omega)
        have q984 : h885 78 3 = h865 78 3 := jK 0 f887 rg_78_3_0_1 (by first | decide | omega) (by first | decide | omega) (by decide)
        have q985 : h865 78 3 = h14 78 3 := by rw [← e867]; exact x_up_i (by first | decide | omega)
        have q986 : h14 78 3 = h 78 3 := jK 0 f16 rg_78_3_0_1 (by first | decide | omega) (by first | decide | omega) (by decide)
        have q987 : h951 78 4 = h901 78 4 := jK 0 f953 rg_78_4_0_1 (by first | decide | omega) (by first | decide | omega) (by decide)
        have q988 : h901 78 4 = h885 78 4 := by rw [← e903]; exact x_up_i (by first | decide | omega)
        have q989 : h885 78 4 = h865 78 4 := jK 0 f887 rg_78_4_0_1 (by first | decide | omega) (by first | decide | omega) (by decide)
        have q990 : h865 78 4 = h14 78 4 := by rw [← e867]; exact x_up_i (by first | decide | omega)
        have q991 : h14 78 4 = h 78 4 := jK 0 f16 rg_78_4_0_1 (by first | decide | omega) (by first | decide | omega) (by decide)
        have b992 := jB (e := 5) 0 hJ rg_78_5_0_1 (by first | decide | omega) (by first | decide | omega)
        have q993 : h951 78 5 = h901 78 5 := jK 0 f953 rg_78_5_0_1 (by first | decide | omega) (by first | decide | omega) (by decide)
        have q994 : h901 78 5 = h885 78 5 := by rw [← e903]; exact x_up_i (by first | decide | omega)
        have q995 : h885 78 5 = h865 78 5 := jK 0 f887 rg_78_5_0_1 (by first | decide | omega) (by first | decide | omega) (by decide)
        have q996 : h865 78 5 = h14 78 5 := by rw [← e867]; exact x_up_i (by first | decide | omega)
        have q997 : h14 78 5 = h 78 5 := jK 0 f16 rg_78_5_0_1 (by first | decide | omega) (by first | decide | omega) (by decide)
        have y998 := Is.yes c33 (by first | decide | omega)
        have w999 : Wd tB tN 10 (sk tB tN (h 75 7)) := by rw [← c21]; exact Wd.of' (by decide) y998 c22
        have e1000 : sk tB tN (h14 75 7) = sk tB tN ((sk tB tN (h 75 7)) + iv_tl 10) := by rw [← c21, ← y998.1]
        have q1001 : h865 75 7 = h14 75 7 := by rw [← e867]; exact x_up_k (by decide)
        have q1002 : h901 75 7 = h885 75 7 := by rw [← e903]; exact x_up_k (by decide)
        refine x_retI (np := 156) (x := 0) (by decide +kernel) (by decide) (Or.inr ⟨by decide +kernel, by first | decide | omega, by first | decide | omega⟩) ⟨_, rfl, (by decide), ?_⟩
        exact ⟨j952, f958, (by first | decide | omega), (fun z => by first | decide | omega), (fun z => by first | decide | omega), (fun z => by first | decide | omega), (fun z => by first | decide | omega), (fun z => by first | decide | omega), (fun z => by first | decide | omega), (fun z => absurd z (by first | decide | omega)), (Or.inr ⟨by first | decide | omega, (or9.f (wd_910 w999) rfl rfl (wd9.y w999 rfl e1000 rfl (nm9.y c894 (by first | decide | omega) (by first | decide | omega) (congrArg (sk tB tN) (show h865 75 7 = h14 75 7 by first | decide | omega)) (by first | decide | omega) rfl (wd9.f (Tw.no c957 (by first | decide | omega)) (congrArg (sk tB tN) (show h901 75 7 = h885 75 7 by first | decide | omega)) (by first | decide | omega)))))⟩)⟩
      have q963 : ¬ (v946 = 2147483648) := q963
      have b1003 := c956 (by first | decide | omega)
      refine x_aload (np := 90) (x := 0) (by decide +kernel) rfl (x_nc_le (by decide)) ?_
      refine x_iload (np := 91) (x := 1) (by decide +kernel) rfl (by first | decide | omega) ?_
      refine x_const (np := 92) (x := 9223372047592194050) (a := 2147483650) (by decide +kernel) (by decide) (by decide) ?_
      refine x_iadd (np := 93) (x := 0) (v := (2147483850 + 5 * u8)) (by decide +kernel) (by first | decide | omega) (by decide) (by first | decide | omega) (by first | decide | omega) ?_
      refine x_const (np := 94) (x := 9223372039002259456) (a := 2147483648) (by decide +kernel) (by decide) (by decide) ?_
      refine x_nI (t := 6) (mj := 178) (n := 3) (rc := 12) (ml := 3) (nr := 0) (np := 97) (as := [x_r 75, iv_c (2147483850 + 5 * u8), iv_c 2147483648]) (rest := []) (lo1 := [x_r 75, iv_c (2147483850 + 5 * u8), iv_c 2147483648]) (by decide +kernel) (by decide) (by decide +kernel) (x_rb_of (by decide +kernel)) rfl rfl (x_wr (by decide) (x_wi (by first | decide | omega) (x_wi (by decide) x_wn))) x_wn (by decide) rfl ?_
      refine x_aload (np := 1) (x := 0) (by decide +kernel) rfl (x_nc_le (by decide)) ?_
      refine x_iload (np := 2) (x := 1) (by decide +kernel) rfl (by first | decide | omega) ?_
      refine x_aload (np := 3) (x := 0) (by decide +kernel) rfl (x_nc_le (by decide)) ?_
      refine x_iload (np := 4) (x := 2) (by decide +kernel) rfl (by decide) ?_
      refine x_const (np := 6) (x := 9223372086246899723) (a := 2147483659) (by decide +kernel) (by decide) (by decide) ?_
      have m1007 := Tq.fr m949 f953 (by decide) (by decide)
      refine x_cI (t := 6) (mj := 174) (n := 3) (rc := 12) (ml := 4) (nr := 2) (np := 9) (as := [x_r 75, iv_c 2147483648, iv_c 2147483659]) (rest := [iv_c (2147483850 + 5 * u8), x_r 75]) (lo1 := [x_r 75, iv_c 2147483648, iv_c 2147483659, 147573952589676412928]) (by decide +kernel) (by decide) (by decide +kernel) (x_rb_of (by decide +kernel)) rfl rfl (x_wr (by decide) (x_wi (by decide) (x_wi (by decide) x_wn))) (x_wi (by first | decide | omega) (x_wr (by decide) x_wn)) (by decide) rfl (c174_75 j952  (by first | decide | omega) (by first | decide | omega) m1007) (fun v1004 h1008 l1005 q1006 => ?_)
      obtain ⟨j1009, f1010, b1011, c1012, c1013, c1014, c1015, c1016, c1017⟩ := q1006
      have f1018 := Fr.trans f958 f1010 (by decide)
      have b1019 := jB (e := 7) 0 j1009 rg_75_7_0_1 (by first | decide | omega) (by first | decide | omega)
      have b1020 := c1016 (by first | decide | omega)
      refine x_nI (t := 6) (mj := 176) (n := 3) (rc := 12) (ml := 3) (nr := 0) (np := 12) (as := [x_r 75, iv_c (2147483850 + 5 * u8), iv_c v1004]) (rest := []) (lo1 := [x_r 75, iv_c (2147483850 + 5 * u8), iv_c v1004]) (by decide +kernel) (by decide) (by decide +kernel) (x_rb_of (by decide +kernel)) rfl rfl (x_wr (by decide) (x_wi (by first | decide | omega) (x_wi l1005 x_wn))) x_wn (by decide) rfl ?_
      refine x_aload (np := 1) (x := 0) (by decide +kernel) rfl (x_nc_le (by decide)) ?_
      have q1021 : h1008 75 3 = 78 := by have z := jB (e := 3) 0 j1009 rg_75_3_0_1 (by decide) (by decide); omega
      refine x_getR (np := 4) (x := 707) (f := 3) (q := 78) (by decide +kernel) (by decide) (by decide +kernel) q1021 ?_
      refine x_iload (np := 5) (x := 1) (by decide +kernel) rfl (by first | decide | omega) ?_
      refine x_iload (np := 6) (x := 2) (by decide +kernel) rfl l1005 ?_
      refine x_ast (np := 7) (x := 0) (kd := 1) (n := 290) (i := (202 + 5 * u8)) (by decide +kernel) (Or.inl rfl) (by decide +kernel) (by first | decide | omega) (by first | decide | omega) (by decide) l1005 (fun z => absurd z (by decide)) ?_
      have j1023 := jU (e := (202 + 5 * u8)) (v := v1004) u8 j1009 rg_78_202_5_10 (by first | decide | omega) (by first | decide | omega) (by first | decide | omega)
      have f1025 := jF (e := (202 + 5 * u8)) (v := v1004) u8 f1018 rg_78_202_5_10 (by first | decide | omega) (by first | decide | omega) (by decide)
      generalize e1024 : x_up h1008 78 (202 + 5 * u8) v1004 = h1022 at j1023 f1025 ⊢
      refine x_iload (np := 8) (x := 2) (by decide +kernel) rfl l1005 ?_
      refine x_ifz (k := 2) (tg := 15) (np := 11) (by decide +kernel) (by decide) l1005 (fun q1026 => ?_) (fun q1027 => ?_)
      · have q1026 : v1004 < 2147483648 := q1026
        refine x_const (np := 16) (x := 9223372039002259456) (a := 2147483648) (by decide +kernel) (by decide) (by decide) ?_
        refine x_retI (np := 17) (x := 0) (by decide +kernel) (by decide) (Or.inr ⟨by decide +kernel, by first | decide | omega, by first | decide | omega⟩) ⟨_, rfl, (by decide), ?_⟩
        refine x_retI (np := 13) (x := 0) (by decide +kernel) (by decide) (Or.inr ⟨by decide +kernel, by first | decide | omega, by first | decide | omega⟩) ⟨_, rfl, (by decide), ?_⟩
        refine x_ifz (k := 0) (tg := 154) (np := 100) (by decide +kernel) (by decide) (by decide) (fun q1028 => ?_) (fun q1029 => ?_)
        · have q1028 : 2147483648 = 2147483648 := q1028
          refine x_const (np := 155) (x := 9223372039002259456) (a := 2147483648) (by decide +kernel) (by decide) (by decide) ?_
          have b1030 := jB (e := 0) 0 hJ rg_78_0_0_1 (by first | decide | omega) (by first | decide | omega)
          have q1031 : h1022 78 0 = h1008 78 0 := by rw [← e1024]; exact x_up_i (by first | decide | omega)
          have q1032 : h1008 78 0 = h951 78 0 := jK 0 f1010 rg_78_0_0_1 (by first | decide | omega) (by first | decide | omega) (by decide)
          have q1033 : h951 78 0 = h901 78 0 := jK 0 f953 rg_78_0_0_1 (by first | decide | omega) (by first | decide | omega) (by decide)
          have q1034 : h901 78 0 = h885 78 0 := by rw [← e903]; exact x_up_i (by first | decide | omega)
          have q1035 : h885 78 0 = h865 78 0 := jK 0 f887 rg_78_0_0_1 (by first | decide | omega) (by first | decide | omega) (by decide)
          have q1036 : h865 78 0 = h14 78 0 := by rw [← e867]; exact x_up_i (by first | decide | omega)
          have q1037 : h14 78 0 = h 78 0 := jK 0 f16 rg_78_0_0_1 (by first | decide | omega) (by first | decide | omega) (by decide)
          have q1038 : h1022 78 1 = h1008 78 1 := by rw [← e1024]; exact x_up_i (by first | decide | omega)
          have q1039 : h1008 78 1 = h951 78 1 := jK 0 f1010 rg_78_1_0_1 (by first | decide | omega) (by first | decide | omega) (by decide)
          have q1040 : h951 78 1 = h901 78 1 := jK 0 f953 rg_78_1_0_1 (by first | decide | omega) (by first | decide | omega) (by decide)
          have q1041 : h901 78 1 = h885 78 1 := by rw [← e903]; exact x_up_i (by first | decide | omega)
          have q1042 : h885 78 1 = h865 78 1 := jK 0 f887 rg_78_1_0_1 (by first | decide | omega) (by first | decide | omega) (by decide)
          have q1043 : h865 78 1 = h14 78 1 := by rw [← e867]; exact x_up_i (by first | decide | omega)
          have q1044 : h14 78 1 = h 78 1 := jK 0 f16 rg_78_1_0_1 (by first | decide | omega) (by first | decide | omega) (by decide)
          have b1045 := jB (e := 2) 0 hJ rg_78_2_0_1 (by first | decide | omega) (by first | decide | omega)
          have q1046 : h1022 78 2 = h1008 78 2 := by rw [← e1024]; exact x_up_i (by first | decide | omega)
          have q1047 : h1008 78 2 = h951 78 2 := jK 0 f1010 rg_78_2_0_1 (by first | decide | omega) (by first | decide | omega) (by decide)
          have q1048 : h951 78 2 = h901 78 2 := jK 0 f953 rg_78_2_0_1 (by first | decide | omega) (by first | decide | omega) (by decide)
          have q1049 : h901 78 2 = h885 78 2 := by rw [← e903]; exact x_up_i (by first | decide | omega)
          have q1050 : h885 78 2 = h865 78 2 := jK 0 f887 rg_78_2_0_1 (by first | decide | omega) (by first | decide | omega) (by decide)
          have q1051 : h865 78 2 = h14 78 2 := by rw [← e867]; exact x_up_i (by first | decide | omega)
          have q1052 : h14 78 2 = h 78 2 := jK 0 f16 rg_78_2_0_1 (by first | decide | omega) (by first | decide | omega) (by decide)
          have b1053 := jB (e := 3) 0 hJ rg_78_3_0_1 (by first | decide | omega) (by first | decide | omega)
          have q1054 : h1022 78 3 = h1008 78 3 := by rw [← e1024]; exact x_up_i (by first | decide | omega)
          have q1055 : h1008 78 3 = h951 78 3 := jK 0 f1010 rg_78_3_0_1 (by first | decide | omega) (by first | decide | omega) (by decide)
          have q1056 : h951 78 3 = h901 78 3 := jK 0 f953 rg_78_3_0_1 (by first | decide | omega) (by first | decide | omega) (by decide)
          have q1057 : h901 78 3 = h885 78 3 := by rw [← e903]; exact x_up_i (by first | decide | omega)
          have q1058 : h885 78 3 = h865 78 3 := jK 0 f887 rg_78_3_0_1 (by first | decide | omega) (by first | decide | omega) (by decide)
          have q1059 : h865 78 3 = h14 78 3 := by rw [← e867]; exact x_up_i (by first | decide | omega)
          have q1060 : h14 78 3 = h 78 3 := jK 0 f16 rg_78_3_0_1 (by first | decide | omega) (by first | decide | omega) (by decide)
          have q1061 : h1022 78 4 = h1008 78 4 := by rw [← e1024]; exact x_up_i (by first | decide | omega)
          have q1062 : h1008 78 4 = h951 78 4 := jK 0 f1010 rg_78_4_0_1 (by first | decide | omega) (by first | decide | omega) (by decide)
          have q1063 : h951 78 4 = h901 78 4 := jK 0 f953 rg_78_4_0_1 (by first | decide | omega) (by first | decide | omega) (by decide)
          have q1064 : h901 78 4 = h885 78 4 := by rw [← e903]; exact x_up_i (by first | decide | omega)
          have q1065 : h885 78 4 = h865 78 4 := jK 0 f887 rg_78_4_0_1 (by first | decide | omega) (by first | decide | omega) (by decide)
          have q1066 : h865 78 4 = h14 78 4 := by rw [← e867]; exact x_up_i (by first | decide | omega)
          have q1067 : h14 78 4 = h 78 4 := jK 0 f16 rg_78_4_0_1 (by first | decide | omega) (by first | decide | omega) (by decide)
          have b1068 := jB (e := 5) 0 hJ rg_78_5_0_1 (by first | decide | omega) (by first | decide | omega)
          have q1069 : h1022 78 5 = h1008 78 5 := by rw [← e1024]; exact x_up_i (by first | decide | omega)
          have q1070 : h1008 78 5 = h951 78 5 := jK 0 f1010 rg_78_5_0_1 (by first | decide | omega) (by first | decide | omega) (by decide)
          have q1071 : h951 78 5 = h901 78 5 := jK 0 f953 rg_78_5_0_1 (by first | decide | omega) (by first | decide | omega) (by decide)
          have q1072 : h901 78 5 = h885 78 5 := by rw [← e903]; exact x_up_i (by first | decide | omega)
          have q1073 : h885 78 5 = h865 78 5 := jK 0 f887 rg_78_5_0_1 (by first | decide | omega) (by first | decide | omega) (by decide)
          have q1074 : h865 78 5 = h14 78 5 := by rw [← e867]; exact x_up_i (by first | decide | omega)
          have q1075 : h14 78 5 = h 78 5 := jK 0 f16 rg_78_5_0_1 (by first | decide | omega) (by first | decide | omega) (by decide)
          have y1076 := Is.yes c33 (by first | decide | omega)
          have w1077 : Wd tB tN 10 (sk tB tN (h 75 7)) := by rw [← c21]; exact Wd.of' (by decide) y1076 c22
          have e1078 : sk tB tN (h14 75 7) = sk tB tN ((sk tB tN (h 75 7)) + iv_tl 10) := by rw [← c21, ← y1076.1]
          have q1079 : h865 75 7 = h14 75 7 := by rw [← e867]; exact x_up_k (by decide)
          have q1080 : h901 75 7 = h885 75 7 := by rw [← e903]; exact x_up_k (by decide)
          obtain ⟨w1081, e1082⟩ := Tw.yes c957 (by first | decide | omega)
          refine x_retI (np := 156) (x := 0) (by decide +kernel) (by decide) (Or.inr ⟨by decide +kernel, by first | decide | omega, by first | decide | omega⟩) ⟨_, rfl, (by decide), ?_⟩
          exact ⟨j1023, f1025, (by first | decide | omega), (fun z => by first | decide | omega), (fun z => by first | decide | omega), (fun z => by first | decide | omega), (fun z => by first | decide | omega), (fun z => by first | decide | omega), (fun z => by first | decide | omega), (fun z => absurd z (by first | decide | omega)), (Or.inr ⟨by first | decide | omega, (or9.f (wd_910 w1077) rfl rfl (wd9.y w1077 rfl e1078 rfl (nm9.y c894 (by first | decide | omega) (by first | decide | omega) (congrArg (sk tB tN) (show h865 75 7 = h14 75 7 by first | decide | omega)) (by first | decide | omega) rfl (wd9.y w1081 (congrArg (sk tB tN) (show h901 75 7 = h885 75 7 by first | decide | omega)) e1082 rfl (nm9.f c1017 (by first | decide | omega) (by first | decide | omega) rfl (by first | decide | omega) (by first | decide | omega))))))⟩)⟩
        have q1029 : ¬ (2147483648 = 2147483648) := q1029
        exfalso; omega
      have q1027 : ¬ (v1004 < 2147483648) := q1027
      have b1083 := c1013 (by first | decide | omega)
      have b1084 := c1014 (by first | decide | omega)
      have b1085 := c1015 (by first | decide | omega)
      refine x_const (np := 12) (x := 9223372043297226753) (a := 2147483649) (by decide +kernel) (by decide) (by decide) ?_
      refine x_goto (np := 15) (x := 16) (by decide +kernel) ?_
      refine x_retI (np := 17) (x := 0) (by decide +kernel) (by decide) (Or.inr ⟨by decide +kernel, by first | decide | omega, by first | decide | omega⟩) ⟨_, rfl, (by decide), ?_⟩
      refine x_retI (np := 13) (x := 0) (by decide +kernel) (by decide) (Or.inr ⟨by decide +kernel, by first | decide | omega, by first | decide | omega⟩) ⟨_, rfl, (by decide), ?_⟩
      refine x_ifz (k := 0) (tg := 154) (np := 100) (by decide +kernel) (by decide) (by decide) (fun q1086 => ?_) (fun q1087 => ?_)
      · have q1086 : 2147483649 = 2147483648 := q1086
        exfalso; omega
      have q1087 : ¬ (2147483649 = 2147483648) := q1087
      refine x_aload (np := 101) (x := 0) (by decide +kernel) rfl (x_nc_le (by decide)) ?_
      refine x_ldcB (i := 11) (idx := 173) (tx := "judged") (by rw [tb_y184]; exact List.mem_of_getElem? (i := 50) rfl) (by decide) (by rw [tb_b184]; decide +kernel) ?_
      have m1092 := Tq.fr m1007 f1010 (by decide) (by decide)
      have m1091 : Tq tB tN h1022 := by rw [← e1024]; exact Tq.oth m1092 (by decide) (fun z => absurd z.1 (by decide))
      refine x_cI (t := 6) (mj := 172) (n := 2) (rc := 12) (ml := 2) (nr := 0) (np := 106) (as := [x_r 75, x_b (11 + 1)]) (rest := []) (lo1 := [x_r 75, x_b (11 + 1)]) (by decide +kernel) (by decide) (by decide +kernel) (x_rb_of (by decide +kernel)) rfl rfl (x_wr (by decide) (x_wB (by decide) x_wn)) x_wn (by decide) rfl (c172_75_S0 j1023  (by decide) m1091) (fun v1088 h1093 l1089 q1090 => ?_)
      obtain ⟨j1094, f1095, b1096, c1097, c1098, c1099⟩ := q1090
      have f1100 := Fr.trans f1025 f1095 (by decide)
      have q1101 : h1022 75 7 = h1008 75 7 := by rw [← e1024]; exact x_up_k (by decide)
      have b1102 := jB (e := 7) 0 j1094 rg_75_7_0_1 (by first | decide | omega) (by first | decide | omega)
      have q1103 : h1022 75 7 = h1008 75 7 := by rw [← e1024]; exact x_up_k (by decide)
      refine x_ifz (k := 0) (tg := 154) (np := 109) (by decide +kernel) (by decide) l1089 (fun q1104 => ?_) (fun q1105 => ?_)
      · have q1104 : v1088 = 2147483648 := q1104
        refine x_const (np := 155) (x := 9223372039002259456) (a := 2147483648) (by decide +kernel) (by decide) (by decide) ?_
        have b1106 := jB (e := 0) 0 hJ rg_78_0_0_1 (by first | decide | omega) (by first | decide | omega)
        have q1107 : h1093 78 0 = h1022 78 0 := jK 0 f1095 rg_78_0_0_1 (by first | decide | omega) (by first | decide | omega) (by decide)
        have q1108 : h1022 78 0 = h1008 78 0 := by rw [← e1024]; exact x_up_i (by first | decide | omega)
        have q1109 : h1008 78 0 = h951 78 0 := jK 0 f1010 rg_78_0_0_1 (by first | decide | omega) (by first | decide | omega) (by decide)
        have q1110 : h951 78 0 = h901 78 0 := jK 0 f953 rg_78_0_0_1 (by first | decide | omega) (by first | decide | omega) (by decide)
        have q1111 : h901 78 0 = h885 78 0 := by rw [← e903]; exact x_up_i (by first | decide | omega)
        have q1112 : h885 78 0 = h865 78 0 := jK 0 f887 rg_78_0_0_1 (by first | decide | omega) (by first | decide | omega) (by decide)
        have q1113 : h865 78 0 = h14 78 0 := by rw [← e867]; exact x_up_i (by first | decide | omega)
        have q1114 : h14 78 0 = h 78 0 := jK 0 f16 rg_78_0_0_1 (by first | decide | omega) (by first | decide | omega) (by decide)
        have q1115 : h1093 78 1 = h1022 78 1 := jK 0 f1095 rg_78_1_0_1 (by first | decide | omega) (by first | decide | omega) (by decide)
        have q1116 : h1022 78 1 = h1008 78 1 := by rw [← e1024]; exact x_up_i (by first | decide | omega)
        have q1117 : h1008 78 1 = h951 78 1 := jK 0 f1010 rg_78_1_0_1 (by first | decide | omega) (by first | decide | omega) (by decide)
        have q1118 : h951 78 1 = h901 78 1 := jK 0 f953 rg_78_1_0_1 (by first | decide | omega) (by first | decide | omega) (by decide)
        have q1119 : h901 78 1 = h885 78 1 := by rw [← e903]; exact x_up_i (by first | decide | omega)
        have q1120 : h885 78 1 = h865 78 1 := jK 0 f887 rg_78_1_0_1 (by first | decide | omega) (by first | decide | omega) (by decide)
        have q1121 : h865 78 1 = h14 78 1 := by rw [← e867]; exact x_up_i (by first | decide | omega)
        have q1122 : h14 78 1 = h 78 1 := jK 0 f16 rg_78_1_0_1 (by first | decide | omega) (by first | decide | omega) (by decide)
        have b1123 := jB (e := 2) 0 hJ rg_78_2_0_1 (by first | decide | omega) (by first | decide | omega)
        have q1124 : h1093 78 2 = h1022 78 2 := jK 0 f1095 rg_78_2_0_1 (by first | decide | omega) (by first | decide | omega) (by decide)
        have q1125 : h1022 78 2 = h1008 78 2 := by rw [← e1024]; exact x_up_i (by first | decide | omega)
        have q1126 : h1008 78 2 = h951 78 2 := jK 0 f1010 rg_78_2_0_1 (by first | decide | omega) (by first | decide | omega) (by decide)
        have q1127 : h951 78 2 = h901 78 2 := jK 0 f953 rg_78_2_0_1 (by first | decide | omega) (by first | decide | omega) (by decide)
        have q1128 : h901 78 2 = h885 78 2 := by rw [← e903]; exact x_up_i (by first | decide | omega)
        have q1129 : h885 78 2 = h865 78 2 := jK 0 f887 rg_78_2_0_1 (by first | decide | omega) (by first | decide | omega) (by decide)
        have q1130 : h865 78 2 = h14 78 2 := by rw [← e867]; exact x_up_i (by first | decide | omega)
        have q1131 : h14 78 2 = h 78 2 := jK 0 f16 rg_78_2_0_1 (by first | decide | omega) (by first | decide | omega) (by decide)
        have b1132 := jB (e := 3) 0 hJ rg_78_3_0_1 (by first | decide | omega) (by first | decide | omega)
        have q1133 : h1093 78 3 = h1022 78 3 := jK 0 f1095 rg_78_3_0_1 (by first | decide | omega) (by first | decide | omega) (by decide)
        have q1134 : h1022 78 3 = h1008 78 3 := by rw [← e1024]; exact x_up_i (by first | decide | omega)
        have q1135 : h1008 78 3 = h951 78 3 := jK 0 f1010 rg_78_3_0_1 (by first | decide | omega) (by first | decide | omega) (by decide)
        have q1136 : h951 78 3 = h901 78 3 := jK 0 f953 rg_78_3_0_1 (by first | decide | omega) (by first | decide | omega) (by decide)
        have q1137 : h901 78 3 = h885 78 3 := by rw [← e903]; exact x_up_i (by first | decide | omega)
        have q1138 : h885 78 3 = h865 78 3 := jK 0 f887 rg_78_3_0_1 (by first | decide | omega) (by first | decide | omega) (by decide)
        have q1139 : h865 78 3 = h14 78 3 := by rw [← e867]; exact x_up_i (by first | decide | omega)
        have q1140 : h14 78 3 = h 78 3 := jK 0 f16 rg_78_3_0_1 (by first | decide | omega) (by first | decide | omega) (by decide)
        have q1141 : h1093 78 4 = h1022 78 4 := jK 0 f1095 rg_78_4_0_1 (by first | decide | omega) (by first | decide | omega) (by decide)
        have q1142 : h1022 78 4 = h1008 78 4 := by rw [← e1024]; exact x_up_i (by first | decide | omega)
        have q1143 : h1008 78 4 = h951 78 4 := jK 0 f1010 rg_78_4_0_1 (by first | decide | omega) (by first | decide | omega) (by decide)
        have q1144 : h951 78 4 = h901 78 4 := jK 0 f953 rg_78_4_0_1 (by first | decide | omega) (by first | decide | omega) (by decide)
        have q1145 : h901 78 4 = h885 78 4 := by rw [← e903]; exact x_up_i (by first | decide | omega)
        have q1146 : h885 78 4 = h865 78 4 := jK 0 f887 rg_78_4_0_1 (by first | decide | omega) (by first | decide | omega) (by decide)
        have q1147 : h865 78 4 = h14 78 4 := by rw [← e867]; exact x_up_i (by first | decide | omega)
        have q1148 : h14 78 4 = h 78 4 := jK 0 f16 rg_78_4_0_1 (by first | decide | omega) (by first | decide | omega) (by decide)
        have b1149 := jB (e := 5) 0 hJ rg_78_5_0_1 (by first | decide | omega) (by first | decide | omega)
        have q1150 : h1093 78 5 = h1022 78 5 := jK 0 f1095 rg_78_5_0_1 (by first | decide | omega) (by first | decide | omega) (by decide)
        have q1151 : h1022 78 5 = h1008 78 5 := by rw [← e1024]; exact x_up_i (by first | decide | omega)
        have q1152 : h1008 78 5 = h951 78 5 := jK 0 f1010 rg_78_5_0_1 (by first | decide | omega) (by first | decide | omega) (by decide)
        have q1153 : h951 78 5 = h901 78 5 := jK 0 f953 rg_78_5_0_1 (by first | decide | omega) (by first | decide | omega) (by decide)
        have q1154 : h901 78 5 = h885 78 5 := by rw [← e903]; exact x_up_i (by first | decide | omega)
        have q1155 : h885 78 5 = h865 78 5 := jK 0 f887 rg_78_5_0_1 (by first | decide | omega) (by first | decide | omega) (by decide)
        have q1156 : h865 78 5 = h14 78 5 := by rw [← e867]; exact x_up_i (by first | decide | omega)
        have q1157 : h14 78 5 = h 78 5 := jK 0 f16 rg_78_5_0_1 (by first | decide | omega) (by first | decide | omega) (by decide)
        have y1158 := Is.yes c33 (by first | decide | omega)
        have w1159 : Wd tB tN 10 (sk tB tN (h 75 7)) := by rw [← c21]; exact Wd.of' (by decide) y1158 c22
        have e1160 : sk tB tN (h14 75 7) = sk tB tN ((sk tB tN (h 75 7)) + iv_tl 10) := by rw [← c21, ← y1158.1]
        have q1161 : h865 75 7 = h14 75 7 := by rw [← e867]; exact x_up_k (by decide)
        have q1162 : h901 75 7 = h885 75 7 := by rw [← e903]; exact x_up_k (by decide)
        obtain ⟨w1163, e1164⟩ := Tw.yes c957 (by first | decide | omega)
        have q1165 : h1022 75 7 = h1008 75 7 := by rw [← e1024]; exact x_up_k (by decide)
        refine x_retI (np := 156) (x := 0) (by decide +kernel) (by decide) (Or.inr ⟨by decide +kernel, by first | decide | omega, by first | decide | omega⟩) ⟨_, rfl, (by decide), ?_⟩
        exact ⟨j1094, f1100, (by first | decide | omega), (fun z => by first | decide | omega), (fun z => by first | decide | omega), (fun z => by first | decide | omega), (fun z => by first | decide | omega), (fun z => by first | decide | omega), (fun z => by first | decide | omega), (fun z => absurd z (by first | decide | omega)), (Or.inr ⟨by first | decide | omega, (or9.f (wd_910 w1159) rfl rfl (wd9.y w1159 rfl e1160 rfl (nm9.y c894 (by first | decide | omega) (by first | decide | omega) (congrArg (sk tB tN) (show h865 75 7 = h14 75 7 by first | decide | omega)) (by first | decide | omega) rfl (wd9.y w1163 (congrArg (sk tB tN) (show h901 75 7 = h885 75 7 by first | decide | omega)) e1164 rfl (nm9.y c1017 (by first | decide | omega) (by first | decide | omega) rfl (by first | decide | omega) rfl (wd9.f (Tw.no c1099 (by first | decide | omega)) (congrArg (sk tB tN) (show h1022 75 7 = h1008 75 7 by first | decide | omega)) (by first | decide | omega)))))))⟩)⟩
      have q1105 : ¬ (v1088 = 2147483648) := q1105
      have b1166 := c1098 (by first | decide | omega)
      refine x_aload (np := 110) (x := 0) (by decide +kernel) rfl (x_nc_le (by decide)) ?_
      refine x_iload (np := 111) (x := 1) (by decide +kernel) rfl (by first | decide | omega) ?_
      refine x_const (np := 112) (x := 9223372051887161347) (a := 2147483651) (by decide +kernel) (by decide) (by decide) ?_
      refine x_iadd (np := 113) (x := 0) (v := (2147483851 + 5 * u8)) (by decide +kernel) (by first | decide | omega) (by decide) (by first | decide | omega) (by first | decide | omega) ?_
      refine x_aload (np := 114) (x := 0) (by decide +kernel) rfl (x_nc_le (by decide)) ?_
      have q1167 : h1093 75 3 = 78 := by have z := jB (e := 3) 0 j1094 rg_75_3_0_1 (by decide) (by decide); omega
      refine x_getR (np := 117) (x := 707) (f := 3) (q := 78) (by decide +kernel) (by decide) (by decide +kernel) q1167 ?_
      refine x_iload (np := 118) (x := 1) (by decide +kernel) rfl (by first | decide | omega) ?_
      refine x_const (np := 119) (x := 9223372047592194050) (a := 2147483650) (by decide +kernel) (by decide) (by decide) ?_
      refine x_iadd (np := 120) (x := 0) (v := (2147483850 + 5 * u8)) (by decide +kernel) (by first | decide | omega) (by decide) (by first | decide | omega) (by first | decide | omega) ?_
      have q1168 : h1093 78 (202 + 5 * u8) = h1022 78 (202 + 5 * u8) := jK u8 f1095 rg_78_202_5_10 (by first | decide | omega) (by first | decide | omega) (by decide)
      have q1169 : h1022 78 (202 + 5 * u8) = v1004 := by rw [← e1024]; exact x_up_at
      refine x_aldC (np := 121) (x := 0) (n := 290) (i := (202 + 5 * u8)) (q := v1004) (by decide +kernel) (by decide +kernel) (by first | decide | omega) (by first | decide | omega) (by decide) (q1168.trans q1169) (fun l1170 => ?_)
      refine x_nI (t := 6) (mj := 178) (n := 3) (rc := 12) (ml := 3) (nr := 0) (np := 124) (as := [x_r 75, iv_c (2147483851 + 5 * u8), iv_c v1004]) (rest := []) (lo1 := [x_r 75, iv_c (2147483851 + 5 * u8), iv_c v1004]) (by decide +kernel) (by decide) (by decide +kernel) (x_rb_of (by decide +kernel)) rfl rfl (x_wr (by decide) (x_wi (by first | decide | omega) (x_wi l1005 x_wn))) x_wn (by decide) rfl ?_
      refine x_aload (np := 1) (x := 0) (by decide +kernel) rfl (x_nc_le (by decide)) ?_
      refine x_iload (np := 2) (x := 1) (by decide +kernel) rfl (by first | decide | omega) ?_
      refine x_aload (np := 3) (x := 0) (by decide +kernel) rfl (x_nc_le (by decide)) ?_
      refine x_iload (np := 4) (x := 2) (by decide +kernel) rfl l1005 ?_
      refine x_const (np := 6) (x := 9223372086246899723) (a := 2147483659) (by decide +kernel) (by decide) (by decide) ?_
      have m1174 := Tq.fr m1091 f1095 (by decide) (by decide)
      refine x_cI (t := 6) (mj := 174) (n := 3) (rc := 12) (ml := 4) (nr := 2) (np := 9) (as := [x_r 75, iv_c v1004, iv_c 2147483659]) (rest := [iv_c (2147483851 + 5 * u8), x_r 75]) (lo1 := [x_r 75, iv_c v1004, iv_c 2147483659, 147573952589676412928]) (by decide +kernel) (by decide) (by decide +kernel) (x_rb_of (by decide +kernel)) rfl rfl (x_wr (by decide) (x_wi l1005 (x_wi (by decide) x_wn))) (x_wi (by first | decide | omega) (x_wr (by decide) x_wn)) (by decide) rfl (c174_75 j1094  (by first | decide | omega) (by first | decide | omega) m1174) (fun v1171 h1175 l1172 q1173 => ?_)
      obtain ⟨j1176, f1177, b1178, c1179, c1180, c1181, c1182, c1183, c1184⟩ := q1173
      have f1185 := Fr.trans f1100 f1177 (by decide)
      have b1186 := jB (e := 7) 0 j1176 rg_75_7_0_1 (by first | decide | omega) (by first | decide | omega)
      have b1187 := c1183 (by first | decide | omega)
      refine x_nI (t := 6) (mj := 176) (n := 3) (rc := 12) (ml := 3) (nr := 0) (np := 12) (as := [x_r 75, iv_c (2147483851 + 5 * u8), iv_c v1171]) (rest := []) (lo1 := [x_r 75, iv_c (2147483851 + 5 * u8), iv_c v1171]) (by decide +kernel) (by decide) (by decide +kernel) (x_rb_of (by decide +kernel)) rfl rfl (x_wr (by decide) (x_wi (by first | decide | omega) (x_wi l1172 x_wn))) x_wn (by decide) rfl ?_
      refine x_aload (np := 1) (x := 0) (by decide +kernel) rfl (x_nc_le (by decide)) ?_
      have q1188 : h1175 75 3 = 78 := by have z := jB (e := 3) 0 j1176 rg_75_3_0_1 (by decide) (by decide); omega
      refine x_getR (np := 4) (x := 707) (f := 3) (q := 78) (by decide +kernel) (by decide) (by decide +kernel) q1188 ?_
      refine x_iload (np := 5) (x := 1) (by decide +kernel) rfl (by first | decide | omega) ?_
      refine x_iload (np := 6) (x := 2) (by decide +kernel) rfl l1172 ?_
      refine x_ast (np := 7) (x := 0) (kd := 1) (n := 290) (i := (203 + 5 * u8)) (by decide +kernel) (Or.inl rfl) (by decide +kernel) (by first | decide | omega) (by first | decide | omega) (by decide) l1172 (fun z => absurd z (by decide)) ?_
      have j1190 := jU (e := (203 + 5 * u8)) (v := v1171) u8 j1176 rg_78_203_5_10 (by first | decide | omega) (by first | decide | omega) (by first | decide | omega)
      have f1192 := jF (e := (203 + 5 * u8)) (v := v1171) u8 f1185 rg_78_203_5_10 (by first | decide | omega) (by first | decide | omega) (by decide)
      generalize e1191 : x_up h1175 78 (203 + 5 * u8) v1171 = h1189 at j1190 f1192 ⊢
      refine x_iload (np := 8) (x := 2) (by decide +kernel) rfl l1172 ?_
      refine x_ifz (k := 2) (tg := 15) (np := 11) (by decide +kernel) (by decide) l1172 (fun q1193 => ?_) (fun q1194 => ?_)
      · have q1193 : v1171 < 2147483648 := q1193
        refine x_const (np := 16) (x := 9223372039002259456) (a := 2147483648) (by decide +kernel) (by decide) (by decide) ?_
        refine x_retI (np := 17) (x := 0) (by decide +kernel) (by decide) (Or.inr ⟨by decide +kernel, by first | decide | omega, by first | decide | omega⟩) ⟨_, rfl, (by decide), ?_⟩
        refine x_retI (np := 13) (x := 0) (by decide +kernel) (by decide) (Or.inr ⟨by decide +kernel, by first | decide | omega, by first | decide | omega⟩) ⟨_, rfl, (by decide), ?_⟩
        refine x_ifz (k := 0) (tg := 154) (np := 127) (by decide +kernel) (by decide) (by decide) (fun q1195 => ?_) (fun q1196 => ?_)
        · have q1195 : 2147483648 = 2147483648 := q1195
          refine x_const (np := 155) (x := 9223372039002259456) (a := 2147483648) (by decide +kernel) (by decide) (by decide) ?_
          have b1197 := jB (e := 0) 0 hJ rg_78_0_0_1 (by first | decide | omega) (by first | decide | omega)
          have q1198 : h1189 78 0 = h1175 78 0 := by rw [← e1191]; exact x_up_i (by first | decide | omega)
          have q1199 : h1175 78 0 = h1093 78 0 := jK 0 f1177 rg_78_0_0_1 (by first | decide | omega) (by first | decide | omega) (by decide)
          have q1200 : h1093 78 0 = h1022 78 0 := jK 0 f1095 rg_78_0_0_1 (by first | decide | omega) (by first | decide | omega) (by decide)
          have q1201 : h1022 78 0 = h1008 78 0 := by rw [← e1024]; exact x_up_i (by first | decide | omega)
          have q1202 : h1008 78 0 = h951 78 0 := jK 0 f1010 rg_78_0_0_1 (by first | decide | omega) (by first | decide | omega) (by decide)
          have q1203 : h951 78 0 = h901 78 0 := jK 0 f953 rg_78_0_0_1 (by first | decide | omega) (by first | decide | omega) (by decide)
          have q1204 : h901 78 0 = h885 78 0 := by rw [← e903]; exact x_up_i (by first | decide | omega)
          have q1205 : h885 78 0 = h865 78 0 := jK 0 f887 rg_78_0_0_1 (by first | decide | omega) (by first | decide | omega) (by decide)
          have q1206 : h865 78 0 = h14 78 0 := by rw [← e867]; exact x_up_i (by first | decide | omega)
          have q1207 : h14 78 0 = h 78 0 := jK 0 f16 rg_78_0_0_1 (by first | decide | omega) (by first | decide | omega) (by decide)
          have q1208 : h1189 78 1 = h1175 78 1 := by rw [← e1191]; exact x_up_i (by first | decide | omega)
          have q1209 : h1175 78 1 = h1093 78 1 := jK 0 f1177 rg_78_1_0_1 (by first | decide | omega) (by first | decide | omega) (by decide)
          have q1210 : h1093 78 1 = h1022 78 1 := jK 0 f1095 rg_78_1_0_1 (by first | decide | omega) (by first | decide | omega) (by decide)
          have q1211 : h1022 78 1 = h1008 78 1 := by rw [← e1024]; exact x_up_i (by first | decide | omega)
          have q1212 : h1008 78 1 = h951 78 1 := jK 0 f1010 rg_78_1_0_1 (by first | decide | omega) (by first | decide | omega) (by decide)
          have q1213 : h951 78 1 = h901 78 1 := jK 0 f953 rg_78_1_0_1 (by first | decide | omega) (by first | decide | omega) (by decide)
          have q1214 : h901 78 1 = h885 78 1 := by rw [← e903]; exact x_up_i (by first | decide | omega)
          have q1215 : h885 78 1 = h865 78 1 := jK 0 f887 rg_78_1_0_1 (by first | decide | omega) (by first | decide | omega) (by decide)
          have q1216 : h865 78 1 = h14 78 1 := by rw [← e867]; exact x_up_i (by first | decide | omega)
          have q1217 : h14 78 1 = h 78 1 := jK 0 f16 rg_78_1_0_1 (by first | decide | omega) (by first | decide | omega) (by decide)
          have b1218 := jB (e := 2) 0 hJ rg_78_2_0_1 (by first | decide | omega) (by first | decide | omega)
          have q1219 : h1189 78 2 = h1175 78 2 := by rw [← e1191]; exact x_up_i (by first | decide | omega)
          have q1220 : h1175 78 2 = h1093 78 2 := jK 0 f1177 rg_78_2_0_1 (by first | decide | omega) (by first | decide | omega) (by decide)
          have q1221 : h1093 78 2 = h1022 78 2 := jK 0 f1095 rg_78_2_0_1 (by first | decide | omega) (by first | decide | omega) (by decide)
          have q1222 : h1022 78 2 = h1008 78 2 := by rw [← e1024]; exact x_up_i (by first | decide | omega)
          have q1223 : h1008 78 2 = h951 78 2 := jK 0 f1010 rg_78_2_0_1 (by first | decide | omega) (by first | decide | omega) (by decide)
          have q1224 : h951 78 2 = h901 78 2 := jK 0 f953 rg_78_2_0_1 (by first | decide | omega) (by first | decide | omega) (by decide)
          have q1225 : h901 78 2 = h885 78 2 := by rw [← e903]; exact x_up_i (by first | decide | omega)
          have q1226 : h885 78 2 = h865 78 2 := jK 0 f887 rg_78_2_0_1 (by first | decide | omega) (by first | decide | omega) (by decide)
          have q1227 : h865 78 2 = h14 78 2 := by rw [← e867]; exact x_up_i (by first | decide | omega)
          have q1228 : h14 78 2 = h 78 2 := jK 0 f16 rg_78_2_0_1 (by first | decide | omega) (by first | decide | omega) (by decide)
          have b1229 := jB (e := 3) 0 hJ rg_78_3_0_1 (by first | decide | omega) (by first | decide | omega)
          have q1230 : h1189 78 3 = h1175 78 3 := by rw [← e1191]; exact x_up_i (by first | decide | omega)
          have q1231 : h1175 78 3 = h1093 78 3 := jK 0 f1177 rg_78_3_0_1 (by first | decide | omega) (by first | decide | omega) (by decide)
          have q1232 : h1093 78 3 = h1022 78 3 := jK 0 f1095 rg_78_3_0_1 (by first | decide | omega) (by first | decide | omega) (by decide)
          have q1233 : h1022 78 3 = h1008 78 3 := by rw [← e1024]; exact x_up_i (by first | decide | omega)
          have q1234 : h1008 78 3 = h951 78 3 := jK 0 f1010 rg_78_3_0_1 (by first | decide | omega) (by first | decide | omega) (by decide)
          have q1235 : h951 78 3 = h901 78 3 := jK 0 f953 rg_78_3_0_1 (by first | decide | omega) (by first | decide | omega) (by decide)
          have q1236 : h901 78 3 = h885 78 3 := by rw [← e903]; exact x_up_i (by first | decide | omega)
          have q1237 : h885 78 3 = h865 78 3 := jK 0 f887 rg_78_3_0_1 (by first | decide | omega) (by first | decide | omega) (by decide)
          have q1238 : h865 78 3 = h14 78 3 := by rw [← e867]; exact x_up_i (by first | decide | omega)
          have q1239 : h14 78 3 = h 78 3 := jK 0 f16 rg_78_3_0_1 (by first | decide | omega) (by first | decide | omega) (by decide)
          have q1240 : h1189 78 4 = h1175 78 4 := by rw [← e1191]; exact x_up_i (by first | decide | omega)
          have q1241 : h1175 78 4 = h1093 78 4 := jK 0 f1177 rg_78_4_0_1 (by first | decide | omega) (by first | decide | omega) (by decide)
          have q1242 : h1093 78 4 = h1022 78 4 := jK 0 f1095 rg_78_4_0_1 (by first | decide | omega) (by first | decide | omega) (by decide)
          have q1243 : h1022 78 4 = h1008 78 4 := by rw [← e1024]; exact x_up_i (by first | decide | omega)
          have q1244 : h1008 78 4 = h951 78 4 := jK 0 f1010 rg_78_4_0_1 (by first | decide | omega) (by first | decide | omega) (by decide)
          have q1245 : h951 78 4 = h901 78 4 := jK 0 f953 rg_78_4_0_1 (by first | decide | omega) (by first | decide | omega) (by decide)
          have q1246 : h901 78 4 = h885 78 4 := by rw [← e903]; exact x_up_i (by first | decide | omega)
          have q1247 : h885 78 4 = h865 78 4 := jK 0 f887 rg_78_4_0_1 (by first | decide | omega) (by first | decide | omega) (by decide)
          have q1248 : h865 78 4 = h14 78 4 := by rw [← e867]; exact x_up_i (by first | decide | omega)
          have q1249 : h14 78 4 = h 78 4 := jK 0 f16 rg_78_4_0_1 (by first | decide | omega) (by first | decide | omega) (by decide)
          have b1250 := jB (e := 5) 0 hJ rg_78_5_0_1 (by first | decide | omega) (by first | decide | omega)
          have q1251 : h1189 78 5 = h1175 78 5 := by rw [← e1191]; exact x_up_i (by first | decide | omega)
          have q1252 : h1175 78 5 = h1093 78 5 := jK 0 f1177 rg_78_5_0_1 (by first | decide | omega) (by first | decide | omega) (by decide)
          have q1253 : h1093 78 5 = h1022 78 5 := jK 0 f1095 rg_78_5_0_1 (by first | decide | omega) (by first | decide | omega) (by decide)
          have q1254 : h1022 78 5 = h1008 78 5 := by rw [← e1024]; exact x_up_i (by first | decide | omega)
          have q1255 : h1008 78 5 = h951 78 5 := jK 0 f1010 rg_78_5_0_1 (by first | decide | omega) (by first | decide | omega) (by decide)
          have q1256 : h951 78 5 = h901 78 5 := jK 0 f953 rg_78_5_0_1 (by first | decide | omega) (by first | decide | omega) (by decide)
          have q1257 : h901 78 5 = h885 78 5 := by rw [← e903]; exact x_up_i (by first | decide | omega)
          have q1258 : h885 78 5 = h865 78 5 := jK 0 f887 rg_78_5_0_1 (by first | decide | omega) (by first | decide | omega) (by decide)
          have q1259 : h865 78 5 = h14 78 5 := by rw [← e867]; exact x_up_i (by first | decide | omega)
          have q1260 : h14 78 5 = h 78 5 := jK 0 f16 rg_78_5_0_1 (by first | decide | omega) (by first | decide | omega) (by decide)
          have y1261 := Is.yes c33 (by first | decide | omega)
          have w1262 : Wd tB tN 10 (sk tB tN (h 75 7)) := by rw [← c21]; exact Wd.of' (by decide) y1261 c22
          have e1263 : sk tB tN (h14 75 7) = sk tB tN ((sk tB tN (h 75 7)) + iv_tl 10) := by rw [← c21, ← y1261.1]
          have q1264 : h865 75 7 = h14 75 7 := by rw [← e867]; exact x_up_k (by decide)
          have q1265 : h901 75 7 = h885 75 7 := by rw [← e903]; exact x_up_k (by decide)
          obtain ⟨w1266, e1267⟩ := Tw.yes c957 (by first | decide | omega)
          have q1268 : h1022 75 7 = h1008 75 7 := by rw [← e1024]; exact x_up_k (by decide)
          obtain ⟨w1269, e1270⟩ := Tw.yes c1099 (by first | decide | omega)
          refine x_retI (np := 156) (x := 0) (by decide +kernel) (by decide) (Or.inr ⟨by decide +kernel, by first | decide | omega, by first | decide | omega⟩) ⟨_, rfl, (by decide), ?_⟩
          exact ⟨j1190, f1192, (by first | decide | omega), (fun z => by first | decide | omega), (fun z => by first | decide | omega), (fun z => by first | decide | omega), (fun z => by first | decide | omega), (fun z => by first | decide | omega), (fun z => by first | decide | omega), (fun z => absurd z (by first | decide | omega)), (Or.inr ⟨by first | decide | omega, (or9.f (wd_910 w1262) rfl rfl (wd9.y w1262 rfl e1263 rfl (nm9.y c894 (by first | decide | omega) (by first | decide | omega) (congrArg (sk tB tN) (show h865 75 7 = h14 75 7 by first | decide | omega)) (by first | decide | omega) rfl (wd9.y w1266 (congrArg (sk tB tN) (show h901 75 7 = h885 75 7 by first | decide | omega)) e1267 rfl (nm9.y c1017 (by first | decide | omega) (by first | decide | omega) rfl (by first | decide | omega) rfl (wd9.y w1269 (congrArg (sk tB tN) (show h1022 75 7 = h1008 75 7 by first | decide | omega)) e1270 rfl (nm9.f c1184 (by first | decide | omega) (by first | decide | omega) rfl (by first | decide | omega) (by first | decide | omega))))))))⟩)⟩
        have q1196 : ¬ (2147483648 = 2147483648) := q1196
        exfalso; omega
      have q1194 : ¬ (v1171 < 2147483648) := q1194
      have b1271 := c1180 (by first | decide | omega)
      have b1272 := c1181 (by first | decide | omega)
      have b1273 := c1182 (by first | decide | omega)
      refine x_const (np := 12) (x := 9223372043297226753) (a := 2147483649) (by decide +kernel) (by decide) (by decide) ?_
      refine x_goto (np := 15) (x := 16) (by decide +kernel) ?_
      refine x_retI (np := 17) (x := 0) (by decide +kernel) (by decide) (Or.inr ⟨by decide +kernel, by first | decide | omega, by first | decide | omega⟩) ⟨_, rfl, (by decide), ?_⟩
      refine x_retI (np := 13) (x := 0) (by decide +kernel) (by decide) (Or.inr ⟨by decide +kernel, by first | decide | omega, by first | decide | omega⟩) ⟨_, rfl, (by decide), ?_⟩
      refine x_ifz (k := 0) (tg := 154) (np := 127) (by decide +kernel) (by decide) (by decide) (fun q1274 => ?_) (fun q1275 => ?_)
      · have q1274 : 2147483649 = 2147483648 := q1274
        exfalso; omega
      have q1275 : ¬ (2147483649 = 2147483648) := q1275
      refine x_aload (np := 128) (x := 0) (by decide +kernel) rfl (x_nc_le (by decide)) ?_
      refine x_ldcB (i := 12) (idx := 175) (tx := "of") (by rw [tb_y184]; exact List.mem_of_getElem? (i := 51) rfl) (by decide) (by rw [tb_b184]; decide +kernel) ?_
      have m1280 := Tq.fr m1174 f1177 (by decide) (by decide)
      have m1279 : Tq tB tN h1189 := by rw [← e1191]; exact Tq.oth m1280 (by decide) (fun z => absurd z.1 (by decide))
      refine x_cI (t := 6) (mj := 172) (n := 2) (rc := 12) (ml := 2) (nr := 0) (np := 133) (as := [x_r 75, x_b (12 + 1)]) (rest := []) (lo1 := [x_r 75, x_b (12 + 1)]) (by decide +kernel) (by decide) (by decide +kernel) (x_rb_of (by decide +kernel)) rfl rfl (x_wr (by decide) (x_wB (by decide) x_wn)) x_wn (by decide) rfl (c172_75_S0 j1190  (by decide) m1279) (fun v1276 h1281 l1277 q1278 => ?_)
      obtain ⟨j1282, f1283, b1284, c1285, c1286, c1287⟩ := q1278
      have f1288 := Fr.trans f1192 f1283 (by decide)
      have q1289 : h1189 75 7 = h1175 75 7 := by rw [← e1191]; exact x_up_k (by decide)
      have b1290 := jB (e := 7) 0 j1282 rg_75_7_0_1 (by first | decide | omega) (by first | decide | omega)
      have q1291 : h1189 75 7 = h1175 75 7 := by rw [← e1191]; exact x_up_k (by decide)
      refine x_ifz (k := 0) (tg := 154) (np := 136) (by decide +kernel) (by decide) l1277 (fun q1292 => ?_) (fun q1293 => ?_)
      · have q1292 : v1276 = 2147483648 := q1292
        refine x_const (np := 155) (x := 9223372039002259456) (a := 2147483648) (by decide +kernel) (by decide) (by decide) ?_
        have b1294 := jB (e := 0) 0 hJ rg_78_0_0_1 (by first | decide | omega) (by first | decide | omega)
        have q1295 : h1281 78 0 = h1189 78 0 := jK 0 f1283 rg_78_0_0_1 (by first | decide | omega) (by first | decide | omega) (by decide)
        have q1296 : h1189 78 0 = h1175 78 0 := by rw [← e1191]; exact x_up_i (by first | decide | omega)
        have q1297 : h1175 78 0 = h1093 78 0 := jK 0 f1177 rg_78_0_0_1 (by first | decide | omega) (by first | decide | omega) (by decide)
        have q1298 : h1093 78 0 = h1022 78 0 := jK 0 f1095 rg_78_0_0_1 (by first | decide | omega) (by first | decide | omega) (by decide)
        have q1299 : h1022 78 0 = h1008 78 0 := by rw [← e1024]; exact x_up_i (by first | decide | omega)
        have q1300 : h1008 78 0 = h951 78 0 := jK 0 f1010 rg_78_0_0_1 (by first | decide | omega) (by first | decide | omega) (by decide)
        have q1301 : h951 78 0 = h901 78 0 := jK 0 f953 rg_78_0_0_1 (by first | decide | omega) (by first | decide | omega) (by decide)
        have q1302 : h901 78 0 = h885 78 0 := by rw [← e903]; exact x_up_i (by first | decide | omega)
        have q1303 : h885 78 0 = h865 78 0 := jK 0 f887 rg_78_0_0_1 (by first | decide | omega) (by first | decide | omega) (by decide)
        have q1304 : h865 78 0 = h14 78 0 := by rw [← e867]; exact x_up_i (by first | decide | omega)
        have q1305 : h14 78 0 = h 78 0 := jK 0 f16 rg_78_0_0_1 (by first | decide | omega) (by first | decide | omega) (by decide)
        have q1306 : h1281 78 1 = h1189 78 1 := jK 0 f1283 rg_78_1_0_1 (by first | decide | omega) (by first | decide | omega) (by decide)
        have q1307 : h1189 78 1 = h1175 78 1 := by rw [← e1191]; exact x_up_i (by first | decide | omega)
        have q1308 : h1175 78 1 = h1093 78 1 := jK 0 f1177 rg_78_1_0_1 (by first | decide | omega) (by first | decide | omega) (by decide)
        have q1309 : h1093 78 1 = h1022 78 1 := jK 0 f1095 rg_78_1_0_1 (by first | decide | omega) (by first | decide | omega) (by decide)
        have q1310 : h1022 78 1 = h1008 78 1 := by rw [← e1024]; exact x_up_i (by first | decide | omega)
        have q1311 : h1008 78 1 = h951 78 1 := jK 0 f1010 rg_78_1_0_1 (by first | decide | omega) (by first | decide | omega) (by decide)
        have q1312 : h951 78 1 = h901 78 1 := jK 0 f953 rg_78_1_0_1 (by first | decide | omega) (by first | decide | omega) (by decide)
        have q1313 : h901 78 1 = h885 78 1 := by rw [← e903]; exact x_up_i (by first | decide | omega)
        have q1314 : h885 78 1 = h865 78 1 := jK 0 f887 rg_78_1_0_1 (by first | decide | omega) (by first | decide | omega) (by decide)
        have q1315 : h865 78 1 = h14 78 1 := by rw [← e867]; exact x_up_i (by first | decide | omega)
        have q1316 : h14 78 1 = h 78 1 := jK 0 f16 rg_78_1_0_1 (by first | decide | omega) (by first | decide | omega) (by decide)
        have b1317 := jB (e := 2) 0 hJ rg_78_2_0_1 (by first | decide | omega) (by first | decide | omega)
        have q1318 : h1281 78 2 = h1189 78 2 := jK 0 f1283 rg_78_2_0_1 (by first | decide | omega) (by first | decide | omega) (by decide)
        have q1319 : h1189 78 2 = h1175 78 2 := by rw [← e1191]; exact x_up_i (by first | decide | omega)
        have q1320 : h1175 78 2 = h1093 78 2 := jK 0 f1177 rg_78_2_0_1 (by first | decide | omega) (by first | decide | omega) (by decide)
        have q1321 : h1093 78 2 = h1022 78 2 := jK 0 f1095 rg_78_2_0_1 (by first | decide | omega) (by first | decide | omega) (by decide)
        have q1322 : h1022 78 2 = h1008 78 2 := by rw [← e1024]; exact x_up_i (by first | decide | omega)
        have q1323 : h1008 78 2 = h951 78 2 := jK 0 f1010 rg_78_2_0_1 (by first | decide | omega) (by first | decide | omega) (by decide)
        have q1324 : h951 78 2 = h901 78 2 := jK 0 f953 rg_78_2_0_1 (by first | decide | omega) (by first | decide | omega) (by decide)
        have q1325 : h901 78 2 = h885 78 2 := by rw [← e903]; exact x_up_i (by first | decide | omega)
        have q1326 : h885 78 2 = h865 78 2 := jK 0 f887 rg_78_2_0_1 (by first | decide | omega) (by first | decide | omega) (by decide)
        have q1327 : h865 78 2 = h14 78 2 := by rw [← e867]; exact x_up_i (by first | decide | omega)
        have q1328 : h14 78 2 = h 78 2 := jK 0 f16 rg_78_2_0_1 (by first | decide | omega) (by first | decide | omega) (by decide)
        have b1329 := jB (e := 3) 0 hJ rg_78_3_0_1 (by first | decide | omega) (by first | decide | omega)
        have q1330 : h1281 78 3 = h1189 78 3 := jK 0 f1283 rg_78_3_0_1 (by first | decide | omega) (by first | decide | omega) (by decide)
        have q1331 : h1189 78 3 = h1175 78 3 := by rw [← e1191]; exact x_up_i (by first | decide | omega)
        have q1332 : h1175 78 3 = h1093 78 3 := jK 0 f1177 rg_78_3_0_1 (by first | decide | omega) (by first | decide | omega) (by decide)
        have q1333 : h1093 78 3 = h1022 78 3 := jK 0 f1095 rg_78_3_0_1 (by first | decide | omega) (by first | decide | omega) (by decide)
        have q1334 : h1022 78 3 = h1008 78 3 := by rw [← e1024]; exact x_up_i (by first | decide | omega)
        have q1335 : h1008 78 3 = h951 78 3 := jK 0 f1010 rg_78_3_0_1 (by first | decide | omega) (by first | decide | omega) (by decide)
        have q1336 : h951 78 3 = h901 78 3 := jK 0 f953 rg_78_3_0_1 (by first | decide | omega) (by first | decide | omega) (by decide)
        have q1337 : h901 78 3 = h885 78 3 := by rw [← e903]; exact x_up_i (by first | decide | omega)
        have q1338 : h885 78 3 = h865 78 3 := jK 0 f887 rg_78_3_0_1 (by first | decide | omega) (by first | decide | omega) (by decide)
        have q1339 : h865 78 3 = h14 78 3 := by rw [← e867]; exact x_up_i (by first | decide | omega)
        have q1340 : h14 78 3 = h 78 3 := jK 0 f16 rg_78_3_0_1 (by first | decide | omega) (by first | decide | omega) (by decide)
        have q1341 : h1281 78 4 = h1189 78 4 := jK 0 f1283 rg_78_4_0_1 (by first | decide | omega) (by first | decide | omega) (by decide)
        have q1342 : h1189 78 4 = h1175 78 4 := by rw [← e1191]; exact x_up_i (by first | decide | omega)
        have q1343 : h1175 78 4 = h1093 78 4 := jK 0 f1177 rg_78_4_0_1 (by first | decide | omega) (by first | decide | omega) (by decide)
        have q1344 : h1093 78 4 = h1022 78 4 := jK 0 f1095 rg_78_4_0_1 (by first | decide | omega) (by first | decide | omega) (by decide)
        have q1345 : h1022 78 4 = h1008 78 4 := by rw [← e1024]; exact x_up_i (by first | decide | omega)
        have q1346 : h1008 78 4 = h951 78 4 := jK 0 f1010 rg_78_4_0_1 (by first | decide | omega) (by first | decide | omega) (by decide)
        have q1347 : h951 78 4 = h901 78 4 := jK 0 f953 rg_78_4_0_1 (by first | decide | omega) (by first | decide | omega) (by decide)
        have q1348 : h901 78 4 = h885 78 4 := by rw [← e903]; exact x_up_i (by first | decide | omega)
        have q1349 : h885 78 4 = h865 78 4 := jK 0 f887 rg_78_4_0_1 (by first | decide | omega) (by first | decide | omega) (by decide)
        have q1350 : h865 78 4 = h14 78 4 := by rw [← e867]; exact x_up_i (by first | decide | omega)
        have q1351 : h14 78 4 = h 78 4 := jK 0 f16 rg_78_4_0_1 (by first | decide | omega) (by first | decide | omega) (by decide)
        have b1352 := jB (e := 5) 0 hJ rg_78_5_0_1 (by first | decide | omega) (by first | decide | omega)
        have q1353 : h1281 78 5 = h1189 78 5 := jK 0 f1283 rg_78_5_0_1 (by first | decide | omega) (by first | decide | omega) (by decide)
        have q1354 : h1189 78 5 = h1175 78 5 := by rw [← e1191]; exact x_up_i (by first | decide | omega)
        have q1355 : h1175 78 5 = h1093 78 5 := jK 0 f1177 rg_78_5_0_1 (by first | decide | omega) (by first | decide | omega) (by decide)
        have q1356 : h1093 78 5 = h1022 78 5 := jK 0 f1095 rg_78_5_0_1 (by first | decide | omega) (by first | decide | omega) (by decide)
        have q1357 : h1022 78 5 = h1008 78 5 := by rw [← e1024]; exact x_up_i (by first | decide | omega)
        have q1358 : h1008 78 5 = h951 78 5 := jK 0 f1010 rg_78_5_0_1 (by first | decide | omega) (by first | decide | omega) (by decide)
        have q1359 : h951 78 5 = h901 78 5 := jK 0 f953 rg_78_5_0_1 (by first | decide | omega) (by first | decide | omega) (by decide)
        have q1360 : h901 78 5 = h885 78 5 := by rw [← e903]; exact x_up_i (by first | decide | omega)
        have q1361 : h885 78 5 = h865 78 5 := jK 0 f887 rg_78_5_0_1 (by first | decide | omega) (by first | decide | omega) (by decide)
        have q1362 : h865 78 5 = h14 78 5 := by rw [← e867]; exact x_up_i (by first | decide | omega)
        have q1363 : h14 78 5 = h 78 5 := jK 0 f16 rg_78_5_0_1 (by first | decide | omega) (by first | decide | omega) (by decide)
        have y1364 := Is.yes c33 (by first | decide | omega)
        have w1365 : Wd tB tN 10 (sk tB tN (h 75 7)) := by rw [← c21]; exact Wd.of' (by decide) y1364 c22
        have e1366 : sk tB tN (h14 75 7) = sk tB tN ((sk tB tN (h 75 7)) + iv_tl 10) := by rw [← c21, ← y1364.1]
        have q1367 : h865 75 7 = h14 75 7 := by rw [← e867]; exact x_up_k (by decide)
        have q1368 : h901 75 7 = h885 75 7 := by rw [← e903]; exact x_up_k (by decide)
        obtain ⟨w1369, e1370⟩ := Tw.yes c957 (by first | decide | omega)
        have q1371 : h1022 75 7 = h1008 75 7 := by rw [← e1024]; exact x_up_k (by decide)
        obtain ⟨w1372, e1373⟩ := Tw.yes c1099 (by first | decide | omega)
        have q1374 : h1189 75 7 = h1175 75 7 := by rw [← e1191]; exact x_up_k (by decide)
        refine x_retI (np := 156) (x := 0) (by decide +kernel) (by decide) (Or.inr ⟨by decide +kernel, by first | decide | omega, by first | decide | omega⟩) ⟨_, rfl, (by decide), ?_⟩
        exact ⟨j1282, f1288, (by first | decide | omega), (fun z => by first | decide | omega), (fun z => by first | decide | omega), (fun z => by first | decide | omega), (fun z => by first | decide | omega), (fun z => by first | decide | omega), (fun z => by first | decide | omega), (fun z => absurd z (by first | decide | omega)), (Or.inr ⟨by first | decide | omega, (or9.f (wd_910 w1365) rfl rfl (wd9.y w1365 rfl e1366 rfl (nm9.y c894 (by first | decide | omega) (by first | decide | omega) (congrArg (sk tB tN) (show h865 75 7 = h14 75 7 by first | decide | omega)) (by first | decide | omega) rfl (wd9.y w1369 (congrArg (sk tB tN) (show h901 75 7 = h885 75 7 by first | decide | omega)) e1370 rfl (nm9.y c1017 (by first | decide | omega) (by first | decide | omega) rfl (by first | decide | omega) rfl (wd9.y w1372 (congrArg (sk tB tN) (show h1022 75 7 = h1008 75 7 by first | decide | omega)) e1373 rfl (nm9.y c1184 (by first | decide | omega) (by first | decide | omega) rfl (by first | decide | omega) rfl (wd9.f (Tw.no c1287 (by first | decide | omega)) (congrArg (sk tB tN) (show h1189 75 7 = h1175 75 7 by first | decide | omega)) (by first | decide | omega)))))))))⟩)⟩
      have q1293 : ¬ (v1276 = 2147483648) := q1293
      have b1375 := c1286 (by first | decide | omega)
      refine x_aload (np := 137) (x := 0) (by decide +kernel) rfl (x_nc_le (by decide)) ?_
      refine x_iload (np := 138) (x := 1) (by decide +kernel) rfl (by first | decide | omega) ?_
      refine x_const (np := 139) (x := 9223372056182128644) (a := 2147483652) (by decide +kernel) (by decide) (by decide) ?_
      refine x_iadd (np := 140) (x := 0) (v := (2147483852 + 5 * u8)) (by decide +kernel) (by first | decide | omega) (by decide) (by first | decide | omega) (by first | decide | omega) ?_
      refine x_aload (np := 141) (x := 0) (by decide +kernel) rfl (x_nc_le (by decide)) ?_
      refine x_const (np := 142) (x := 9223372039002259456) (a := 2147483648) (by decide +kernel) (by decide) (by decide) ?_
      refine x_const (np := 145) (x := 9223376329674589159) (a := 2147484647) (by decide +kernel) (by decide) (by decide) ?_
      have m1379 := Tq.fr m1279 f1283 (by decide) (by decide)
      refine x_cI (t := 6) (mj := 174) (n := 3) (rc := 12) (ml := 4) (nr := 2) (np := 148) (as := [x_r 75, iv_c 2147483648, iv_c 2147484647]) (rest := [iv_c (2147483852 + 5 * u8), x_r 75]) (lo1 := [x_r 75, iv_c 2147483648, iv_c 2147484647, 147573952589676412928]) (by decide +kernel) (by decide) (by decide +kernel) (x_rb_of (by decide +kernel)) rfl rfl (x_wr (by decide) (x_wi (by decide) (x_wi (by decide) x_wn))) (x_wi (by first | decide | omega) (x_wr (by decide) x_wn)) (by decide) rfl (c174_75 j1282  (by first | decide | omega) (by first | decide | omega) m1379) (fun v1376 h1380 l1377 q1378 => ?_)
      obtain ⟨j1381, f1382, b1383, c1384, c1385, c1386, c1387, c1388, c1389⟩ := q1378
      have f1390 := Fr.trans f1288 f1382 (by decide)
      have b1391 := jB (e := 7) 0 j1381 rg_75_7_0_1 (by first | decide | omega) (by first | decide | omega)
      have b1392 := c1388 (by first | decide | omega)
      refine x_nI (t := 6) (mj := 176) (n := 3) (rc := 12) (ml := 3) (nr := 0) (np := 151) (as := [x_r 75, iv_c (2147483852 + 5 * u8), iv_c v1376]) (rest := []) (lo1 := [x_r 75, iv_c (2147483852 + 5 * u8), iv_c v1376]) (by decide +kernel) (by decide) (by decide +kernel) (x_rb_of (by decide +kernel)) rfl rfl (x_wr (by decide) (x_wi (by first | decide | omega) (x_wi l1377 x_wn))) x_wn (by decide) rfl ?_
      refine x_aload (np := 1) (x := 0) (by decide +kernel) rfl (x_nc_le (by decide)) ?_
      have q1393 : h1380 75 3 = 78 := by have z := jB (e := 3) 0 j1381 rg_75_3_0_1 (by decide) (by decide); omega
      refine x_getR (np := 4) (x := 707) (f := 3) (q := 78) (by decide +kernel) (by decide) (by decide +kernel) q1393 ?_
      refine x_iload (np := 5) (x := 1) (by decide +kernel) rfl (by first | decide | omega) ?_
      refine x_iload (np := 6) (x := 2) (by decide +kernel) rfl l1377 ?_
      refine x_ast (np := 7) (x := 0) (kd := 1) (n := 290) (i := (204 + 5 * u8)) (by decide +kernel) (Or.inl rfl) (by decide +kernel) (by first | decide | omega) (by first | decide | omega) (by decide) l1377 (fun z => absurd z (by decide)) ?_
      have j1395 := jU (e := (204 + 5 * u8)) (v := v1376) u8 j1381 rg_78_204_5_10 (by first | decide | omega) (by first | decide | omega) (by first | decide | omega)
      have f1397 := jF (e := (204 + 5 * u8)) (v := v1376) u8 f1390 rg_78_204_5_10 (by first | decide | omega) (by first | decide | omega) (by decide)
      generalize e1396 : x_up h1380 78 (204 + 5 * u8) v1376 = h1394 at j1395 f1397 ⊢
      refine x_iload (np := 8) (x := 2) (by decide +kernel) rfl l1377 ?_
      refine x_ifz (k := 2) (tg := 15) (np := 11) (by decide +kernel) (by decide) l1377 (fun q1398 => ?_) (fun q1399 => ?_)
      · have q1398 : v1376 < 2147483648 := q1398
        refine x_const (np := 16) (x := 9223372039002259456) (a := 2147483648) (by decide +kernel) (by decide) (by decide) ?_
        refine x_retI (np := 17) (x := 0) (by decide +kernel) (by decide) (Or.inr ⟨by decide +kernel, by first | decide | omega, by first | decide | omega⟩) ⟨_, rfl, (by decide), ?_⟩
        refine x_ifz (k := 1) (tg := 156) (np := 154) (by decide +kernel) (by decide) (by decide) (fun q1400 => ?_) (fun q1401 => ?_)
        · have q1400 : 2147483648 ≠ 2147483648 := q1400
          exfalso; omega
        have q1401 : ¬ (2147483648 ≠ 2147483648) := q1401
        refine x_const (np := 155) (x := 9223372039002259456) (a := 2147483648) (by decide +kernel) (by decide) (by decide) ?_
        have b1402 := jB (e := 0) 0 hJ rg_78_0_0_1 (by first | decide | omega) (by first | decide | omega)
        have q1403 : h1394 78 0 = h1380 78 0 := by rw [← e1396]; exact x_up_i (by first | decide | omega)
        have q1404 : h1380 78 0 = h1281 78 0 := jK 0 f1382 rg_78_0_0_1 (by first | decide | omega) (by first | decide | omega) (by decide)
        have q1405 : h1281 78 0 = h1189 78 0 := jK 0 f1283 rg_78_0_0_1 (by first | decide | omega) (by first | decide | omega) (by decide)
        have q1406 : h1189 78 0 = h1175 78 0 := by rw [← e1191]; exact x_up_i (by first | decide | omega)
        have q1407 : h1175 78 0 = h1093 78 0 := jK 0 f1177 rg_78_0_0_1 (by first | decide | omega) (by first | decide | omega) (by decide)
        have q1408 : h1093 78 0 = h1022 78 0 := jK 0 f1095 rg_78_0_0_1 (by first | decide | omega) (by first | decide | omega) (by decide)
        have q1409 : h1022 78 0 = h1008 78 0 := by rw [← e1024]; exact x_up_i (by first | decide | omega)
        have q1410 : h1008 78 0 = h951 78 0 := jK 0 f1010 rg_78_0_0_1 (by first | decide | omega) (by first | decide | omega) (by decide)
        have q1411 : h951 78 0 = h901 78 0 := jK 0 f953 rg_78_0_0_1 (by first | decide | omega) (by first | decide | omega) (by decide)
        have q1412 : h901 78 0 = h885 78 0 := by rw [← e903]; exact x_up_i (by first | decide | omega)
        have q1413 : h885 78 0 = h865 78 0 := jK 0 f887 rg_78_0_0_1 (by first | decide | omega) (by first | decide | omega) (by decide)
        have q1414 : h865 78 0 = h14 78 0 := by rw [← e867]; exact x_up_i (by first | decide | omega)
        have q1415 : h14 78 0 = h 78 0 := jK 0 f16 rg_78_0_0_1 (by first | decide | omega) (by first | decide | omega) (by decide)
        have q1416 : h1394 78 1 = h1380 78 1 := by rw [← e1396]; exact x_up_i (by first | decide | omega)
        have q1417 : h1380 78 1 = h1281 78 1 := jK 0 f1382 rg_78_1_0_1 (by first | decide | omega) (by first | decide | omega) (by decide)
        have q1418 : h1281 78 1 = h1189 78 1 := jK 0 f1283 rg_78_1_0_1 (by first | decide | omega) (by first | decide | omega) (by decide)
        have q1419 : h1189 78 1 = h1175 78 1 := by rw [← e1191]; exact x_up_i (by first | decide | omega)
        have q1420 : h1175 78 1 = h1093 78 1 := jK 0 f1177 rg_78_1_0_1 (by first | decide | omega) (by first | decide | omega) (by decide)
        have q1421 : h1093 78 1 = h1022 78 1 := jK 0 f1095 rg_78_1_0_1 (by first | decide | omega) (by first | decide | omega) (by decide)
        have q1422 : h1022 78 1 = h1008 78 1 := by rw [← e1024]; exact x_up_i (by first | decide | omega)
        have q1423 : h1008 78 1 = h951 78 1 := jK 0 f1010 rg_78_1_0_1 (by first | decide | omega) (by first | decide | omega) (by decide)
        have q1424 : h951 78 1 = h901 78 1 := jK 0 f953 rg_78_1_0_1 (by first | decide | omega) (by first | decide | omega) (by decide)
        have q1425 : h901 78 1 = h885 78 1 := by rw [← e903]; exact x_up_i (by first | decide | omega)
        have q1426 : h885 78 1 = h865 78 1 := jK 0 f887 rg_78_1_0_1 (by first | decide | omega) (by first | decide | omega) (by decide)
        have q1427 : h865 78 1 = h14 78 1 := by rw [← e867]; exact x_up_i (by first | decide | omega)
        have q1428 : h14 78 1 = h 78 1 := jK 0 f16 rg_78_1_0_1 (by first | decide | omega) (by first | decide | omega) (by decide)
        have b1429 := jB (e := 2) 0 hJ rg_78_2_0_1 (by first | decide | omega) (by first | decide | omega)
        have q1430 : h1394 78 2 = h1380 78 2 := by rw [← e1396]; exact x_up_i (by first | decide | omega)
        have q1431 : h1380 78 2 = h1281 78 2 := jK 0 f1382 rg_78_2_0_1 (by first | decide | omega) (by first | decide | omega) (by decide)
        have q1432 : h1281 78 2 = h1189 78 2 := jK 0 f1283 rg_78_2_0_1 (by first | decide | omega) (by first | decide | omega) (by decide)
        have q1433 : h1189 78 2 = h1175 78 2 := by rw [← e1191]; exact x_up_i (by first | decide | omega)
        have q1434 : h1175 78 2 = h1093 78 2 := jK 0 f1177 rg_78_2_0_1 (by first | decide | omega) (by first | decide | omega) (by decide)
        have q1435 : h1093 78 2 = h1022 78 2 := jK 0 f1095 rg_78_2_0_1 (by first | decide | omega) (by first | decide | omega) (by decide)
        have q1436 : h1022 78 2 = h1008 78 2 := by rw [← e1024]; exact x_up_i (by first | decide | omega)
        have q1437 : h1008 78 2 = h951 78 2 := jK 0 f1010 rg_78_2_0_1 (by first | decide | omega) (by first | decide | omega) (by decide)
        have q1438 : h951 78 2 = h901 78 2 := jK 0 f953 rg_78_2_0_1 (by first | decide | omega) (by first | decide | omega) (by decide)
        have q1439 : h901 78 2 = h885 78 2 := by rw [← e903]; exact x_up_i (by first | decide | omega)
        have q1440 : h885 78 2 = h865 78 2 := jK 0 f887 rg_78_2_0_1 (by first | decide | omega) (by first | decide | omega) (by decide)
        have q1441 : h865 78 2 = h14 78 2 := by rw [← e867]; exact x_up_i (by first | decide | omega)
        have q1442 : h14 78 2 = h 78 2 := jK 0 f16 rg_78_2_0_1 (by first | decide | omega) (by first | decide | omega) (by decide)
        have b1443 := jB (e := 3) 0 hJ rg_78_3_0_1 (by first | decide | omega) (by first | decide | omega)
        have q1444 : h1394 78 3 = h1380 78 3 := by rw [← e1396]; exact x_up_i (by first | decide | omega)
        have q1445 : h1380 78 3 = h1281 78 3 := jK 0 f1382 rg_78_3_0_1 (by first | decide | omega) (by first | decide | omega) (by decide)
        have q1446 : h1281 78 3 = h1189 78 3 := jK 0 f1283 rg_78_3_0_1 (by first | decide | omega) (by first | decide | omega) (by decide)
        have q1447 : h1189 78 3 = h1175 78 3 := by rw [← e1191]; exact x_up_i (by first | decide | omega)
        have q1448 : h1175 78 3 = h1093 78 3 := jK 0 f1177 rg_78_3_0_1 (by first | decide | omega) (by first | decide | omega) (by decide)
        have q1449 : h1093 78 3 = h1022 78 3 := jK 0 f1095 rg_78_3_0_1 (by first | decide | omega) (by first | decide | omega) (by decide)
        have q1450 : h1022 78 3 = h1008 78 3 := by rw [← e1024]; exact x_up_i (by first | decide | omega)
        have q1451 : h1008 78 3 = h951 78 3 := jK 0 f1010 rg_78_3_0_1 (by first | decide | omega) (by first | decide | omega) (by decide)
        have q1452 : h951 78 3 = h901 78 3 := jK 0 f953 rg_78_3_0_1 (by first | decide | omega) (by first | decide | omega) (by decide)
        have q1453 : h901 78 3 = h885 78 3 := by rw [← e903]; exact x_up_i (by first | decide | omega)
        have q1454 : h885 78 3 = h865 78 3 := jK 0 f887 rg_78_3_0_1 (by first | decide | omega) (by first | decide | omega) (by decide)
        have q1455 : h865 78 3 = h14 78 3 := by rw [← e867]; exact x_up_i (by first | decide | omega)
        have q1456 : h14 78 3 = h 78 3 := jK 0 f16 rg_78_3_0_1 (by first | decide | omega) (by first | decide | omega) (by decide)
        have q1457 : h1394 78 4 = h1380 78 4 := by rw [← e1396]; exact x_up_i (by first | decide | omega)
        have q1458 : h1380 78 4 = h1281 78 4 := jK 0 f1382 rg_78_4_0_1 (by first | decide | omega) (by first | decide | omega) (by decide)
        have q1459 : h1281 78 4 = h1189 78 4 := jK 0 f1283 rg_78_4_0_1 (by first | decide | omega) (by first | decide | omega) (by decide)
        have q1460 : h1189 78 4 = h1175 78 4 := by rw [← e1191]; exact x_up_i (by first | decide | omega)
        have q1461 : h1175 78 4 = h1093 78 4 := jK 0 f1177 rg_78_4_0_1 (by first | decide | omega) (by first | decide | omega) (by decide)
        have q1462 : h1093 78 4 = h1022 78 4 := jK 0 f1095 rg_78_4_0_1 (by first | decide | omega) (by first | decide | omega) (by decide)
        have q1463 : h1022 78 4 = h1008 78 4 := by rw [← e1024]; exact x_up_i (by first | decide | omega)
        have q1464 : h1008 78 4 = h951 78 4 := jK 0 f1010 rg_78_4_0_1 (by first | decide | omega) (by first | decide | omega) (by decide)
        have q1465 : h951 78 4 = h901 78 4 := jK 0 f953 rg_78_4_0_1 (by first | decide | omega) (by first | decide | omega) (by decide)
        have q1466 : h901 78 4 = h885 78 4 := by rw [← e903]; exact x_up_i (by first | decide | omega)
        have q1467 : h885 78 4 = h865 78 4 := jK 0 f887 rg_78_4_0_1 (by first | decide | omega) (by first | decide | omega) (by decide)
        have q1468 : h865 78 4 = h14 78 4 := by rw [← e867]; exact x_up_i (by first | decide | omega)
        have q1469 : h14 78 4 = h 78 4 := jK 0 f16 rg_78_4_0_1 (by first | decide | omega) (by first | decide | omega) (by decide)
        have b1470 := jB (e := 5) 0 hJ rg_78_5_0_1 (by first | decide | omega) (by first | decide | omega)
        have q1471 : h1394 78 5 = h1380 78 5 := by rw [← e1396]; exact x_up_i (by first | decide | omega)
        have q1472 : h1380 78 5 = h1281 78 5 := jK 0 f1382 rg_78_5_0_1 (by first | decide | omega) (by first | decide | omega) (by decide)
        have q1473 : h1281 78 5 = h1189 78 5 := jK 0 f1283 rg_78_5_0_1 (by first | decide | omega) (by first | decide | omega) (by decide)
        have q1474 : h1189 78 5 = h1175 78 5 := by rw [← e1191]; exact x_up_i (by first | decide | omega)
        have q1475 : h1175 78 5 = h1093 78 5 := jK 0 f1177 rg_78_5_0_1 (by first | decide | omega) (by first | decide | omega) (by decide)
        have q1476 : h1093 78 5 = h1022 78 5 := jK 0 f1095 rg_78_5_0_1 (by first | decide | omega) (by first | decide | omega) (by decide)
        have q1477 : h1022 78 5 = h1008 78 5 := by rw [← e1024]; exact x_up_i (by first | decide | omega)
        have q1478 : h1008 78 5 = h951 78 5 := jK 0 f1010 rg_78_5_0_1 (by first | decide | omega) (by first | decide | omega) (by decide)
        have q1479 : h951 78 5 = h901 78 5 := jK 0 f953 rg_78_5_0_1 (by first | decide | omega) (by first | decide | omega) (by decide)
        have q1480 : h901 78 5 = h885 78 5 := by rw [← e903]; exact x_up_i (by first | decide | omega)
        have q1481 : h885 78 5 = h865 78 5 := jK 0 f887 rg_78_5_0_1 (by first | decide | omega) (by first | decide | omega) (by decide)
        have q1482 : h865 78 5 = h14 78 5 := by rw [← e867]; exact x_up_i (by first | decide | omega)
        have q1483 : h14 78 5 = h 78 5 := jK 0 f16 rg_78_5_0_1 (by first | decide | omega) (by first | decide | omega) (by decide)
        have y1484 := Is.yes c33 (by first | decide | omega)
        have w1485 : Wd tB tN 10 (sk tB tN (h 75 7)) := by rw [← c21]; exact Wd.of' (by decide) y1484 c22
        have e1486 : sk tB tN (h14 75 7) = sk tB tN ((sk tB tN (h 75 7)) + iv_tl 10) := by rw [← c21, ← y1484.1]
        have q1487 : h865 75 7 = h14 75 7 := by rw [← e867]; exact x_up_k (by decide)
        have q1488 : h901 75 7 = h885 75 7 := by rw [← e903]; exact x_up_k (by decide)
        obtain ⟨w1489, e1490⟩ := Tw.yes c957 (by first | decide | omega)
        have q1491 : h1022 75 7 = h1008 75 7 := by rw [← e1024]; exact x_up_k (by decide)
        obtain ⟨w1492, e1493⟩ := Tw.yes c1099 (by first | decide | omega)
        have q1494 : h1189 75 7 = h1175 75 7 := by rw [← e1191]; exact x_up_k (by decide)
        obtain ⟨w1495, e1496⟩ := Tw.yes c1287 (by first | decide | omega)
        refine x_retI (np := 156) (x := 0) (by decide +kernel) (by decide) (Or.inr ⟨by decide +kernel, by first | decide | omega, by first | decide | omega⟩) ⟨_, rfl, (by decide), ?_⟩
        exact ⟨j1395, f1397, (by first | decide | omega), (fun z => by first | decide | omega), (fun z => by first | decide | omega), (fun z => by first | decide | omega), (fun z => by first | decide | omega), (fun z => by first | decide | omega), (fun z => by first | decide | omega), (fun z => absurd z (by first | decide | omega)), (Or.inr ⟨by first | decide | omega, (or9.f (wd_910 w1485) rfl rfl (wd9.y w1485 rfl e1486 rfl (nm9.y c894 (by first | decide | omega) (by first | decide | omega) (congrArg (sk tB tN) (show h865 75 7 = h14 75 7 by first | decide | omega)) (by first | decide | omega) rfl (wd9.y w1489 (congrArg (sk tB tN) (show h901 75 7 = h885 75 7 by first | decide | omega)) e1490 rfl (nm9.y c1017 (by first | decide | omega) (by first | decide | omega) rfl (by first | decide | omega) rfl (wd9.y w1492 (congrArg (sk tB tN) (show h1022 75 7 = h1008 75 7 by first | decide | omega)) e1493 rfl (nm9.y c1184 (by first | decide | omega) (by first | decide | omega) rfl (by first | decide | omega) rfl (wd9.y w1495 (congrArg (sk tB tN) (show h1189 75 7 = h1175 75 7 by first | decide | omega)) e1496 rfl (nm9.f c1389 (by first | decide | omega) (by first | decide | omega) rfl (by first | decide | omega) (by first | decide | omega))))))))))⟩)⟩
      have q1399 : ¬ (v1376 < 2147483648) := q1399
      have b1497 := c1385 (by first | decide | omega)
      have b1498 := c1386 (by first | decide | omega)
      have b1499 := c1387 (by first | decide | omega)
      refine x_const (np := 12) (x := 9223372043297226753) (a := 2147483649) (by decide +kernel) (by decide) (by decide) ?_
      refine x_goto (np := 15) (x := 16) (by decide +kernel) ?_
      refine x_retI (np := 17) (x := 0) (by decide +kernel) (by decide) (Or.inr ⟨by decide +kernel, by first | decide | omega, by first | decide | omega⟩) ⟨_, rfl, (by decide), ?_⟩
      refine x_ifz (k := 1) (tg := 156) (np := 154) (by decide +kernel) (by decide) (by decide) (fun q1500 => ?_) (fun q1501 => ?_)
      · have q1500 : 2147483649 ≠ 2147483648 := q1500
        refine x_aload (np := 157) (x := 0) (by decide +kernel) rfl (x_nc_le (by decide)) ?_
        have q1502 : h1394 75 3 = 78 := by have z := jB (e := 3) 0 j1395 rg_75_3_0_1 (by decide) (by decide); omega
        refine x_getR (np := 160) (x := 707) (f := 3) (q := 78) (by decide +kernel) (by decide) (by decide +kernel) q1502 ?_
        refine x_const (np := 161) (x := 9223372056182128644) (a := 2147483652) (by decide +kernel) (by decide) (by decide) ?_
        refine x_dup2 (np := 162) (x := 0) (by decide +kernel) (by have z := (iw_c_lt (a := 2147483652) (by decide)).1; omega) (by have z := x_nc_le (k := 78) (by decide); unfold x_r; omega) ?_
        have q1503 : h1394 78 4 = h1380 78 4 := by rw [← e1396]; exact x_up_i (by first | decide | omega)
        have q1504 : h1380 78 4 = h1281 78 4 := jK 0 f1382 rg_78_4_0_1 (by first | decide | omega) (by first | decide | omega) (by decide)
        have q1505 : h1281 78 4 = h1189 78 4 := jK 0 f1283 rg_78_4_0_1 (by first | decide | omega) (by first | decide | omega) (by decide)
        have q1506 : h1189 78 4 = h1175 78 4 := by rw [← e1191]; exact x_up_i (by first | decide | omega)
        have q1507 : h1175 78 4 = h1093 78 4 := jK 0 f1177 rg_78_4_0_1 (by first | decide | omega) (by first | decide | omega) (by decide)
        have q1508 : h1093 78 4 = h1022 78 4 := jK 0 f1095 rg_78_4_0_1 (by first | decide | omega) (by first | decide | omega) (by decide)
        have q1509 : h1022 78 4 = h1008 78 4 := by rw [← e1024]; exact x_up_i (by first | decide | omega)
        have q1510 : h1008 78 4 = h951 78 4 := jK 0 f1010 rg_78_4_0_1 (by first | decide | omega) (by first | decide | omega) (by decide)
        have q1511 : h951 78 4 = h901 78 4 := jK 0 f953 rg_78_4_0_1 (by first | decide | omega) (by first | decide | omega) (by decide)
        have q1512 : h901 78 4 = h885 78 4 := by rw [← e903]; exact x_up_i (by first | decide | omega)
        have q1513 : h885 78 4 = h865 78 4 := jK 0 f887 rg_78_4_0_1 (by first | decide | omega) (by first | decide | omega) (by decide)
        have q1514 : h865 78 4 = h14 78 4 := by rw [← e867]; exact x_up_i (by first | decide | omega)
        have q1515 : h14 78 4 = h 78 4 := jK 0 f16 rg_78_4_0_1 (by first | decide | omega) (by first | decide | omega) (by decide)
        refine x_aldC (np := 163) (x := 0) (n := 290) (i := 4) (q := (h 78 4)) (by decide +kernel) (by decide +kernel) (by first | decide | omega) (by first | decide | omega) (by decide) ((((((((((((q1503.trans q1504).trans q1505).trans q1506).trans q1507).trans q1508).trans q1509).trans q1510).trans q1511).trans q1512).trans q1513).trans q1514).trans q1515) (fun l1516 => ?_)
        refine x_const (np := 164) (x := 9223372043297226753) (a := 2147483649) (by decide +kernel) (by decide) (by decide) ?_
        refine x_iadd (np := 165) (x := 0) (v := (1 + (h 78 4))) (by decide +kernel) l3 (by decide) (by first | decide | omega) (by first | decide | omega) ?_
        refine x_ast (np := 166) (x := 0) (kd := 1) (n := 290) (i := 4) (by decide +kernel) (Or.inl rfl) (by decide +kernel) (by first | decide | omega) (by first | decide | omega) (by decide) (by first | decide | omega) (fun z => absurd z (by decide)) ?_
        have j1518 := jU (e := 4) (v := (1 + (h 78 4))) 0 j1395 rg_78_4_0_1 (by first | decide | omega) (by first | decide | omega) (by first | decide | omega)
        have f1520 := jF (e := 4) (v := (1 + (h 78 4))) 0 f1397 rg_78_4_0_1 (by first | decide | omega) (by first | decide | omega) (by decide)
        generalize e1519 : x_up h1394 78 4 (1 + (h 78 4)) = h1517 at j1518 f1520 ⊢
        refine x_const (np := 167) (x := 9223372043297226753) (a := 2147483649) (by decide +kernel) (by decide) (by decide) ?_
        have b1521 := jB (e := 0) 0 hJ rg_78_0_0_1 (by first | decide | omega) (by first | decide | omega)
        have q1522 : h1517 78 0 = h1394 78 0 := by rw [← e1519]; exact x_up_i (by first | decide | omega)
        have q1523 : h1394 78 0 = h1380 78 0 := by rw [← e1396]; exact x_up_i (by first | decide | omega)
        have q1524 : h1380 78 0 = h1281 78 0 := jK 0 f1382 rg_78_0_0_1 (by first | decide | omega) (by first | decide | omega) (by decide)
        have q1525 : h1281 78 0 = h1189 78 0 := jK 0 f1283 rg_78_0_0_1 (by first | decide | omega) (by first | decide | omega) (by decide)
        have q1526 : h1189 78 0 = h1175 78 0 := by rw [← e1191]; exact x_up_i (by first | decide | omega)
        have q1527 : h1175 78 0 = h1093 78 0 := jK 0 f1177 rg_78_0_0_1 (by first | decide | omega) (by first | decide | omega) (by decide)
        have q1528 : h1093 78 0 = h1022 78 0 := jK 0 f1095 rg_78_0_0_1 (by first | decide | omega) (by first | decide | omega) (by decide)
        have q1529 : h1022 78 0 = h1008 78 0 := by rw [← e1024]; exact x_up_i (by first | decide | omega)
        have q1530 : h1008 78 0 = h951 78 0 := jK 0 f1010 rg_78_0_0_1 (by first | decide | omega) (by first | decide | omega) (by decide)
        have q1531 : h951 78 0 = h901 78 0 := jK 0 f953 rg_78_0_0_1 (by first | decide | omega) (by first | decide | omega) (by decide)
        have q1532 : h901 78 0 = h885 78 0 := by rw [← e903]; exact x_up_i (by first | decide | omega)
        have q1533 : h885 78 0 = h865 78 0 := jK 0 f887 rg_78_0_0_1 (by first | decide | omega) (by first | decide | omega) (by decide)
        have q1534 : h865 78 0 = h14 78 0 := by rw [← e867]; exact x_up_i (by first | decide | omega)
        have q1535 : h14 78 0 = h 78 0 := jK 0 f16 rg_78_0_0_1 (by first | decide | omega) (by first | decide | omega) (by decide)
        have q1536 : h1517 78 1 = h1394 78 1 := by rw [← e1519]; exact x_up_i (by first | decide | omega)
        have q1537 : h1394 78 1 = h1380 78 1 := by rw [← e1396]; exact x_up_i (by first | decide | omega)
        have q1538 : h1380 78 1 = h1281 78 1 := jK 0 f1382 rg_78_1_0_1 (by first | decide | omega) (by first | decide | omega) (by decide)
        have q1539 : h1281 78 1 = h1189 78 1 := jK 0 f1283 rg_78_1_0_1 (by first | decide | omega) (by first | decide | omega) (by decide)
        have q1540 : h1189 78 1 = h1175 78 1 := by rw [← e1191]; exact x_up_i (by first | decide | omega)
        have q1541 : h1175 78 1 = h1093 78 1 := jK 0 f1177 rg_78_1_0_1 (by first | decide | omega) (by first | decide | omega) (by decide)
        have q1542 : h1093 78 1 = h1022 78 1 := jK 0 f1095 rg_78_1_0_1 (by first | decide | omega) (by first | decide | omega) (by decide)
        have q1543 : h1022 78 1 = h1008 78 1 := by rw [← e1024]; exact x_up_i (by first | decide | omega)
        have q1544 : h1008 78 1 = h951 78 1 := jK 0 f1010 rg_78_1_0_1 (by first | decide | omega) (by first | decide | omega) (by decide)
        have q1545 : h951 78 1 = h901 78 1 := jK 0 f953 rg_78_1_0_1 (by first | decide | omega) (by first | decide | omega) (by decide)
        have q1546 : h901 78 1 = h885 78 1 := by rw [← e903]; exact x_up_i (by first | decide | omega)
        have q1547 : h885 78 1 = h865 78 1 := jK 0 f887 rg_78_1_0_1 (by first | decide | omega) (by first | decide | omega) (by decide)
        have q1548 : h865 78 1 = h14 78 1 := by rw [← e867]; exact x_up_i (by first | decide | omega)
        have q1549 : h14 78 1 = h 78 1 := jK 0 f16 rg_78_1_0_1 (by first | decide | omega) (by first | decide | omega) (by decide)
        have b1550 := jB (e := 2) 0 hJ rg_78_2_0_1 (by first | decide | omega) (by first | decide | omega)
        have q1551 : h1517 78 2 = h1394 78 2 := by rw [← e1519]; exact x_up_i (by first | decide | omega)
        have q1552 : h1394 78 2 = h1380 78 2 := by rw [← e1396]; exact x_up_i (by first | decide | omega)
        have q1553 : h1380 78 2 = h1281 78 2 := jK 0 f1382 rg_78_2_0_1 (by first | decide | omega) (by first | decide | omega) (by decide)
        have q1554 : h1281 78 2 = h1189 78 2 := jK 0 f1283 rg_78_2_0_1 (by first | decide | omega) (by first | decide | omega) (by decide)
        have q1555 : h1189 78 2 = h1175 78 2 := by rw [← e1191]; exact x_up_i (by first | decide | omega)
        have q1556 : h1175 78 2 = h1093 78 2 := jK 0 f1177 rg_78_2_0_1 (by first | decide | omega) (by first | decide | omega) (by decide)
        have q1557 : h1093 78 2 = h1022 78 2 := jK 0 f1095 rg_78_2_0_1 (by first | decide | omega) (by first | decide | omega) (by decide)
        have q1558 : h1022 78 2 = h1008 78 2 := by rw [← e1024]; exact x_up_i (by first | decide | omega)
        have q1559 : h1008 78 2 = h951 78 2 := jK 0 f1010 rg_78_2_0_1 (by first | decide | omega) (by first | decide | omega) (by decide)
        have q1560 : h951 78 2 = h901 78 2 := jK 0 f953 rg_78_2_0_1 (by first | decide | omega) (by first | decide | omega) (by decide)
        have q1561 : h901 78 2 = h885 78 2 := by rw [← e903]; exact x_up_i (by first | decide | omega)
        have q1562 : h885 78 2 = h865 78 2 := jK 0 f887 rg_78_2_0_1 (by first | decide | omega) (by first | decide | omega) (by decide)
        have q1563 : h865 78 2 = h14 78 2 := by rw [← e867]; exact x_up_i (by first | decide | omega)
        have q1564 : h14 78 2 = h 78 2 := jK 0 f16 rg_78_2_0_1 (by first | decide | omega) (by first | decide | omega) (by decide)
        have b1565 := jB (e := 3) 0 hJ rg_78_3_0_1 (by first | decide | omega) (by first | decide | omega)
        have q1566 : h1517 78 3 = h1394 78 3 := by rw [← e1519]; exact x_up_i (by first | decide | omega)
        have q1567 : h1394 78 3 = h1380 78 3 := by rw [← e1396]; exact x_up_i (by first | decide | omega)
        have q1568 : h1380 78 3 = h1281 78 3 := jK 0 f1382 rg_78_3_0_1 (by first | decide | omega) (by first | decide | omega) (by decide)
        have q1569 : h1281 78 3 = h1189 78 3 := jK 0 f1283 rg_78_3_0_1 (by first | decide | omega) (by first | decide | omega) (by decide)
        have q1570 : h1189 78 3 = h1175 78 3 := by rw [← e1191]; exact x_up_i (by first | decide | omega)
        have q1571 : h1175 78 3 = h1093 78 3 := jK 0 f1177 rg_78_3_0_1 (by first | decide | omega) (by first | decide | omega) (by decide)
        have q1572 : h1093 78 3 = h1022 78 3 := jK 0 f1095 rg_78_3_0_1 (by first | decide | omega) (by first | decide | omega) (by decide)
        have q1573 : h1022 78 3 = h1008 78 3 := by rw [← e1024]; exact x_up_i (by first | decide | omega)
        have q1574 : h1008 78 3 = h951 78 3 := jK 0 f1010 rg_78_3_0_1 (by first | decide | omega) (by first | decide | omega) (by decide)
        have q1575 : h951 78 3 = h901 78 3 := jK 0 f953 rg_78_3_0_1 (by first | decide | omega) (by first | decide | omega) (by decide)
        have q1576 : h901 78 3 = h885 78 3 := by rw [← e903]; exact x_up_i (by first | decide | omega)
        have q1577 : h885 78 3 = h865 78 3 := jK 0 f887 rg_78_3_0_1 (by first | decide | omega) (by first | decide | omega) (by decide)
        have q1578 : h865 78 3 = h14 78 3 := by rw [← e867]; exact x_up_i (by first | decide | omega)
        have q1579 : h14 78 3 = h 78 3 := jK 0 f16 rg_78_3_0_1 (by first | decide | omega) (by first | decide | omega) (by decide)
        have q1580 : h1517 78 4 = (1 + (h 78 4)) := by rw [← e1519]; exact x_up_at
        have b1581 := jB (e := 5) 0 hJ rg_78_5_0_1 (by first | decide | omega) (by first | decide | omega)
        have q1582 : h1517 78 5 = h1394 78 5 := by rw [← e1519]; exact x_up_i (by first | decide | omega)
        have q1583 : h1394 78 5 = h1380 78 5 := by rw [← e1396]; exact x_up_i (by first | decide | omega)
        have q1584 : h1380 78 5 = h1281 78 5 := jK 0 f1382 rg_78_5_0_1 (by first | decide | omega) (by first | decide | omega) (by decide)
        have q1585 : h1281 78 5 = h1189 78 5 := jK 0 f1283 rg_78_5_0_1 (by first | decide | omega) (by first | decide | omega) (by decide)
        have q1586 : h1189 78 5 = h1175 78 5 := by rw [← e1191]; exact x_up_i (by first | decide | omega)
        have q1587 : h1175 78 5 = h1093 78 5 := jK 0 f1177 rg_78_5_0_1 (by first | decide | omega) (by first | decide | omega) (by decide)
        have q1588 : h1093 78 5 = h1022 78 5 := jK 0 f1095 rg_78_5_0_1 (by first | decide | omega) (by first | decide | omega) (by decide)
        have q1589 : h1022 78 5 = h1008 78 5 := by rw [← e1024]; exact x_up_i (by first | decide | omega)
        have q1590 : h1008 78 5 = h951 78 5 := jK 0 f1010 rg_78_5_0_1 (by first | decide | omega) (by first | decide | omega) (by decide)
        have q1591 : h951 78 5 = h901 78 5 := jK 0 f953 rg_78_5_0_1 (by first | decide | omega) (by first | decide | omega) (by decide)
        have q1592 : h901 78 5 = h885 78 5 := by rw [← e903]; exact x_up_i (by first | decide | omega)
        have q1593 : h885 78 5 = h865 78 5 := jK 0 f887 rg_78_5_0_1 (by first | decide | omega) (by first | decide | omega) (by decide)
        have q1594 : h865 78 5 = h14 78 5 := by rw [← e867]; exact x_up_i (by first | decide | omega)
        have q1595 : h14 78 5 = h 78 5 := jK 0 f16 rg_78_5_0_1 (by first | decide | omega) (by first | decide | omega) (by decide)
        have m1609 := Cl.fr hC f16 (by decide)
        have m1608 : Cl h865 := by rw [← e867]; exact Cl.upR (e := (200 + 5 * u8)) (v := 2147483649) u8 m1609 rg_76_200_5_10 (by first | decide | omega) (by first | decide | omega) (by first | decide | omega)
        have m1607 := Cl.fr m1608 f887 (by decide)
        have m1606 : Cl h901 := by rw [← e903]; exact Cl.upR (e := (201 + 5 * u8)) (v := v881) u8 m1607 rg_76_201_5_10 (by first | decide | omega) (by first | decide | omega) (by first | decide | omega)
        have m1605 := Cl.fr m1606 f953 (by decide)
        have m1604 := Cl.fr m1605 f1010 (by decide)
        have m1603 : Cl h1022 := by rw [← e1024]; exact Cl.upR (e := (202 + 5 * u8)) (v := v1004) u8 m1604 rg_76_202_5_10 (by first | decide | omega) (by first | decide | omega) (by first | decide | omega)
        have m1602 := Cl.fr m1603 f1095 (by decide)
        have m1601 := Cl.fr m1602 f1177 (by decide)
        have m1600 : Cl h1189 := by rw [← e1191]; exact Cl.upR (e := (203 + 5 * u8)) (v := v1171) u8 m1601 rg_76_203_5_10 (by first | decide | omega) (by first | decide | omega) (by first | decide | omega)
        have m1599 := Cl.fr m1600 f1283 (by decide)
        have m1598 := Cl.fr m1599 f1382 (by decide)
        have m1597 : Cl h1394 := by rw [← e1396]; exact Cl.upR (e := (204 + 5 * u8)) (v := v1376) u8 m1598 rg_76_204_5_10 (by first | decide | omega) (by first | decide | omega) (by first | decide | omega)
        have m1596 : Cl h1517 := by rw [← e1519]; exact Cl.upR (e := 4) (v := (1 + (h 78 4))) 0 m1597 rg_76_4_0_1 (by first | decide | omega) (by first | decide | omega) (by first | decide | omega)
        have y1610 := Is.yes c33 (by first | decide | omega)
        have w1611 : Wd tB tN 10 (sk tB tN (h 75 7)) := by rw [← c21]; exact Wd.of' (by decide) y1610 c22
        have e1612 : sk tB tN (h14 75 7) = sk tB tN ((sk tB tN (h 75 7)) + iv_tl 10) := by rw [← c21, ← y1610.1]
        have q1613 : h865 75 7 = h14 75 7 := by rw [← e867]; exact x_up_k (by decide)
        have q1614 : h901 75 7 = h885 75 7 := by rw [← e903]; exact x_up_k (by decide)
        obtain ⟨w1615, e1616⟩ := Tw.yes c957 (by first | decide | omega)
        have q1617 : h1022 75 7 = h1008 75 7 := by rw [← e1024]; exact x_up_k (by decide)
        obtain ⟨w1618, e1619⟩ := Tw.yes c1099 (by first | decide | omega)
        have q1620 : h1189 75 7 = h1175 75 7 := by rw [← e1191]; exact x_up_k (by decide)
        obtain ⟨w1621, e1622⟩ := Tw.yes c1287 (by first | decide | omega)
        have q1623 : h1517 75 7 = h1394 75 7 := by rw [← e1519]; exact x_up_k (by decide)
        have q1624 : h1394 75 7 = h1380 75 7 := by rw [← e1396]; exact x_up_k (by decide)
        refine x_retI (np := 168) (x := 0) (by decide +kernel) (by decide) (Or.inr ⟨by decide +kernel, by first | decide | omega, by first | decide | omega⟩) ⟨_, rfl, (by decide), ?_⟩
        exact ⟨j1518, f1520, (by first | decide | omega), (fun z => by first | decide | omega), (fun z => by first | decide | omega), (fun z => by first | decide | omega), (fun z => by first | decide | omega), (fun z => by first | decide | omega), (fun z => by first | decide | omega), (fun _ => m1596), (Or.inr ⟨by first | decide | omega, (or9.f (wd_910 w1611) rfl rfl (wd9.y w1611 rfl e1612 rfl (nm9.y c894 (by first | decide | omega) (by first | decide | omega) (congrArg (sk tB tN) (show h865 75 7 = h14 75 7 by first | decide | omega)) (by first | decide | omega) rfl (wd9.y w1615 (congrArg (sk tB tN) (show h901 75 7 = h885 75 7 by first | decide | omega)) e1616 rfl (nm9.y c1017 (by first | decide | omega) (by first | decide | omega) rfl (by first | decide | omega) rfl (wd9.y w1618 (congrArg (sk tB tN) (show h1022 75 7 = h1008 75 7 by first | decide | omega)) e1619 rfl (nm9.y c1184 (by first | decide | omega) (by first | decide | omega) rfl (by first | decide | omega) rfl (wd9.y w1621 (congrArg (sk tB tN) (show h1189 75 7 = h1175 75 7 by first | decide | omega)) e1622 rfl (nm9.y c1389 (by first | decide | omega) (by first | decide | omega) rfl (by first | decide | omega) rfl (fin9.mk (by first | decide | omega) (congrArg (sk tB tN) (show h1380 75 7 = h1517 75 7 by first | decide | omega))))))))))))⟩)⟩
      have q1501 : ¬ (2147483649 ≠ 2147483648) := q1501
      exfalso; omega
    have q873 : ¬ (2147483649 ≠ 2147483648) := q873
    exfalso; omega
  have q5 : ¬ ((h 78 4) ≠ 2147483658) := q5
  refine x_const (np := 12) (x := 9223372039002259456) (a := 2147483648) (by decide +kernel) (by decide) (by decide) ?_
  have b1625 := jB (e := 0) 0 hJ rg_78_0_0_1 (by first | decide | omega) (by first | decide | omega)
  have b1626 := jB (e := 2) 0 hJ rg_78_2_0_1 (by first | decide | omega) (by first | decide | omega)
  have b1627 := jB (e := 3) 0 hJ rg_78_3_0_1 (by first | decide | omega) (by first | decide | omega)
  have b1628 := jB (e := 5) 0 hJ rg_78_5_0_1 (by first | decide | omega) (by first | decide | omega)
  have b1629 := jB (e := 0) 0 hJ rg_76_0_0_1 (by first | decide | omega) (by first | decide | omega)
  refine x_retI (np := 13) (x := 0) (by decide +kernel) (by decide) (Or.inr ⟨by decide +kernel, by first | decide | omega, by first | decide | omega⟩) ⟨_, rfl, (by decide), ?_⟩
  exact ⟨hJ, hF, (by first | decide | omega), (fun z => by first | decide | omega), (fun z => by first | decide | omega), (fun z => by first | decide | omega), (fun z => by first | decide | omega), (fun z => by first | decide | omega), (fun z => by first | decide | omega), (fun z => absurd z (by first | decide | omega)), (Or.inl ⟨by first | decide | omega, by first | decide | omega⟩)⟩
