/-! ===== methods ===== -/
set_option maxHeartbeats 0 in
/-- LentNamesModel.sign(I)Z -/
theorem c173_75 {sc : Nat × Nat} {d a1 : Nat} {h : xh} {tB : Nat → Nat} {tN : Nat} (hJ : J h) (ba1 : 2147483648 ≤ a1 ∧ a1 ≤ 2147483775) (hT : Tq tB tN h) : X sc 173 (d + 2) (xI fun r h' => J h' ∧ Fr 5242881 h h' ∧ (2147483648 ≤ r ∧ r ≤ 2147483649) ∧ (h 75 7 + 0 ≤ h' 75 7) ∧ (r = 2147483649 → h 75 7 + 1 ≤ h' 75 7) ∧ Tk (Sg tB tN a1 (sk tB tN (h 75 7))) tB tN (sk tB tN (h 75 7)) 1 r (sk tB tN (h' 75 7))) 0 0 0 [x_r 75, iv_c a1] [] h := by
  have la1 : a1 < 4294967296 := by first | decide | omega
  have hF := Fr.refl 5242881 h
  refine x_aload (np := 1) (x := 0) (by decide +kernel) rfl (x_nc_le (by decide)) ?_
  refine x_cV (t := 6) (mj := 168) (n := 1) (rc := 12) (ml := 1) (nr := 0) (np := 4) (as := [x_r 75]) (rest := []) (lo1 := [x_r 75]) (by decide +kernel) (by decide) (by decide +kernel) (x_rb_of (by decide +kernel)) rfl rfl (x_wr (by decide) x_wn) x_wn (by decide) rfl (c168_75 hJ  hT) (fun h4 q3 => ?_)
  obtain ⟨j5, f6, c9, c10, c11⟩ := q3
  have f12 := Fr.trans hF f6 (by decide)
  have b13 := jB (e := 7) 0 hJ rg_75_7_0_1 (by first | decide | omega) (by first | decide | omega)
  have b14 := jB (e := 7) 0 j5 rg_75_7_0_1 (by first | decide | omega) (by first | decide | omega)
  have b15 := jB (e := 9) 0 j5 rg_75_9_0_1 (by first | decide | omega) (by first | decide | omega)
  refine x_aload (np := 5) (x := 0) (by decide +kernel) rfl (x_nc_le (by decide)) ?_
  refine x_iload (np := 6) (x := 1) (by decide +kernel) rfl la1 ?_
  refine x_iload (np := 7) (x := 1) (by decide +kernel) rfl la1 ?_
  refine x_nI (t := 6) (mj := 167) (n := 3) (rc := 12) (ml := 3) (nr := 0) (np := 10) (as := [x_r 75, iv_c a1, iv_c a1]) (rest := []) (lo1 := [x_r 75, iv_c a1, iv_c a1]) (by decide +kernel) (by decide) (by decide +kernel) (x_rb_of (by decide +kernel)) rfl rfl (x_wr (by decide) (x_wi la1 (x_wi la1 x_wn))) x_wn (by decide) rfl ?_
  refine x_aload (np := 1) (x := 0) (by decide +kernel) rfl (x_nc_le (by decide)) ?_
  refine x_getC (np := 4) (x := 711) (f := 7) (q := (h4 75 7)) (by decide +kernel) (by decide) (by decide +kernel) rfl (fun l16 => ?_)
  refine x_aload (np := 5) (x := 0) (by decide +kernel) rfl (x_nc_le (by decide)) ?_
  have q17 : h4 75 8 = h 75 8 := jK 0 f6 rg_75_8_0_1 (by first | decide | omega) (by first | decide | omega) (by decide)
  have b18 := jB (e := 8) 0 hJ rg_75_8_0_1 (by first | decide | omega) (by first | decide | omega)
  refine x_getC (np := 8) (x := 712) (f := 8) (q := (h 75 8)) (by decide +kernel) (by decide) (by decide +kernel) q17 (fun l19 => ?_)
  refine x_icmp (k := 3) (tg := 41) (np := 11) (by decide +kernel) (by decide) l16 l19 (fun q20 => ?_) (fun q21 => ?_)
  · have q20 : (h 75 8) ≤ (h4 75 7) := q20
    refine x_const (np := 42) (x := 9223372039002259456) (a := 2147483648) (by decide +kernel) (by decide) (by decide) ?_
    refine x_retI (np := 43) (x := 0) (by decide +kernel) (by decide) (Or.inr ⟨by decide +kernel, by first | decide | omega, by first | decide | omega⟩) ⟨_, rfl, (by decide), ?_⟩
    refine x_ifz (k := 1) (tg := 15) (np := 13) (by decide +kernel) (by decide) (by decide) (fun q22 => ?_) (fun q23 => ?_)
    · have q22 : 2147483648 ≠ 2147483648 := q22
      exfalso; omega
    have q23 : ¬ (2147483648 ≠ 2147483648) := q23
    refine x_const (np := 14) (x := 9223372039002259456) (a := 2147483648) (by decide +kernel) (by decide) (by decide) ?_
    have q24 : h4 75 8 = h 75 8 := jK 0 f6 rg_75_8_0_1 (by first | decide | omega) (by first | decide | omega) (by decide)
    have m26 := Tq.fr hT f6 (by decide) (by decide)
    have z25 := m26.1
    refine x_retI (np := 15) (x := 0) (by decide +kernel) (by decide) (Or.inr ⟨by decide +kernel, by first | decide | omega, by first | decide | omega⟩) ⟨_, rfl, (by decide), ?_⟩
    exact ⟨j5, f12, (by first | decide | omega), (by first | decide | omega), (fun z => by first | decide | omega), (sg0 c11 (fun z => by have z1 := z.1; have z2 := z.2; omega) (by first | decide | omega) (by first | decide | omega))⟩
  have q21 : ¬ ((h 75 8) ≤ (h4 75 7)) := q21
  refine x_aload (np := 12) (x := 0) (by decide +kernel) rfl (x_nc_le (by decide)) ?_
  have q27 : h4 75 5 = 79 := by have z := jB (e := 5) 0 j5 rg_75_5_0_1 (by decide) (by decide); omega
  refine x_getR (np := 15) (x := 709) (f := 5) (q := 79) (by decide +kernel) (by decide) (by decide +kernel) q27 ?_
  refine x_aload (np := 16) (x := 0) (by decide +kernel) rfl (x_nc_le (by decide)) ?_
  refine x_getC (np := 19) (x := 711) (f := 7) (q := (h4 75 7)) (by decide +kernel) (by decide) (by decide +kernel) rfl (fun l28 => ?_)
  obtain ⟨u29, q30⟩ : ∃ z, (h4 75 7) = 2147483648 + z := ⟨(h4 75 7) - 2147483648, by first | decide | omega⟩
  have q31 : h4 79 u29 = h 79 u29 := jK u29 f6 rg_79_0_1_400 (by first | decide | omega) (by first | decide | omega) (by decide)
  have b32 := jB (e := u29) u29 hJ rg_79_0_1_400 (by first | decide | omega) (by first | decide | omega)
  refine x_baldC (np := 20) (x := 0) (n := 400) (i := u29) (q := (h 79 u29)) (by decide +kernel) (by decide +kernel) (by first | decide | omega) (by first | decide | omega) (by decide) q31 (fun l33 => ?_)
  refine x_iload (np := 21) (x := 1) (by decide +kernel) rfl la1 ?_
  refine x_icmp (k := 2) (tg := 41) (np := 24) (by decide +kernel) (by decide) l33 la1 (fun q34 => ?_) (fun q35 => ?_)
  · have q34 : (h 79 u29) < a1 := q34
    refine x_const (np := 42) (x := 9223372039002259456) (a := 2147483648) (by decide +kernel) (by decide) (by decide) ?_
    refine x_retI (np := 43) (x := 0) (by decide +kernel) (by decide) (Or.inr ⟨by decide +kernel, by first | decide | omega, by first | decide | omega⟩) ⟨_, rfl, (by decide), ?_⟩
    refine x_ifz (k := 1) (tg := 15) (np := 13) (by decide +kernel) (by decide) (by decide) (fun q36 => ?_) (fun q37 => ?_)
    · have q36 : 2147483648 ≠ 2147483648 := q36
      exfalso; omega
    have q37 : ¬ (2147483648 ≠ 2147483648) := q37
    refine x_const (np := 14) (x := 9223372039002259456) (a := 2147483648) (by decide +kernel) (by decide) (by decide) ?_
    have q38 : h4 75 8 = h 75 8 := jK 0 f6 rg_75_8_0_1 (by first | decide | omega) (by first | decide | omega) (by decide)
    have m40 := Tq.fr hT f6 (by decide) (by decide)
    have z39 := m40.1
    have q41 : h4 79 u29 = h 79 u29 := jK u29 f6 rg_79_0_1_400 (by first | decide | omega) (by first | decide | omega) (by decide)
    have z42 := Tq.at (p := (h4 75 7)) (u := u29) m40 (by first | decide | omega) (by first | decide | omega)
    refine x_retI (np := 15) (x := 0) (by decide +kernel) (by decide) (Or.inr ⟨by decide +kernel, by first | decide | omega, by first | decide | omega⟩) ⟨_, rfl, (by decide), ?_⟩
    exact ⟨j5, f12, (by first | decide | omega), (by first | decide | omega), (fun z => by first | decide | omega), (sg0 c11 (fun z => by have z1 := z.1; have z2 := z.2; omega) (by first | decide | omega) (by first | decide | omega))⟩
  have q35 : ¬ ((h 79 u29) < a1) := q35
  refine x_aload (np := 25) (x := 0) (by decide +kernel) rfl (x_nc_le (by decide)) ?_
  have q43 : h4 75 5 = 79 := by have z := jB (e := 5) 0 j5 rg_75_5_0_1 (by decide) (by decide); omega
  refine x_getR (np := 28) (x := 709) (f := 5) (q := 79) (by decide +kernel) (by decide) (by decide +kernel) q43 ?_
  refine x_aload (np := 29) (x := 0) (by decide +kernel) rfl (x_nc_le (by decide)) ?_
  refine x_getC (np := 32) (x := 711) (f := 7) (q := (h4 75 7)) (by decide +kernel) (by decide) (by decide +kernel) rfl (fun l44 => ?_)
  have q45 : h4 79 u29 = h 79 u29 := jK u29 f6 rg_79_0_1_400 (by first | decide | omega) (by first | decide | omega) (by decide)
  refine x_baldC (np := 33) (x := 0) (n := 400) (i := u29) (q := (h 79 u29)) (by decide +kernel) (by decide +kernel) (by first | decide | omega) (by first | decide | omega) (by decide) q45 (fun l46 => ?_)
  refine x_iload (np := 34) (x := 2) (by decide +kernel) rfl la1 ?_
  refine x_icmp (k := 4) (tg := 41) (np := 37) (by decide +kernel) (by decide) l33 la1 (fun q47 => ?_) (fun q48 => ?_)
  · have q47 : a1 < (h 79 u29) := q47
    refine x_const (np := 42) (x := 9223372039002259456) (a := 2147483648) (by decide +kernel) (by decide) (by decide) ?_
    refine x_retI (np := 43) (x := 0) (by decide +kernel) (by decide) (Or.inr ⟨by decide +kernel, by first | decide | omega, by first | decide | omega⟩) ⟨_, rfl, (by decide), ?_⟩
    refine x_ifz (k := 1) (tg := 15) (np := 13) (by decide +kernel) (by decide) (by decide) (fun q49 => ?_) (fun q50 => ?_)
    · have q49 : 2147483648 ≠ 2147483648 := q49
      exfalso; omega
    have q50 : ¬ (2147483648 ≠ 2147483648) := q50
    refine x_const (np := 14) (x := 9223372039002259456) (a := 2147483648) (by decide +kernel) (by decide) (by decide) ?_
    have q51 : h4 75 8 = h 75 8 := jK 0 f6 rg_75_8_0_1 (by first | decide | omega) (by first | decide | omega) (by decide)
    have m53 := Tq.fr hT f6 (by decide) (by decide)
    have z52 := m53.1
    have q54 : h4 79 u29 = h 79 u29 := jK u29 f6 rg_79_0_1_400 (by first | decide | omega) (by first | decide | omega) (by decide)
    have z55 := Tq.at (p := (h4 75 7)) (u := u29) m53 (by first | decide | omega) (by first | decide | omega)
    refine x_retI (np := 15) (x := 0) (by decide +kernel) (by decide) (Or.inr ⟨by decide +kernel, by first | decide | omega, by first | decide | omega⟩) ⟨_, rfl, (by decide), ?_⟩
    exact ⟨j5, f12, (by first | decide | omega), (by first | decide | omega), (fun z => by first | decide | omega), (sg0 c11 (fun z => by have z1 := z.1; have z2 := z.2; omega) (by first | decide | omega) (by first | decide | omega))⟩
  have q48 : ¬ (a1 < (h 79 u29)) := q48
  refine x_const (np := 38) (x := 9223372043297226753) (a := 2147483649) (by decide +kernel) (by decide) (by decide) ?_
  refine x_goto (np := 41) (x := 42) (by decide +kernel) ?_
  refine x_retI (np := 43) (x := 0) (by decide +kernel) (by decide) (Or.inr ⟨by decide +kernel, by first | decide | omega, by first | decide | omega⟩) ⟨_, rfl, (by decide), ?_⟩
  refine x_ifz (k := 1) (tg := 15) (np := 13) (by decide +kernel) (by decide) (by decide) (fun q56 => ?_) (fun q57 => ?_)
  · have q56 : 2147483649 ≠ 2147483648 := q56
    refine x_aload (np := 16) (x := 0) (by decide +kernel) rfl (x_nc_le (by decide)) ?_
    refine x_dup (np := 17) (x := 0) (by decide +kernel) (by have z := x_nc_le (k := 75) (by decide); unfold x_r; omega) ?_
    refine x_getC (np := 20) (x := 711) (f := 7) (q := (h4 75 7)) (by decide +kernel) (by decide) (by decide +kernel) rfl (fun l58 => ?_)
    refine x_const (np := 21) (x := 9223372043297226753) (a := 2147483649) (by decide +kernel) (by decide) (by decide) ?_
    refine x_iadd (np := 22) (x := 0) (v := (1 + (h4 75 7))) (by decide +kernel) l16 (by decide) (by first | decide | omega) (by first | decide | omega) ?_
    refine x_putI (np := 25) (x := 711) (f := 7) (by decide +kernel) (by decide +kernel) (by first | decide | omega) (Or.inl (by decide)) ?_
    have j60 := jU (e := 7) (v := (1 + (h4 75 7))) 0 j5 rg_75_7_0_1 (by first | decide | omega) (by first | decide | omega) (by first | decide | omega)
    have f62 := jF (e := 7) (v := (1 + (h4 75 7))) 0 f12 rg_75_7_0_1 (by first | decide | omega) (by first | decide | omega) (by decide)
    generalize e61 : x_up h4 75 7 (1 + (h4 75 7)) = h59 at j60 f62 ⊢
    refine x_const (np := 26) (x := 9223372043297226753) (a := 2147483649) (by decide +kernel) (by decide) (by decide) ?_
    have q63 : h59 75 7 = (1 + (h4 75 7)) := by rw [← e61]; exact x_up_at
    have q64 : h59 75 7 = (1 + (h4 75 7)) := by rw [← e61]; exact x_up_at
    have q65 : h59 75 7 = (1 + (h4 75 7)) := by rw [← e61]; exact x_up_at
    have q66 : h4 75 8 = h 75 8 := jK 0 f6 rg_75_8_0_1 (by first | decide | omega) (by first | decide | omega) (by decide)
    have m68 := Tq.fr hT f6 (by decide) (by decide)
    have z67 := m68.1
    have q69 : h4 79 u29 = h 79 u29 := jK u29 f6 rg_79_0_1_400 (by first | decide | omega) (by first | decide | omega) (by decide)
    have z70 := Tq.at (p := (h4 75 7)) (u := u29) m68 (by first | decide | omega) (by first | decide | omega)
    refine x_retI (np := 27) (x := 0) (by decide +kernel) (by decide) (Or.inr ⟨by decide +kernel, by first | decide | omega, by first | decide | omega⟩) ⟨_, rfl, (by decide), ?_⟩
    exact ⟨j60, f62, (by first | decide | omega), (by first | decide | omega), (fun z => by first | decide | omega), (sg1 c11 ⟨by first | decide | omega, by first | decide | omega⟩ (by first | decide | omega) (by first | decide | omega))⟩
  have q57 : ¬ (2147483649 ≠ 2147483648) := q57
  exfalso; omega
set_option maxHeartbeats 0 in
/-- LentNamesModel.readPart()Z -/
theorem c188_75 {sc : Nat × Nat} {d  : Nat} {h : xh} {tB : Nat → Nat} {tN : Nat} (hJ : J h) (hr0 : (h 75 13) + 5 ≤ (h 75 7)) (hT : Tq tB tN h) : X sc 188 (d + 5) (xI fun r h' => J h' ∧ Fr 89128961 h h' ∧ (2147483648 ≤ r ∧ r ≤ 2147483649) ∧ (r = 2147483649 → h' 75 13 + h 75 7 ≤ h' 75 7 + h 75 13) ∧ (r = 2147483649 → h 75 7 + 0 ≤ h' 75 7) ∧ (r = 2147483649 → h 75 13 ≤ h' 75 13) ∧ Kp h h' (h 75 13 - 2147483648) ∧ (r = 2147483649 → Seg (sg h') (h 75 13 - 2147483648) (h' 75 13 - 2147483648)) ∧ (∀ l, G tB tN Kd.part l (sk tB tN (h 75 7)) (rs r (sk tB tN (h' 75 7))))) 0 0 0 [x_r 75, 147573952589676412928] [] h := by
  have hF := Fr.refl 89128961 h
  have b1 := jB (e := 13) 0 hJ rg_75_13_0_1 (by first | decide | omega) (by first | decide | omega)
  have b2 := jB (e := 7) 0 hJ rg_75_7_0_1 (by first | decide | omega) (by first | decide | omega)
  refine x_aload (np := 1) (x := 0) (by decide +kernel) rfl (x_nc_le (by decide)) ?_
  refine x_cV (t := 6) (mj := 169) (n := 1) (rc := 12) (ml := 1) (nr := 0) (np := 4) (as := [x_r 75]) (rest := []) (lo1 := [x_r 75]) (by decide +kernel) (by decide) (by decide +kernel) (x_rb_of (by decide +kernel)) rfl rfl (x_wr (by decide) x_wn) x_wn (by decide) rfl (c169_75 hJ  hT) (fun h6 q5 => ?_)
  obtain ⟨j7, f8, c11, c12, c13, c14⟩ := q5
  have f15 := Fr.trans hF f8 (by decide)
  have b16 := jB (e := 9) 0 j7 rg_75_9_0_1 (by first | decide | omega) (by first | decide | omega)
  have b17 := jB (e := 7) 0 j7 rg_75_7_0_1 (by first | decide | omega) (by first | decide | omega)
  refine x_aload (np := 5) (x := 0) (by decide +kernel) rfl (x_nc_le (by decide)) ?_
  refine x_getC (np := 8) (x := 711) (f := 7) (q := (h6 75 7)) (by decide +kernel) (by decide) (by decide +kernel) rfl (fun l18 => ?_)
  refine x_aload (np := 9) (x := 0) (by decide +kernel) rfl (x_nc_le (by decide)) ?_
  refine x_getC (np := 12) (x := 713) (f := 9) (q := (h6 75 9)) (by decide +kernel) (by decide) (by decide +kernel) rfl (fun l19 => ?_)
  refine x_icmp (k := 1) (tg := 34) (np := 15) (by decide +kernel) (by decide) l18 l19 (fun q20 => ?_) (fun q21 => ?_)
  · have q20 : (h6 75 7) ≠ (h6 75 9) := q20
    refine x_aload (np := 35) (x := 0) (by decide +kernel) rfl (x_nc_le (by decide)) ?_
    refine x_ldcB (i := 2) (idx := 147) (tx := "day") (by rw [tb_y188]; exact List.mem_of_getElem? (i := 37) rfl) (by decide) (by rw [tb_b188]; decide +kernel) ?_
    have m25 := Tq.fr hT f8 (by decide) (by decide)
    refine x_cP (t := 6) (mj := 170) (n := 2) (rc := 12) (ml := 4) (nr := 0) (np := 40) (as := [x_r 75, x_b (2 + 1)]) (rest := []) (lo1 := [x_r 75, x_b (2 + 1), 147573952589676412928, 147573952589676412928]) (by decide +kernel) (by decide) (by decide +kernel) (x_rb_of (by decide +kernel)) rfl rfl (x_wr (by decide) (x_wB (by decide) x_wn)) x_wn (by decide) rfl (c170_75_S0 j7  (by decide) m25) (fun v22 l23 q24 => ?_)
    obtain ⟨b28, c26, c27⟩ := q24
    have b29 : iv_tl 2 = 3 := by decide
    refine x_ifz (k := 0) (tg := 47) (np := 43) (by decide +kernel) (by decide) l23 (fun q30 => ?_) (fun q31 => ?_)
    · have q30 : v22 = 2147483648 := q30
      refine x_aload (np := 48) (x := 0) (by decide +kernel) rfl (x_nc_le (by decide)) ?_
      refine x_ldcB (i := 27) (idx := 226) (tx := "days") (by rw [tb_y188]; exact List.mem_of_getElem? (i := 62) rfl) (by decide) (by rw [tb_b188]; decide +kernel) ?_
      refine x_cP (t := 6) (mj := 170) (n := 2) (rc := 12) (ml := 4) (nr := 0) (np := 53) (as := [x_r 75, x_b (27 + 1)]) (rest := []) (lo1 := [x_r 75, x_b (27 + 1), 147573952589676412928, 147573952589676412928]) (by decide +kernel) (by decide) (by decide +kernel) (x_rb_of (by decide +kernel)) rfl rfl (x_wr (by decide) (x_wB (by decide) x_wn)) x_wn (by decide) rfl (c170_75_S0 j7  (by decide) m25) (fun v32 l33 q34 => ?_)
      obtain ⟨b37, c35, c36⟩ := q34
      have b38 : iv_tl 27 = 4 := by decide
      refine x_ifz (k := 0) (tg := 60) (np := 56) (by decide +kernel) (by decide) l33 (fun q39 => ?_) (fun q40 => ?_)
      · have q39 : v32 = 2147483648 := q39
        refine x_aload (np := 61) (x := 0) (by decide +kernel) rfl (x_nc_le (by decide)) ?_
        refine x_ldcB (i := 5) (idx := 158) (tx := "pledge") (by rw [tb_y188]; exact List.mem_of_getElem? (i := 40) rfl) (by decide) (by rw [tb_b188]; decide +kernel) ?_
        refine x_cP (t := 6) (mj := 170) (n := 2) (rc := 12) (ml := 4) (nr := 0) (np := 66) (as := [x_r 75, x_b (5 + 1)]) (rest := []) (lo1 := [x_r 75, x_b (5 + 1), 147573952589676412928, 147573952589676412928]) (by decide +kernel) (by decide) (by decide +kernel) (x_rb_of (by decide +kernel)) rfl rfl (x_wr (by decide) (x_wB (by decide) x_wn)) x_wn (by decide) rfl (c170_75_S0 j7  (by decide) m25) (fun v41 l42 q43 => ?_)
        obtain ⟨b46, c44, c45⟩ := q43
        have b47 : iv_tl 5 = 6 := by decide
        refine x_ifz (k := 0) (tg := 73) (np := 69) (by decide +kernel) (by decide) l42 (fun q48 => ?_) (fun q49 => ?_)
        · have q48 : v41 = 2147483648 := q48
          refine x_aload (np := 74) (x := 0) (by decide +kernel) rfl (x_nc_le (by decide)) ?_
          refine x_ldcB (i := 28) (idx := 228) (tx := "deep") (by rw [tb_y188]; exact List.mem_of_getElem? (i := 63) rfl) (by decide) (by rw [tb_b188]; decide +kernel) ?_
          refine x_cP (t := 6) (mj := 170) (n := 2) (rc := 12) (ml := 4) (nr := 0) (np := 79) (as := [x_r 75, x_b (28 + 1)]) (rest := []) (lo1 := [x_r 75, x_b (28 + 1), 147573952589676412928, 147573952589676412928]) (by decide +kernel) (by decide) (by decide +kernel) (x_rb_of (by decide +kernel)) rfl rfl (x_wr (by decide) (x_wB (by decide) x_wn)) x_wn (by decide) rfl (c170_75_S0 j7  (by decide) m25) (fun v50 l51 q52 => ?_)
          obtain ⟨b55, c53, c54⟩ := q52
          have b56 : iv_tl 28 = 4 := by decide
          refine x_ifz (k := 0) (tg := 86) (np := 82) (by decide +kernel) (by decide) l51 (fun q57 => ?_) (fun q58 => ?_)
          · have q57 : v50 = 2147483648 := q57
            refine x_aload (np := 87) (x := 0) (by decide +kernel) rfl (x_nc_le (by decide)) ?_
            refine x_ldcB (i := 29) (idx := 230) (tx := "gives") (by rw [tb_y188]; exact List.mem_of_getElem? (i := 64) rfl) (by decide) (by rw [tb_b188]; decide +kernel) ?_
            refine x_cP (t := 6) (mj := 170) (n := 2) (rc := 12) (ml := 4) (nr := 0) (np := 92) (as := [x_r 75, x_b (29 + 1)]) (rest := []) (lo1 := [x_r 75, x_b (29 + 1), 147573952589676412928, 147573952589676412928]) (by decide +kernel) (by decide) (by decide +kernel) (x_rb_of (by decide +kernel)) rfl rfl (x_wr (by decide) (x_wB (by decide) x_wn)) x_wn (by decide) rfl (c170_75_S0 j7  (by decide) m25) (fun v59 l60 q61 => ?_)
            obtain ⟨b64, c62, c63⟩ := q61
            have b65 : iv_tl 29 = 5 := by decide
            refine x_ifz (k := 0) (tg := 99) (np := 95) (by decide +kernel) (by decide) l60 (fun q66 => ?_) (fun q67 => ?_)
            · have q66 : v59 = 2147483648 := q66
              refine x_aload (np := 100) (x := 0) (by decide +kernel) rfl (x_nc_le (by decide)) ?_
              refine x_ldcB (i := 30) (idx := 232) (tx := "takes") (by rw [tb_y188]; exact List.mem_of_getElem? (i := 65) rfl) (by decide) (by rw [tb_b188]; decide +kernel) ?_
              refine x_cP (t := 6) (mj := 170) (n := 2) (rc := 12) (ml := 4) (nr := 0) (np := 105) (as := [x_r 75, x_b (30 + 1)]) (rest := []) (lo1 := [x_r 75, x_b (30 + 1), 147573952589676412928, 147573952589676412928]) (by decide +kernel) (by decide) (by decide +kernel) (x_rb_of (by decide +kernel)) rfl rfl (x_wr (by decide) (x_wB (by decide) x_wn)) x_wn (by decide) rfl (c170_75_S0 j7  (by decide) m25) (fun v68 l69 q70 => ?_)
              obtain ⟨b73, c71, c72⟩ := q70
              have b74 : iv_tl 30 = 5 := by decide
              refine x_ifz (k := 0) (tg := 112) (np := 108) (by decide +kernel) (by decide) l69 (fun q75 => ?_) (fun q76 => ?_)
              · have q75 : v68 = 2147483648 := q75
                refine x_const (np := 113) (x := 9223372034707292159) (a := 2147483647) (by decide +kernel) (by decide) (by decide) ?_
                refine x_istore (np := 114) (x := 1) (lo' := [x_r 75, iv_c 2147483647]) (by decide +kernel) (by decide) (Nat.le_of_ble_eq_true rfl) rfl ?_
                refine x_aload (np := 115) (x := 0) (by decide +kernel) rfl (x_nc_le (by decide)) ?_
                refine x_iload (np := 116) (x := 1) (by decide +kernel) rfl (by decide) ?_
                refine x_const (np := 117) (x := 9223372039002259456) (a := 2147483648) (by decide +kernel) (by decide) (by decide) ?_
                refine x_nV (t := 6) (mj := 187) (n := 3) (rc := 12) (ml := 3) (nr := 0) (np := 120) (as := [x_r 75, iv_c 2147483647, iv_c 2147483648]) (rest := []) (lo1 := [x_r 75, iv_c 2147483647, iv_c 2147483648]) (by decide +kernel) (by decide) (by decide +kernel) (x_rb_of (by decide +kernel)) rfl rfl (x_wr (by decide) (x_wi (by decide) (x_wi (by decide) x_wn))) x_wn (by decide) rfl ?_
                refine x_aload (np := 1) (x := 0) (by decide +kernel) rfl (x_nc_le (by decide)) ?_
                have q77 : h6 75 1 = 76 := by have z := jB (e := 1) 0 j7 rg_75_1_0_1 (by decide) (by decide); omega
                refine x_getR (np := 4) (x := 705) (f := 1) (q := 76) (by decide +kernel) (by decide) (by decide +kernel) q77 ?_
                refine x_const (np := 7) (x := 9223376986804585600) (a := 2147484800) (by decide +kernel) (by decide) (by decide) ?_
                refine x_const (np := 8) (x := 9223372047592194050) (a := 2147483650) (by decide +kernel) (by decide) (by decide) ?_
                refine x_aload (np := 9) (x := 0) (by decide +kernel) rfl (x_nc_le (by decide)) ?_
                have q78 : h6 75 13 = h 75 13 := jK 0 f8 rg_75_13_0_1 (by first | decide | omega) (by first | decide | omega) (by decide)
                refine x_getC (np := 12) (x := 717) (f := 13) (q := (h 75 13)) (by decide +kernel) (by decide) (by decide +kernel) q78 (fun l79 => ?_)
                obtain ⟨u80, q81⟩ : ∃ z, (h 75 13) = 2147483648 + z := ⟨(h 75 13) - 2147483648, by first | decide | omega⟩
                refine x_imul (np := 13) (x := 0) (i := 2) (j := u80) (v := (2147483648 + 2 * u80)) (by decide +kernel) (by first | decide | omega) (by first | decide | omega) (by first | decide | omega) (by first | decide | omega) (by decide) l79 ?_
                refine x_iadd (np := 14) (x := 0) (v := (2147484800 + 2 * u80)) (by decide +kernel) (by decide) (by first | decide | omega) (by first | decide | omega) (by first | decide | omega) ?_
                refine x_iload (np := 15) (x := 1) (by decide +kernel) rfl (by decide) ?_
                refine x_ast (np := 16) (x := 0) (kd := 1) (n := 1952) (i := (1152 + 2 * u80)) (by decide +kernel) (Or.inl rfl) (by decide +kernel) (by first | decide | omega) (by first | decide | omega) (by decide) (by decide) (fun z => absurd z (by decide)) ?_
                have j84 := jU (e := (1152 + 2 * u80)) (v := 2147483647) u80 j7 rg_76_1152_2_395 (by first | decide | omega) (by first | decide | omega) (by first | decide | omega)
                have f86 := jF (e := (1152 + 2 * u80)) (v := 2147483647) u80 f15 rg_76_1152_2_395 (by first | decide | omega) (by first | decide | omega) (by decide)
                generalize e85 : x_up h6 76 (1152 + 2 * u80) 2147483647 = h83 at j84 f86 ⊢
                refine x_aload (np := 17) (x := 0) (by decide +kernel) rfl (x_nc_le (by decide)) ?_
                have q87 : h83 75 1 = 76 := by have z := jB (e := 1) 0 j84 rg_75_1_0_1 (by decide) (by decide); omega
                refine x_getR (np := 20) (x := 705) (f := 1) (q := 76) (by decide +kernel) (by decide) (by decide +kernel) q87 ?_
                refine x_const (np := 23) (x := 9223376986804585600) (a := 2147484800) (by decide +kernel) (by decide) (by decide) ?_
                refine x_const (np := 24) (x := 9223372047592194050) (a := 2147483650) (by decide +kernel) (by decide) (by decide) ?_
                refine x_aload (np := 25) (x := 0) (by decide +kernel) rfl (x_nc_le (by decide)) ?_
                have q88 : h83 75 13 = h6 75 13 := by rw [← e85]; exact x_up_k (by decide)
                have q89 : h6 75 13 = h 75 13 := jK 0 f8 rg_75_13_0_1 (by first | decide | omega) (by first | decide | omega) (by decide)
                refine x_getC (np := 28) (x := 717) (f := 13) (q := (h 75 13)) (by decide +kernel) (by decide) (by decide +kernel) (q88.trans q89) (fun l90 => ?_)
                refine x_imul (np := 29) (x := 0) (i := 2) (j := u80) (v := (2147483648 + 2 * u80)) (by decide +kernel) (by first | decide | omega) (by first | decide | omega) (by first | decide | omega) (by first | decide | omega) (by decide) l79 ?_
                refine x_iadd (np := 30) (x := 0) (v := (2147484800 + 2 * u80)) (by decide +kernel) (by decide) (by first | decide | omega) (by first | decide | omega) (by first | decide | omega) ?_
                refine x_const (np := 31) (x := 9223372043297226753) (a := 2147483649) (by decide +kernel) (by decide) (by decide) ?_
                refine x_iadd (np := 32) (x := 0) (v := (2147484801 + 2 * u80)) (by decide +kernel) (by first | decide | omega) (by decide) (by first | decide | omega) (by first | decide | omega) ?_
                refine x_iload (np := 33) (x := 2) (by decide +kernel) rfl (by decide) ?_
                refine x_ast (np := 34) (x := 0) (kd := 1) (n := 1952) (i := (1153 + 2 * u80)) (by decide +kernel) (Or.inl rfl) (by decide +kernel) (by first | decide | omega) (by first | decide | omega) (by decide) (by decide) (fun z => absurd z (by decide)) ?_
                have j93 := jU (e := (1153 + 2 * u80)) (v := 2147483648) u80 j84 rg_76_1153_2_395 (by first | decide | omega) (by first | decide | omega) (by first | decide | omega)
                have f95 := jF (e := (1153 + 2 * u80)) (v := 2147483648) u80 f86 rg_76_1153_2_395 (by first | decide | omega) (by first | decide | omega) (by decide)
                generalize e94 : x_up h83 76 (1153 + 2 * u80) 2147483648 = h92 at j93 f95 ⊢
                refine x_aload (np := 35) (x := 0) (by decide +kernel) rfl (x_nc_le (by decide)) ?_
                refine x_dup (np := 36) (x := 0) (by decide +kernel) (by have z := x_nc_le (k := 75) (by decide); unfold x_r; omega) ?_
                have q96 : h92 75 13 = h83 75 13 := by rw [← e94]; exact x_up_k (by decide)
                have q97 : h83 75 13 = h6 75 13 := by rw [← e85]; exact x_up_k (by decide)
                have q98 : h6 75 13 = h 75 13 := jK 0 f8 rg_75_13_0_1 (by first | decide | omega) (by first | decide | omega) (by decide)
                refine x_getC (np := 39) (x := 717) (f := 13) (q := (h 75 13)) (by decide +kernel) (by decide) (by decide +kernel) ((q96.trans q97).trans q98) (fun l99 => ?_)
                refine x_const (np := 40) (x := 9223372043297226753) (a := 2147483649) (by decide +kernel) (by decide) (by decide) ?_
                refine x_iadd (np := 41) (x := 0) (v := (1 + (h 75 13))) (by decide +kernel) l79 (by decide) (by first | decide | omega) (by first | decide | omega) ?_
                refine x_putI (np := 44) (x := 717) (f := 13) (by decide +kernel) (by decide +kernel) (by first | decide | omega) (Or.inl (by decide)) ?_
                have j101 := jU (e := 13) (v := (1 + (h 75 13))) 0 j93 rg_75_13_0_1 (by first | decide | omega) (by first | decide | omega) (by first | decide | omega)
                have f103 := jF (e := 13) (v := (1 + (h 75 13))) 0 f95 rg_75_13_0_1 (by first | decide | omega) (by first | decide | omega) (by decide)
                generalize e102 : x_up h92 75 13 (1 + (h 75 13)) = h100 at j101 f103 ⊢
                refine x_retV (np := 45) (x := 0) (by decide +kernel) (by decide +kernel) ⟨rfl, ?_⟩
                have q104 : h100 75 13 = (1 + (h 75 13)) := by rw [← e102]; exact x_up_at
                refine x_iload (np := 121) (x := 1) (by decide +kernel) rfl (by decide) ?_
                refine x_ifz (k := 2) (tg := 128) (np := 124) (by decide +kernel) (by decide) (by decide) (fun q105 => ?_) (fun q106 => ?_)
                · have q105 : 2147483647 < 2147483648 := q105
                  refine x_const (np := 129) (x := 9223372039002259456) (a := 2147483648) (by decide +kernel) (by decide) (by decide) ?_
                  have q107 : h100 75 13 = (1 + (h 75 13)) := by rw [← e102]; exact x_up_at
                  have q108 : h100 75 7 = h92 75 7 := by rw [← e102]; exact x_up_i (by first | decide | omega)
                  have q109 : h92 75 7 = h83 75 7 := by rw [← e94]; exact x_up_k (by decide)
                  have q110 : h83 75 7 = h6 75 7 := by rw [← e85]; exact x_up_k (by decide)
                  have q111 : h100 75 7 = h92 75 7 := by rw [← e102]; exact x_up_i (by first | decide | omega)
                  have q112 : h92 75 7 = h83 75 7 := by rw [← e94]; exact x_up_k (by decide)
                  have q113 : h83 75 7 = h6 75 7 := by rw [← e85]; exact x_up_k (by decide)
                  have q114 : h100 75 13 = (1 + (h 75 13)) := by rw [← e102]; exact x_up_at
                  have k118 : Kp h h6 (h 75 13 - 2147483648) := Kp.fr Kp.refl f8 (by first | decide | omega) (by decide)
                  have k117 : Kp h h83 (h 75 13 - 2147483648) := by rw [← e85]; exact Kp.up k118 (by first | decide | omega) (fun i hi => by first | decide | omega)
                  have k116 : Kp h h92 (h 75 13 - 2147483648) := by rw [← e94]; exact Kp.up k117 (by first | decide | omega) (fun i hi => by first | decide | omega)
                  have k115 : Kp h h100 (h 75 13 - 2147483648) := by rw [← e102]; exact Kp.oth k116 (by decide)
                  have w119 : ¬ Wd tB tN 2 (sk tB tN (h 75 7)) := by rw [← c13]; exact Wd.no (by decide) (Is.no c27 (by first | decide | omega)) c14
                  have w120 : ¬ Wd tB tN 27 (sk tB tN (h 75 7)) := by rw [← c13]; exact Wd.no (by decide) (Is.no c36 (by first | decide | omega)) c14
                  have w121 : ¬ Wd tB tN 5 (sk tB tN (h 75 7)) := by rw [← c13]; exact Wd.no (by decide) (Is.no c45 (by first | decide | omega)) c14
                  have w122 : ¬ Wd tB tN 28 (sk tB tN (h 75 7)) := by rw [← c13]; exact Wd.no (by decide) (Is.no c54 (by first | decide | omega)) c14
                  have w123 : ¬ Wd tB tN 29 (sk tB tN (h 75 7)) := by rw [← c13]; exact Wd.no (by decide) (Is.no c63 (by first | decide | omega)) c14
                  have w124 : ¬ Wd tB tN 30 (sk tB tN (h 75 7)) := by rw [← c13]; exact Wd.no (by decide) (Is.no c72 (by first | decide | omega)) c14
                  have n125 : Ltr tB tN (sk tB tN (h 75 7)) := by rw [← c13]; exact ltr_of (by rw [← c14]; omega)
                  refine x_retI (np := 130) (x := 0) (by decide +kernel) (by decide) (Or.inr ⟨by decide +kernel, by first | decide | omega, by first | decide | omega⟩) ⟨_, rfl, (by decide), ?_⟩
                  exact ⟨j101, f103, (by first | decide | omega), (fun z => by first | decide | omega), (fun z => by first | decide | omega), (fun z => by first | decide | omega), k115, (fun z => absurd z (by first | decide | omega)), (fun l => gP_no (ltr_nb n125) w119 w120 w121 w122 w123 w124 (by first | decide | omega))⟩
                have q106 : ¬ (2147483647 < 2147483648) := q106
                exfalso; omega
              have q76 : ¬ (v68 = 2147483648) := q76
              have b126 := c71 (by first | decide | omega)
              refine x_const (np := 109) (x := 9223372060477095941) (a := 2147483653) (by decide +kernel) (by decide) (by decide) ?_
              refine x_goto (np := 112) (x := 113) (by decide +kernel) ?_
              refine x_istore (np := 114) (x := 1) (lo' := [x_r 75, iv_c 2147483653]) (by decide +kernel) (by decide) (Nat.le_of_ble_eq_true rfl) rfl ?_
              refine x_aload (np := 115) (x := 0) (by decide +kernel) rfl (x_nc_le (by decide)) ?_
              refine x_iload (np := 116) (x := 1) (by decide +kernel) rfl (by decide) ?_
              refine x_const (np := 117) (x := 9223372039002259456) (a := 2147483648) (by decide +kernel) (by decide) (by decide) ?_
              refine x_nV (t := 6) (mj := 187) (n := 3) (rc := 12) (ml := 3) (nr := 0) (np := 120) (as := [x_r 75, iv_c 2147483653, iv_c 2147483648]) (rest := []) (lo1 := [x_r 75, iv_c 2147483653, iv_c 2147483648]) (by decide +kernel) (by decide) (by decide +kernel) (x_rb_of (by decide +kernel)) rfl rfl (x_wr (by decide) (x_wi (by decide) (x_wi (by decide) x_wn))) x_wn (by decide) rfl ?_
              refine x_aload (np := 1) (x := 0) (by decide +kernel) rfl (x_nc_le (by decide)) ?_
              have q127 : h6 75 1 = 76 := by have z := jB (e := 1) 0 j7 rg_75_1_0_1 (by decide) (by decide); omega
              refine x_getR (np := 4) (x := 705) (f := 1) (q := 76) (by decide +kernel) (by decide) (by decide +kernel) q127 ?_
              refine x_const (np := 7) (x := 9223376986804585600) (a := 2147484800) (by decide +kernel) (by decide) (by decide) ?_
              refine x_const (np := 8) (x := 9223372047592194050) (a := 2147483650) (by decide +kernel) (by decide) (by decide) ?_
              refine x_aload (np := 9) (x := 0) (by decide +kernel) rfl (x_nc_le (by decide)) ?_
              have q128 : h6 75 13 = h 75 13 := jK 0 f8 rg_75_13_0_1 (by first | decide | omega) (by first | decide | omega) (by decide)
              refine x_getC (np := 12) (x := 717) (f := 13) (q := (h 75 13)) (by decide +kernel) (by decide) (by decide +kernel) q128 (fun l129 => ?_)
              obtain ⟨u130, q131⟩ : ∃ z, (h 75 13) = 2147483648 + z := ⟨(h 75 13) - 2147483648, by first | decide | omega⟩
              refine x_imul (np := 13) (x := 0) (i := 2) (j := u130) (v := (2147483648 + 2 * u130)) (by decide +kernel) (by first | decide | omega) (by first | decide | omega) (by first | decide | omega) (by first | decide | omega) (by decide) l129 ?_
              refine x_iadd (np := 14) (x := 0) (v := (2147484800 + 2 * u130)) (by decide +kernel) (by decide) (by first | decide | omega) (by first | decide | omega) (by first | decide | omega) ?_
              refine x_iload (np := 15) (x := 1) (by decide +kernel) rfl (by decide) ?_
              refine x_ast (np := 16) (x := 0) (kd := 1) (n := 1952) (i := (1152 + 2 * u130)) (by decide +kernel) (Or.inl rfl) (by decide +kernel) (by first | decide | omega) (by first | decide | omega) (by decide) (by decide) (fun z => absurd z (by decide)) ?_
              have j134 := jU (e := (1152 + 2 * u130)) (v := 2147483653) u130 j7 rg_76_1152_2_391 (by first | decide | omega) (by first | decide | omega) (by first | decide | omega)
              have f136 := jF (e := (1152 + 2 * u130)) (v := 2147483653) u130 f15 rg_76_1152_2_391 (by first | decide | omega) (by first | decide | omega) (by decide)
              generalize e135 : x_up h6 76 (1152 + 2 * u130) 2147483653 = h133 at j134 f136 ⊢
              refine x_aload (np := 17) (x := 0) (by decide +kernel) rfl (x_nc_le (by decide)) ?_
              have q137 : h133 75 1 = 76 := by have z := jB (e := 1) 0 j134 rg_75_1_0_1 (by decide) (by decide); omega
              refine x_getR (np := 20) (x := 705) (f := 1) (q := 76) (by decide +kernel) (by decide) (by decide +kernel) q137 ?_
              refine x_const (np := 23) (x := 9223376986804585600) (a := 2147484800) (by decide +kernel) (by decide) (by decide) ?_
              refine x_const (np := 24) (x := 9223372047592194050) (a := 2147483650) (by decide +kernel) (by decide) (by decide) ?_
              refine x_aload (np := 25) (x := 0) (by decide +kernel) rfl (x_nc_le (by decide)) ?_
              have q138 : h133 75 13 = h6 75 13 := by rw [← e135]; exact x_up_k (by decide)
              have q139 : h6 75 13 = h 75 13 := jK 0 f8 rg_75_13_0_1 (by first | decide | omega) (by first | decide | omega) (by decide)
              refine x_getC (np := 28) (x := 717) (f := 13) (q := (h 75 13)) (by decide +kernel) (by decide) (by decide +kernel) (q138.trans q139) (fun l140 => ?_)
              refine x_imul (np := 29) (x := 0) (i := 2) (j := u130) (v := (2147483648 + 2 * u130)) (by decide +kernel) (by first | decide | omega) (by first | decide | omega) (by first | decide | omega) (by first | decide | omega) (by decide) l129 ?_
              refine x_iadd (np := 30) (x := 0) (v := (2147484800 + 2 * u130)) (by decide +kernel) (by decide) (by first | decide | omega) (by first | decide | omega) (by first | decide | omega) ?_
              refine x_const (np := 31) (x := 9223372043297226753) (a := 2147483649) (by decide +kernel) (by decide) (by decide) ?_
              refine x_iadd (np := 32) (x := 0) (v := (2147484801 + 2 * u130)) (by decide +kernel) (by first | decide | omega) (by decide) (by first | decide | omega) (by first | decide | omega) ?_
              refine x_iload (np := 33) (x := 2) (by decide +kernel) rfl (by decide) ?_
              refine x_ast (np := 34) (x := 0) (kd := 1) (n := 1952) (i := (1153 + 2 * u130)) (by decide +kernel) (Or.inl rfl) (by decide +kernel) (by first | decide | omega) (by first | decide | omega) (by decide) (by decide) (fun z => absurd z (by decide)) ?_
              have j143 := jU (e := (1153 + 2 * u130)) (v := 2147483648) u130 j134 rg_76_1153_2_391 (by first | decide | omega) (by first | decide | omega) (by first | decide | omega)
              have f145 := jF (e := (1153 + 2 * u130)) (v := 2147483648) u130 f136 rg_76_1153_2_391 (by first | decide | omega) (by first | decide | omega) (by decide)
              generalize e144 : x_up h133 76 (1153 + 2 * u130) 2147483648 = h142 at j143 f145 ⊢
              refine x_aload (np := 35) (x := 0) (by decide +kernel) rfl (x_nc_le (by decide)) ?_
              refine x_dup (np := 36) (x := 0) (by decide +kernel) (by have z := x_nc_le (k := 75) (by decide); unfold x_r; omega) ?_
              have q146 : h142 75 13 = h133 75 13 := by rw [← e144]; exact x_up_k (by decide)
              have q147 : h133 75 13 = h6 75 13 := by rw [← e135]; exact x_up_k (by decide)
              have q148 : h6 75 13 = h 75 13 := jK 0 f8 rg_75_13_0_1 (by first | decide | omega) (by first | decide | omega) (by decide)
              refine x_getC (np := 39) (x := 717) (f := 13) (q := (h 75 13)) (by decide +kernel) (by decide) (by decide +kernel) ((q146.trans q147).trans q148) (fun l149 => ?_)
              refine x_const (np := 40) (x := 9223372043297226753) (a := 2147483649) (by decide +kernel) (by decide) (by decide) ?_
              refine x_iadd (np := 41) (x := 0) (v := (1 + (h 75 13))) (by decide +kernel) l129 (by decide) (by first | decide | omega) (by first | decide | omega) ?_
              refine x_putI (np := 44) (x := 717) (f := 13) (by decide +kernel) (by decide +kernel) (by first | decide | omega) (Or.inl (by decide)) ?_
              have j151 := jU (e := 13) (v := (1 + (h 75 13))) 0 j143 rg_75_13_0_1 (by first | decide | omega) (by first | decide | omega) (by first | decide | omega)
              have f153 := jF (e := 13) (v := (1 + (h 75 13))) 0 f145 rg_75_13_0_1 (by first | decide | omega) (by first | decide | omega) (by decide)
              generalize e152 : x_up h142 75 13 (1 + (h 75 13)) = h150 at j151 f153 ⊢
              refine x_retV (np := 45) (x := 0) (by decide +kernel) (by decide +kernel) ⟨rfl, ?_⟩
              have q154 : h150 75 13 = (1 + (h 75 13)) := by rw [← e152]; exact x_up_at
              refine x_iload (np := 121) (x := 1) (by decide +kernel) rfl (by decide) ?_
              refine x_ifz (k := 2) (tg := 128) (np := 124) (by decide +kernel) (by decide) (by decide) (fun q155 => ?_) (fun q156 => ?_)
              · have q155 : 2147483653 < 2147483648 := q155
                exfalso; omega
              have q156 : ¬ (2147483653 < 2147483648) := q156
              refine x_const (np := 125) (x := 9223372043297226753) (a := 2147483649) (by decide +kernel) (by decide) (by decide) ?_
              refine x_goto (np := 128) (x := 129) (by decide +kernel) ?_
              have q157 : h150 75 13 = (1 + (h 75 13)) := by rw [← e152]; exact x_up_at
              have q158 : h150 75 7 = h142 75 7 := by rw [← e152]; exact x_up_i (by first | decide | omega)
              have q159 : h142 75 7 = h133 75 7 := by rw [← e144]; exact x_up_k (by decide)
              have q160 : h133 75 7 = h6 75 7 := by rw [← e135]; exact x_up_k (by decide)
              have q161 : h150 75 7 = h142 75 7 := by rw [← e152]; exact x_up_i (by first | decide | omega)
              have q162 : h142 75 7 = h133 75 7 := by rw [← e144]; exact x_up_k (by decide)
              have q163 : h133 75 7 = h6 75 7 := by rw [← e135]; exact x_up_k (by decide)
              have q164 : h150 75 13 = (1 + (h 75 13)) := by rw [← e152]; exact x_up_at
              have k168 : Kp h h6 (h 75 13 - 2147483648) := Kp.fr Kp.refl f8 (by first | decide | omega) (by decide)
              have k167 : Kp h h133 (h 75 13 - 2147483648) := by rw [← e135]; exact Kp.up k168 (by first | decide | omega) (fun i hi => by first | decide | omega)
              have k166 : Kp h h142 (h 75 13 - 2147483648) := by rw [← e144]; exact Kp.up k167 (by first | decide | omega) (fun i hi => by first | decide | omega)
              have k165 : Kp h h150 (h 75 13 - 2147483648) := by rw [← e152]; exact Kp.oth k166 (by decide)
              have q169 : h150 75 13 = (1 + (h 75 13)) := by rw [← e152]; exact x_up_at
              have q171 : h150 76 (1152 + 2 * u130) = h142 76 (1152 + 2 * u130) := by rw [← e152]; exact x_up_k (by decide)
              have q172 : h142 76 (1152 + 2 * u130) = h133 76 (1152 + 2 * u130) := by rw [← e144]; exact x_up_i (by first | decide | omega)
              have q173 : h133 76 (1152 + 2 * u130) = 2147483653 := by rw [← e135]; exact x_up_at
              have s170 : Seg (sg h150) u130 (u130 + 1) := Seg.push (show 2147483648 ≤ h150 76 (1152 + 2 * u130) by first | decide | omega) (show h150 76 (1152 + 2 * u130) ≤ 2147483656 by first | decide | omega)
              have s174 : Seg (sg h150) (h 75 13 - 2147483648) (h150 75 13 - 2147483648) := Seg.cast (Seg.kp s170 Kp.refl) (by first | decide | omega) (by first | decide | omega)
              have w175 : ¬ Wd tB tN 2 (sk tB tN (h 75 7)) := by rw [← c13]; exact Wd.no (by decide) (Is.no c27 (by first | decide | omega)) c14
              have w176 : ¬ Wd tB tN 27 (sk tB tN (h 75 7)) := by rw [← c13]; exact Wd.no (by decide) (Is.no c36 (by first | decide | omega)) c14
              have w177 : ¬ Wd tB tN 5 (sk tB tN (h 75 7)) := by rw [← c13]; exact Wd.no (by decide) (Is.no c45 (by first | decide | omega)) c14
              have w178 : ¬ Wd tB tN 28 (sk tB tN (h 75 7)) := by rw [← c13]; exact Wd.no (by decide) (Is.no c54 (by first | decide | omega)) c14
              have w179 : ¬ Wd tB tN 29 (sk tB tN (h 75 7)) := by rw [← c13]; exact Wd.no (by decide) (Is.no c63 (by first | decide | omega)) c14
              have y180 := Is.yes c72 (by first | decide | omega)
              have w181 : Wd tB tN 30 (sk tB tN (h 75 7)) := by rw [← c13]; exact Wd.of' (by decide) y180 c14
              have q183 : h150 75 7 = h142 75 7 := by rw [← e152]; exact x_up_i (by first | decide | omega)
              have q184 : h142 75 7 = h133 75 7 := by rw [← e144]; exact x_up_k (by decide)
              have q185 : h133 75 7 = h6 75 7 := by rw [← e135]; exact x_up_k (by decide)
              have e182 : sk tB tN (h6 75 7) = sk tB tN (sk tB tN (h 75 7) + iv_tl 30) := by rw [← c13, ← y180.1]
              have q186 : h150 75 7 = h142 75 7 := by rw [← e152]; exact x_up_i (by first | decide | omega)
              have q187 : h142 75 7 = h133 75 7 := by rw [← e144]; exact x_up_k (by decide)
              have q188 : h133 75 7 = h6 75 7 := by rw [← e135]; exact x_up_k (by decide)
              refine x_retI (np := 130) (x := 0) (by decide +kernel) (by decide) (Or.inr ⟨by decide +kernel, by first | decide | omega, by first | decide | omega⟩) ⟨_, rfl, (by decide), ?_⟩
              exact ⟨j151, f153, (by first | decide | omega), (fun z => by first | decide | omega), (fun z => by first | decide | omega), (fun z => by first | decide | omega), k165, (fun _ => s174), (fun l => gP_wd (i := 30) (by unfold six; decide) w181 rfl e182 (by first | decide | omega) (congrArg (sk tB tN) (show h6 75 7 = h150 75 7 by first | decide | omega)))⟩
            have q67 : ¬ (v59 = 2147483648) := q67
            have b189 := c62 (by first | decide | omega)
            refine x_const (np := 96) (x := 9223372056182128644) (a := 2147483652) (by decide +kernel) (by decide) (by decide) ?_
            refine x_goto (np := 99) (x := 113) (by decide +kernel) ?_
            refine x_istore (np := 114) (x := 1) (lo' := [x_r 75, iv_c 2147483652]) (by decide +kernel) (by decide) (Nat.le_of_ble_eq_true rfl) rfl ?_
            refine x_aload (np := 115) (x := 0) (by decide +kernel) rfl (x_nc_le (by decide)) ?_
            refine x_iload (np := 116) (x := 1) (by decide +kernel) rfl (by decide) ?_
            refine x_const (np := 117) (x := 9223372039002259456) (a := 2147483648) (by decide +kernel) (by decide) (by decide) ?_
            refine x_nV (t := 6) (mj := 187) (n := 3) (rc := 12) (ml := 3) (nr := 0) (np := 120) (as := [x_r 75, iv_c 2147483652, iv_c 2147483648]) (rest := []) (lo1 := [x_r 75, iv_c 2147483652, iv_c 2147483648]) (by decide +kernel) (by decide) (by decide +kernel) (x_rb_of (by decide +kernel)) rfl rfl (x_wr (by decide) (x_wi (by decide) (x_wi (by decide) x_wn))) x_wn (by decide) rfl ?_
            refine x_aload (np := 1) (x := 0) (by decide +kernel) rfl (x_nc_le (by decide)) ?_
            have q190 : h6 75 1 = 76 := by have z := jB (e := 1) 0 j7 rg_75_1_0_1 (by decide) (by decide); omega
            refine x_getR (np := 4) (x := 705) (f := 1) (q := 76) (by decide +kernel) (by decide) (by decide +kernel) q190 ?_
            refine x_const (np := 7) (x := 9223376986804585600) (a := 2147484800) (by decide +kernel) (by decide) (by decide) ?_
            refine x_const (np := 8) (x := 9223372047592194050) (a := 2147483650) (by decide +kernel) (by decide) (by decide) ?_
            refine x_aload (np := 9) (x := 0) (by decide +kernel) rfl (x_nc_le (by decide)) ?_
            have q191 : h6 75 13 = h 75 13 := jK 0 f8 rg_75_13_0_1 (by first | decide | omega) (by first | decide | omega) (by decide)
            refine x_getC (np := 12) (x := 717) (f := 13) (q := (h 75 13)) (by decide +kernel) (by decide) (by decide +kernel) q191 (fun l192 => ?_)
            obtain ⟨u193, q194⟩ : ∃ z, (h 75 13) = 2147483648 + z := ⟨(h 75 13) - 2147483648, by first | decide | omega⟩
            refine x_imul (np := 13) (x := 0) (i := 2) (j := u193) (v := (2147483648 + 2 * u193)) (by decide +kernel) (by first | decide | omega) (by first | decide | omega) (by first | decide | omega) (by first | decide | omega) (by decide) l192 ?_
            refine x_iadd (np := 14) (x := 0) (v := (2147484800 + 2 * u193)) (by decide +kernel) (by decide) (by first | decide | omega) (by first | decide | omega) (by first | decide | omega) ?_
            refine x_iload (np := 15) (x := 1) (by decide +kernel) rfl (by decide) ?_
            refine x_ast (np := 16) (x := 0) (kd := 1) (n := 1952) (i := (1152 + 2 * u193)) (by decide +kernel) (Or.inl rfl) (by decide +kernel) (by first | decide | omega) (by first | decide | omega) (by decide) (by decide) (fun z => absurd z (by decide)) ?_
            have j197 := jU (e := (1152 + 2 * u193)) (v := 2147483652) u193 j7 rg_76_1152_2_391 (by first | decide | omega) (by first | decide | omega) (by first | decide | omega)
            have f199 := jF (e := (1152 + 2 * u193)) (v := 2147483652) u193 f15 rg_76_1152_2_391 (by first | decide | omega) (by first | decide | omega) (by decide)
            generalize e198 : x_up h6 76 (1152 + 2 * u193) 2147483652 = h196 at j197 f199 ⊢
            refine x_aload (np := 17) (x := 0) (by decide +kernel) rfl (x_nc_le (by decide)) ?_
            have q200 : h196 75 1 = 76 := by have z := jB (e := 1) 0 j197 rg_75_1_0_1 (by decide) (by decide); omega
            refine x_getR (np := 20) (x := 705) (f := 1) (q := 76) (by decide +kernel) (by decide) (by decide +kernel) q200 ?_
            refine x_const (np := 23) (x := 9223376986804585600) (a := 2147484800) (by decide +kernel) (by decide) (by decide) ?_
            refine x_const (np := 24) (x := 9223372047592194050) (a := 2147483650) (by decide +kernel) (by decide) (by decide) ?_
            refine x_aload (np := 25) (x := 0) (by decide +kernel) rfl (x_nc_le (by decide)) ?_
            have q201 : h196 75 13 = h6 75 13 := by rw [← e198]; exact x_up_k (by decide)
            have q202 : h6 75 13 = h 75 13 := jK 0 f8 rg_75_13_0_1 (by first | decide | omega) (by first | decide | omega) (by decide)
            refine x_getC (np := 28) (x := 717) (f := 13) (q := (h 75 13)) (by decide +kernel) (by decide) (by decide +kernel) (q201.trans q202) (fun l203 => ?_)
            refine x_imul (np := 29) (x := 0) (i := 2) (j := u193) (v := (2147483648 + 2 * u193)) (by decide +kernel) (by first | decide | omega) (by first | decide | omega) (by first | decide | omega) (by first | decide | omega) (by decide) l192 ?_
            refine x_iadd (np := 30) (x := 0) (v := (2147484800 + 2 * u193)) (by decide +kernel) (by decide) (by first | decide | omega) (by first | decide | omega) (by first | decide | omega) ?_
            refine x_const (np := 31) (x := 9223372043297226753) (a := 2147483649) (by decide +kernel) (by decide) (by decide) ?_
            refine x_iadd (np := 32) (x := 0) (v := (2147484801 + 2 * u193)) (by decide +kernel) (by first | decide | omega) (by decide) (by first | decide | omega) (by first | decide | omega) ?_
            refine x_iload (np := 33) (x := 2) (by decide +kernel) rfl (by decide) ?_
            refine x_ast (np := 34) (x := 0) (kd := 1) (n := 1952) (i := (1153 + 2 * u193)) (by decide +kernel) (Or.inl rfl) (by decide +kernel) (by first | decide | omega) (by first | decide | omega) (by decide) (by decide) (fun z => absurd z (by decide)) ?_
            have j206 := jU (e := (1153 + 2 * u193)) (v := 2147483648) u193 j197 rg_76_1153_2_391 (by first | decide | omega) (by first | decide | omega) (by first | decide | omega)
            have f208 := jF (e := (1153 + 2 * u193)) (v := 2147483648) u193 f199 rg_76_1153_2_391 (by first | decide | omega) (by first | decide | omega) (by decide)
            generalize e207 : x_up h196 76 (1153 + 2 * u193) 2147483648 = h205 at j206 f208 ⊢
            refine x_aload (np := 35) (x := 0) (by decide +kernel) rfl (x_nc_le (by decide)) ?_
            refine x_dup (np := 36) (x := 0) (by decide +kernel) (by have z := x_nc_le (k := 75) (by decide); unfold x_r; omega) ?_
            have q209 : h205 75 13 = h196 75 13 := by rw [← e207]; exact x_up_k (by decide)
            have q210 : h196 75 13 = h6 75 13 := by rw [← e198]; exact x_up_k (by decide)
            have q211 : h6 75 13 = h 75 13 := jK 0 f8 rg_75_13_0_1 (by first | decide | omega) (by first | decide | omega) (by decide)
            refine x_getC (np := 39) (x := 717) (f := 13) (q := (h 75 13)) (by decide +kernel) (by decide) (by decide +kernel) ((q209.trans q210).trans q211) (fun l212 => ?_)
            refine x_const (np := 40) (x := 9223372043297226753) (a := 2147483649) (by decide +kernel) (by decide) (by decide) ?_
            refine x_iadd (np := 41) (x := 0) (v := (1 + (h 75 13))) (by decide +kernel) l192 (by decide) (by first | decide | omega) (by first | decide | omega) ?_
            refine x_putI (np := 44) (x := 717) (f := 13) (by decide +kernel) (by decide +kernel) (by first | decide | omega) (Or.inl (by decide)) ?_
            have j214 := jU (e := 13) (v := (1 + (h 75 13))) 0 j206 rg_75_13_0_1 (by first | decide | omega) (by first | decide | omega) (by first | decide | omega)
            have f216 := jF (e := 13) (v := (1 + (h 75 13))) 0 f208 rg_75_13_0_1 (by first | decide | omega) (by first | decide | omega) (by decide)
            generalize e215 : x_up h205 75 13 (1 + (h 75 13)) = h213 at j214 f216 ⊢
            refine x_retV (np := 45) (x := 0) (by decide +kernel) (by decide +kernel) ⟨rfl, ?_⟩
            have q217 : h213 75 13 = (1 + (h 75 13)) := by rw [← e215]; exact x_up_at
            refine x_iload (np := 121) (x := 1) (by decide +kernel) rfl (by decide) ?_
            refine x_ifz (k := 2) (tg := 128) (np := 124) (by decide +kernel) (by decide) (by decide) (fun q218 => ?_) (fun q219 => ?_)
            · have q218 : 2147483652 < 2147483648 := q218
              exfalso; omega
            have q219 : ¬ (2147483652 < 2147483648) := q219
            refine x_const (np := 125) (x := 9223372043297226753) (a := 2147483649) (by decide +kernel) (by decide) (by decide) ?_
            refine x_goto (np := 128) (x := 129) (by decide +kernel) ?_
            have q220 : h213 75 13 = (1 + (h 75 13)) := by rw [← e215]; exact x_up_at
            have q221 : h213 75 7 = h205 75 7 := by rw [← e215]; exact x_up_i (by first | decide | omega)
            have q222 : h205 75 7 = h196 75 7 := by rw [← e207]; exact x_up_k (by decide)
            have q223 : h196 75 7 = h6 75 7 := by rw [← e198]; exact x_up_k (by decide)
            have q224 : h213 75 7 = h205 75 7 := by rw [← e215]; exact x_up_i (by first | decide | omega)
            have q225 : h205 75 7 = h196 75 7 := by rw [← e207]; exact x_up_k (by decide)
            have q226 : h196 75 7 = h6 75 7 := by rw [← e198]; exact x_up_k (by decide)
            have q227 : h213 75 13 = (1 + (h 75 13)) := by rw [← e215]; exact x_up_at
            have k231 : Kp h h6 (h 75 13 - 2147483648) := Kp.fr Kp.refl f8 (by first | decide | omega) (by decide)
            have k230 : Kp h h196 (h 75 13 - 2147483648) := by rw [← e198]; exact Kp.up k231 (by first | decide | omega) (fun i hi => by first | decide | omega)
            have k229 : Kp h h205 (h 75 13 - 2147483648) := by rw [← e207]; exact Kp.up k230 (by first | decide | omega) (fun i hi => by first | decide | omega)
            have k228 : Kp h h213 (h 75 13 - 2147483648) := by rw [← e215]; exact Kp.oth k229 (by decide)
            have q232 : h213 75 13 = (1 + (h 75 13)) := by rw [← e215]; exact x_up_at
            have q234 : h213 76 (1152 + 2 * u193) = h205 76 (1152 + 2 * u193) := by rw [← e215]; exact x_up_k (by decide)
            have q235 : h205 76 (1152 + 2 * u193) = h196 76 (1152 + 2 * u193) := by rw [← e207]; exact x_up_i (by first | decide | omega)
            have q236 : h196 76 (1152 + 2 * u193) = 2147483652 := by rw [← e198]; exact x_up_at
            have s233 : Seg (sg h213) u193 (u193 + 1) := Seg.push (show 2147483648 ≤ h213 76 (1152 + 2 * u193) by first | decide | omega) (show h213 76 (1152 + 2 * u193) ≤ 2147483656 by first | decide | omega)
            have s237 : Seg (sg h213) (h 75 13 - 2147483648) (h213 75 13 - 2147483648) := Seg.cast (Seg.kp s233 Kp.refl) (by first | decide | omega) (by first | decide | omega)
            have w238 : ¬ Wd tB tN 2 (sk tB tN (h 75 7)) := by rw [← c13]; exact Wd.no (by decide) (Is.no c27 (by first | decide | omega)) c14
            have w239 : ¬ Wd tB tN 27 (sk tB tN (h 75 7)) := by rw [← c13]; exact Wd.no (by decide) (Is.no c36 (by first | decide | omega)) c14
            have w240 : ¬ Wd tB tN 5 (sk tB tN (h 75 7)) := by rw [← c13]; exact Wd.no (by decide) (Is.no c45 (by first | decide | omega)) c14
            have w241 : ¬ Wd tB tN 28 (sk tB tN (h 75 7)) := by rw [← c13]; exact Wd.no (by decide) (Is.no c54 (by first | decide | omega)) c14
            have y242 := Is.yes c63 (by first | decide | omega)
            have w243 : Wd tB tN 29 (sk tB tN (h 75 7)) := by rw [← c13]; exact Wd.of' (by decide) y242 c14
            have q245 : h213 75 7 = h205 75 7 := by rw [← e215]; exact x_up_i (by first | decide | omega)
            have q246 : h205 75 7 = h196 75 7 := by rw [← e207]; exact x_up_k (by decide)
            have q247 : h196 75 7 = h6 75 7 := by rw [← e198]; exact x_up_k (by decide)
            have e244 : sk tB tN (h6 75 7) = sk tB tN (sk tB tN (h 75 7) + iv_tl 29) := by rw [← c13, ← y242.1]
            have q248 : h213 75 7 = h205 75 7 := by rw [← e215]; exact x_up_i (by first | decide | omega)
            have q249 : h205 75 7 = h196 75 7 := by rw [← e207]; exact x_up_k (by decide)
            have q250 : h196 75 7 = h6 75 7 := by rw [← e198]; exact x_up_k (by decide)
            refine x_retI (np := 130) (x := 0) (by decide +kernel) (by decide) (Or.inr ⟨by decide +kernel, by first | decide | omega, by first | decide | omega⟩) ⟨_, rfl, (by decide), ?_⟩
            exact ⟨j214, f216, (by first | decide | omega), (fun z => by first | decide | omega), (fun z => by first | decide | omega), (fun z => by first | decide | omega), k228, (fun _ => s237), (fun l => gP_wd (i := 29) (by unfold six; decide) w243 rfl e244 (by first | decide | omega) (congrArg (sk tB tN) (show h6 75 7 = h213 75 7 by first | decide | omega)))⟩
          have q58 : ¬ (v50 = 2147483648) := q58
          have b251 := c53 (by first | decide | omega)
          refine x_const (np := 83) (x := 9223372051887161347) (a := 2147483651) (by decide +kernel) (by decide) (by decide) ?_
          refine x_goto (np := 86) (x := 113) (by decide +kernel) ?_
          refine x_istore (np := 114) (x := 1) (lo' := [x_r 75, iv_c 2147483651]) (by decide +kernel) (by decide) (Nat.le_of_ble_eq_true rfl) rfl ?_
          refine x_aload (np := 115) (x := 0) (by decide +kernel) rfl (x_nc_le (by decide)) ?_
          refine x_iload (np := 116) (x := 1) (by decide +kernel) rfl (by decide) ?_
          refine x_const (np := 117) (x := 9223372039002259456) (a := 2147483648) (by decide +kernel) (by decide) (by decide) ?_
          refine x_nV (t := 6) (mj := 187) (n := 3) (rc := 12) (ml := 3) (nr := 0) (np := 120) (as := [x_r 75, iv_c 2147483651, iv_c 2147483648]) (rest := []) (lo1 := [x_r 75, iv_c 2147483651, iv_c 2147483648]) (by decide +kernel) (by decide) (by decide +kernel) (x_rb_of (by decide +kernel)) rfl rfl (x_wr (by decide) (x_wi (by decide) (x_wi (by decide) x_wn))) x_wn (by decide) rfl ?_
          refine x_aload (np := 1) (x := 0) (by decide +kernel) rfl (x_nc_le (by decide)) ?_
          have q252 : h6 75 1 = 76 := by have z := jB (e := 1) 0 j7 rg_75_1_0_1 (by decide) (by decide); omega
          refine x_getR (np := 4) (x := 705) (f := 1) (q := 76) (by decide +kernel) (by decide) (by decide +kernel) q252 ?_
          refine x_const (np := 7) (x := 9223376986804585600) (a := 2147484800) (by decide +kernel) (by decide) (by decide) ?_
          refine x_const (np := 8) (x := 9223372047592194050) (a := 2147483650) (by decide +kernel) (by decide) (by decide) ?_
          refine x_aload (np := 9) (x := 0) (by decide +kernel) rfl (x_nc_le (by decide)) ?_
          have q253 : h6 75 13 = h 75 13 := jK 0 f8 rg_75_13_0_1 (by first | decide | omega) (by first | decide | omega) (by decide)
          refine x_getC (np := 12) (x := 717) (f := 13) (q := (h 75 13)) (by decide +kernel) (by decide) (by decide +kernel) q253 (fun l254 => ?_)
          obtain ⟨u255, q256⟩ : ∃ z, (h 75 13) = 2147483648 + z := ⟨(h 75 13) - 2147483648, by first | decide | omega⟩
          refine x_imul (np := 13) (x := 0) (i := 2) (j := u255) (v := (2147483648 + 2 * u255)) (by decide +kernel) (by first | decide | omega) (by first | decide | omega) (by first | decide | omega) (by first | decide | omega) (by decide) l254 ?_
          refine x_iadd (np := 14) (x := 0) (v := (2147484800 + 2 * u255)) (by decide +kernel) (by decide) (by first | decide | omega) (by first | decide | omega) (by first | decide | omega) ?_
          refine x_iload (np := 15) (x := 1) (by decide +kernel) rfl (by decide) ?_
          refine x_ast (np := 16) (x := 0) (kd := 1) (n := 1952) (i := (1152 + 2 * u255)) (by decide +kernel) (Or.inl rfl) (by decide +kernel) (by first | decide | omega) (by first | decide | omega) (by decide) (by decide) (fun z => absurd z (by decide)) ?_
          have j259 := jU (e := (1152 + 2 * u255)) (v := 2147483651) u255 j7 rg_76_1152_2_392 (by first | decide | omega) (by first | decide | omega) (by first | decide | omega)
          have f261 := jF (e := (1152 + 2 * u255)) (v := 2147483651) u255 f15 rg_76_1152_2_392 (by first | decide | omega) (by first | decide | omega) (by decide)
          generalize e260 : x_up h6 76 (1152 + 2 * u255) 2147483651 = h258 at j259 f261 ⊢
          refine x_aload (np := 17) (x := 0) (by decide +kernel) rfl (x_nc_le (by decide)) ?_
          have q262 : h258 75 1 = 76 := by have z := jB (e := 1) 0 j259 rg_75_1_0_1 (by decide) (by decide); omega
          refine x_getR (np := 20) (x := 705) (f := 1) (q := 76) (by decide +kernel) (by decide) (by decide +kernel) q262 ?_
          refine x_const (np := 23) (x := 9223376986804585600) (a := 2147484800) (by decide +kernel) (by decide) (by decide) ?_
          refine x_const (np := 24) (x := 9223372047592194050) (a := 2147483650) (by decide +kernel) (by decide) (by decide) ?_
          refine x_aload (np := 25) (x := 0) (by decide +kernel) rfl (x_nc_le (by decide)) ?_
          have q263 : h258 75 13 = h6 75 13 := by rw [← e260]; exact x_up_k (by decide)
          have q264 : h6 75 13 = h 75 13 := jK 0 f8 rg_75_13_0_1 (by first | decide | omega) (by first | decide | omega) (by decide)
          refine x_getC (np := 28) (x := 717) (f := 13) (q := (h 75 13)) (by decide +kernel) (by decide) (by decide +kernel) (q263.trans q264) (fun l265 => ?_)
          refine x_imul (np := 29) (x := 0) (i := 2) (j := u255) (v := (2147483648 + 2 * u255)) (by decide +kernel) (by first | decide | omega) (by first | decide | omega) (by first | decide | omega) (by first | decide | omega) (by decide) l254 ?_
          refine x_iadd (np := 30) (x := 0) (v := (2147484800 + 2 * u255)) (by decide +kernel) (by decide) (by first | decide | omega) (by first | decide | omega) (by first | decide | omega) ?_
          refine x_const (np := 31) (x := 9223372043297226753) (a := 2147483649) (by decide +kernel) (by decide) (by decide) ?_
          refine x_iadd (np := 32) (x := 0) (v := (2147484801 + 2 * u255)) (by decide +kernel) (by first | decide | omega) (by decide) (by first | decide | omega) (by first | decide | omega) ?_
          refine x_iload (np := 33) (x := 2) (by decide +kernel) rfl (by decide) ?_
          refine x_ast (np := 34) (x := 0) (kd := 1) (n := 1952) (i := (1153 + 2 * u255)) (by decide +kernel) (Or.inl rfl) (by decide +kernel) (by first | decide | omega) (by first | decide | omega) (by decide) (by decide) (fun z => absurd z (by decide)) ?_
          have j268 := jU (e := (1153 + 2 * u255)) (v := 2147483648) u255 j259 rg_76_1153_2_392 (by first | decide | omega) (by first | decide | omega) (by first | decide | omega)
          have f270 := jF (e := (1153 + 2 * u255)) (v := 2147483648) u255 f261 rg_76_1153_2_392 (by first | decide | omega) (by first | decide | omega) (by decide)
          generalize e269 : x_up h258 76 (1153 + 2 * u255) 2147483648 = h267 at j268 f270 ⊢
          refine x_aload (np := 35) (x := 0) (by decide +kernel) rfl (x_nc_le (by decide)) ?_
          refine x_dup (np := 36) (x := 0) (by decide +kernel) (by have z := x_nc_le (k := 75) (by decide); unfold x_r; omega) ?_
          have q271 : h267 75 13 = h258 75 13 := by rw [← e269]; exact x_up_k (by decide)
          have q272 : h258 75 13 = h6 75 13 := by rw [← e260]; exact x_up_k (by decide)
          have q273 : h6 75 13 = h 75 13 := jK 0 f8 rg_75_13_0_1 (by first | decide | omega) (by first | decide | omega) (by decide)
          refine x_getC (np := 39) (x := 717) (f := 13) (q := (h 75 13)) (by decide +kernel) (by decide) (by decide +kernel) ((q271.trans q272).trans q273) (fun l274 => ?_)
          refine x_const (np := 40) (x := 9223372043297226753) (a := 2147483649) (by decide +kernel) (by decide) (by decide) ?_
          refine x_iadd (np := 41) (x := 0) (v := (1 + (h 75 13))) (by decide +kernel) l254 (by decide) (by first | decide | omega) (by first | decide | omega) ?_
          refine x_putI (np := 44) (x := 717) (f := 13) (by decide +kernel) (by decide +kernel) (by first | decide | omega) (Or.inl (by decide)) ?_
          have j276 := jU (e := 13) (v := (1 + (h 75 13))) 0 j268 rg_75_13_0_1 (by first | decide | omega) (by first | decide | omega) (by first | decide | omega)
          have f278 := jF (e := 13) (v := (1 + (h 75 13))) 0 f270 rg_75_13_0_1 (by first | decide | omega) (by first | decide | omega) (by decide)
          generalize e277 : x_up h267 75 13 (1 + (h 75 13)) = h275 at j276 f278 ⊢
          refine x_retV (np := 45) (x := 0) (by decide +kernel) (by decide +kernel) ⟨rfl, ?_⟩
          have q279 : h275 75 13 = (1 + (h 75 13)) := by rw [← e277]; exact x_up_at
          refine x_iload (np := 121) (x := 1) (by decide +kernel) rfl (by decide) ?_
          refine x_ifz (k := 2) (tg := 128) (np := 124) (by decide +kernel) (by decide) (by decide) (fun q280 => ?_) (fun q281 => ?_)
          · have q280 : 2147483651 < 2147483648 := q280
            exfalso; omega
          have q281 : ¬ (2147483651 < 2147483648) := q281
          refine x_const (np := 125) (x := 9223372043297226753) (a := 2147483649) (by decide +kernel) (by decide) (by decide) ?_
          refine x_goto (np := 128) (x := 129) (by decide +kernel) ?_
          have q282 : h275 75 13 = (1 + (h 75 13)) := by rw [← e277]; exact x_up_at
          have q283 : h275 75 7 = h267 75 7 := by rw [← e277]; exact x_up_i (by first | decide | omega)
          have q284 : h267 75 7 = h258 75 7 := by rw [← e269]; exact x_up_k (by decide)
          have q285 : h258 75 7 = h6 75 7 := by rw [← e260]; exact x_up_k (by decide)
          have q286 : h275 75 7 = h267 75 7 := by rw [← e277]; exact x_up_i (by first | decide | omega)
          have q287 : h267 75 7 = h258 75 7 := by rw [← e269]; exact x_up_k (by decide)
          have q288 : h258 75 7 = h6 75 7 := by rw [← e260]; exact x_up_k (by decide)
          have q289 : h275 75 13 = (1 + (h 75 13)) := by rw [← e277]; exact x_up_at
          have k293 : Kp h h6 (h 75 13 - 2147483648) := Kp.fr Kp.refl f8 (by first | decide | omega) (by decide)
          have k292 : Kp h h258 (h 75 13 - 2147483648) := by rw [← e260]; exact Kp.up k293 (by first | decide | omega) (fun i hi => by first | decide | omega)
          have k291 : Kp h h267 (h 75 13 - 2147483648) := by rw [← e269]; exact Kp.up k292 (by first | decide | omega) (fun i hi => by first | decide | omega)
          have k290 : Kp h h275 (h 75 13 - 2147483648) := by rw [← e277]; exact Kp.oth k291 (by decide)
          have q294 : h275 75 13 = (1 + (h 75 13)) := by rw [← e277]; exact x_up_at
          have q296 : h275 76 (1152 + 2 * u255) = h267 76 (1152 + 2 * u255) := by rw [← e277]; exact x_up_k (by decide)
          have q297 : h267 76 (1152 + 2 * u255) = h258 76 (1152 + 2 * u255) := by rw [← e269]; exact x_up_i (by first | decide | omega)
          have q298 : h258 76 (1152 + 2 * u255) = 2147483651 := by rw [← e260]; exact x_up_at
          have s295 : Seg (sg h275) u255 (u255 + 1) := Seg.push (show 2147483648 ≤ h275 76 (1152 + 2 * u255) by first | decide | omega) (show h275 76 (1152 + 2 * u255) ≤ 2147483656 by first | decide | omega)
          have s299 : Seg (sg h275) (h 75 13 - 2147483648) (h275 75 13 - 2147483648) := Seg.cast (Seg.kp s295 Kp.refl) (by first | decide | omega) (by first | decide | omega)
          have w300 : ¬ Wd tB tN 2 (sk tB tN (h 75 7)) := by rw [← c13]; exact Wd.no (by decide) (Is.no c27 (by first | decide | omega)) c14
          have w301 : ¬ Wd tB tN 27 (sk tB tN (h 75 7)) := by rw [← c13]; exact Wd.no (by decide) (Is.no c36 (by first | decide | omega)) c14
          have w302 : ¬ Wd tB tN 5 (sk tB tN (h 75 7)) := by rw [← c13]; exact Wd.no (by decide) (Is.no c45 (by first | decide | omega)) c14
          have y303 := Is.yes c54 (by first | decide | omega)
          have w304 : Wd tB tN 28 (sk tB tN (h 75 7)) := by rw [← c13]; exact Wd.of' (by decide) y303 c14
          have q306 : h275 75 7 = h267 75 7 := by rw [← e277]; exact x_up_i (by first | decide | omega)
          have q307 : h267 75 7 = h258 75 7 := by rw [← e269]; exact x_up_k (by decide)
          have q308 : h258 75 7 = h6 75 7 := by rw [← e260]; exact x_up_k (by decide)
          have e305 : sk tB tN (h6 75 7) = sk tB tN (sk tB tN (h 75 7) + iv_tl 28) := by rw [← c13, ← y303.1]
          have q309 : h275 75 7 = h267 75 7 := by rw [← e277]; exact x_up_i (by first | decide | omega)
          have q310 : h267 75 7 = h258 75 7 := by rw [← e269]; exact x_up_k (by decide)
          have q311 : h258 75 7 = h6 75 7 := by rw [← e260]; exact x_up_k (by decide)
          refine x_retI (np := 130) (x := 0) (by decide +kernel) (by decide) (Or.inr ⟨by decide +kernel, by first | decide | omega, by first | decide | omega⟩) ⟨_, rfl, (by decide), ?_⟩
          exact ⟨j276, f278, (by first | decide | omega), (fun z => by first | decide | omega), (fun z => by first | decide | omega), (fun z => by first | decide | omega), k290, (fun _ => s299), (fun l => gP_wd (i := 28) (by unfold six; decide) w304 rfl e305 (by first | decide | omega) (congrArg (sk tB tN) (show h6 75 7 = h275 75 7 by first | decide | omega)))⟩
        have q49 : ¬ (v41 = 2147483648) := q49
        have b312 := c44 (by first | decide | omega)
        refine x_const (np := 70) (x := 9223372047592194050) (a := 2147483650) (by decide +kernel) (by decide) (by decide) ?_
        refine x_goto (np := 73) (x := 113) (by decide +kernel) ?_
        refine x_istore (np := 114) (x := 1) (lo' := [x_r 75, iv_c 2147483650]) (by decide +kernel) (by decide) (Nat.le_of_ble_eq_true rfl) rfl ?_
        refine x_aload (np := 115) (x := 0) (by decide +kernel) rfl (x_nc_le (by decide)) ?_
        refine x_iload (np := 116) (x := 1) (by decide +kernel) rfl (by decide) ?_
        refine x_const (np := 117) (x := 9223372039002259456) (a := 2147483648) (by decide +kernel) (by decide) (by decide) ?_
        refine x_nV (t := 6) (mj := 187) (n := 3) (rc := 12) (ml := 3) (nr := 0) (np := 120) (as := [x_r 75, iv_c 2147483650, iv_c 2147483648]) (rest := []) (lo1 := [x_r 75, iv_c 2147483650, iv_c 2147483648]) (by decide +kernel) (by decide) (by decide +kernel) (x_rb_of (by decide +kernel)) rfl rfl (x_wr (by decide) (x_wi (by decide) (x_wi (by decide) x_wn))) x_wn (by decide) rfl ?_
        refine x_aload (np := 1) (x := 0) (by decide +kernel) rfl (x_nc_le (by decide)) ?_
        have q313 : h6 75 1 = 76 := by have z := jB (e := 1) 0 j7 rg_75_1_0_1 (by decide) (by decide); omega
        refine x_getR (np := 4) (x := 705) (f := 1) (q := 76) (by decide +kernel) (by decide) (by decide +kernel) q313 ?_
        refine x_const (np := 7) (x := 9223376986804585600) (a := 2147484800) (by decide +kernel) (by decide) (by decide) ?_
        refine x_const (np := 8) (x := 9223372047592194050) (a := 2147483650) (by decide +kernel) (by decide) (by decide) ?_
        refine x_aload (np := 9) (x := 0) (by decide +kernel) rfl (x_nc_le (by decide)) ?_
        have q314 : h6 75 13 = h 75 13 := jK 0 f8 rg_75_13_0_1 (by first | decide | omega) (by first | decide | omega) (by decide)
        refine x_getC (np := 12) (x := 717) (f := 13) (q := (h 75 13)) (by decide +kernel) (by decide) (by decide +kernel) q314 (fun l315 => ?_)
        obtain ⟨u316, q317⟩ : ∃ z, (h 75 13) = 2147483648 + z := ⟨(h 75 13) - 2147483648, by first | decide | omega⟩
        refine x_imul (np := 13) (x := 0) (i := 2) (j := u316) (v := (2147483648 + 2 * u316)) (by decide +kernel) (by first | decide | omega) (by first | decide | omega) (by first | decide | omega) (by first | decide | omega) (by decide) l315 ?_
        refine x_iadd (np := 14) (x := 0) (v := (2147484800 + 2 * u316)) (by decide +kernel) (by decide) (by first | decide | omega) (by first | decide | omega) (by first | decide | omega) ?_
        refine x_iload (np := 15) (x := 1) (by decide +kernel) rfl (by decide) ?_
        refine x_ast (np := 16) (x := 0) (kd := 1) (n := 1952) (i := (1152 + 2 * u316)) (by decide +kernel) (Or.inl rfl) (by decide +kernel) (by first | decide | omega) (by first | decide | omega) (by decide) (by decide) (fun z => absurd z (by decide)) ?_
        have j320 := jU (e := (1152 + 2 * u316)) (v := 2147483650) u316 j7 rg_76_1152_2_390 (by first | decide | omega) (by first | decide | omega) (by first | decide | omega)
        have f322 := jF (e := (1152 + 2 * u316)) (v := 2147483650) u316 f15 rg_76_1152_2_390 (by first | decide | omega) (by first | decide | omega) (by decide)
        generalize e321 : x_up h6 76 (1152 + 2 * u316) 2147483650 = h319 at j320 f322 ⊢
        refine x_aload (np := 17) (x := 0) (by decide +kernel) rfl (x_nc_le (by decide)) ?_
        have q323 : h319 75 1 = 76 := by have z := jB (e := 1) 0 j320 rg_75_1_0_1 (by decide) (by decide); omega
        refine x_getR (np := 20) (x := 705) (f := 1) (q := 76) (by decide +kernel) (by decide) (by decide +kernel) q323 ?_
        refine x_const (np := 23) (x := 9223376986804585600) (a := 2147484800) (by decide +kernel) (by decide) (by decide) ?_
        refine x_const (np := 24) (x := 9223372047592194050) (a := 2147483650) (by decide +kernel) (by decide) (by decide) ?_
        refine x_aload (np := 25) (x := 0) (by decide +kernel) rfl (x_nc_le (by decide)) ?_
        have q324 : h319 75 13 = h6 75 13 := by rw [← e321]; exact x_up_k (by decide)
        have q325 : h6 75 13 = h 75 13 := jK 0 f8 rg_75_13_0_1 (by first | decide | omega) (by first | decide | omega) (by decide)
        refine x_getC (np := 28) (x := 717) (f := 13) (q := (h 75 13)) (by decide +kernel) (by decide) (by decide +kernel) (q324.trans q325) (fun l326 => ?_)
        refine x_imul (np := 29) (x := 0) (i := 2) (j := u316) (v := (2147483648 + 2 * u316)) (by decide +kernel) (by first | decide | omega) (by first | decide | omega) (by first | decide | omega) (by first | decide | omega) (by decide) l315 ?_
        refine x_iadd (np := 30) (x := 0) (v := (2147484800 + 2 * u316)) (by decide +kernel) (by decide) (by first | decide | omega) (by first | decide | omega) (by first | decide | omega) ?_
        refine x_const (np := 31) (x := 9223372043297226753) (a := 2147483649) (by decide +kernel) (by decide) (by decide) ?_
        refine x_iadd (np := 32) (x := 0) (v := (2147484801 + 2 * u316)) (by decide +kernel) (by first | decide | omega) (by decide) (by first | decide | omega) (by first | decide | omega) ?_
        refine x_iload (np := 33) (x := 2) (by decide +kernel) rfl (by decide) ?_
        refine x_ast (np := 34) (x := 0) (kd := 1) (n := 1952) (i := (1153 + 2 * u316)) (by decide +kernel) (Or.inl rfl) (by decide +kernel) (by first | decide | omega) (by first | decide | omega) (by decide) (by decide) (fun z => absurd z (by decide)) ?_
        have j329 := jU (e := (1153 + 2 * u316)) (v := 2147483648) u316 j320 rg_76_1153_2_390 (by first | decide | omega) (by first | decide | omega) (by first | decide | omega)
        have f331 := jF (e := (1153 + 2 * u316)) (v := 2147483648) u316 f322 rg_76_1153_2_390 (by first | decide | omega) (by first | decide | omega) (by decide)
        generalize e330 : x_up h319 76 (1153 + 2 * u316) 2147483648 = h328 at j329 f331 ⊢
        refine x_aload (np := 35) (x := 0) (by decide +kernel) rfl (x_nc_le (by decide)) ?_
        refine x_dup (np := 36) (x := 0) (by decide +kernel) (by have z := x_nc_le (k := 75) (by decide); unfold x_r; omega) ?_
        have q332 : h328 75 13 = h319 75 13 := by rw [← e330]; exact x_up_k (by decide)
        have q333 : h319 75 13 = h6 75 13 := by rw [← e321]; exact x_up_k (by decide)
        have q334 : h6 75 13 = h 75 13 := jK 0 f8 rg_75_13_0_1 (by first | decide | omega) (by first | decide | omega) (by decide)
        refine x_getC (np := 39) (x := 717) (f := 13) (q := (h 75 13)) (by decide +kernel) (by decide) (by decide +kernel) ((q332.trans q333).trans q334) (fun l335 => ?_)
        refine x_const (np := 40) (x := 9223372043297226753) (a := 2147483649) (by decide +kernel) (by decide) (by decide) ?_
        refine x_iadd (np := 41) (x := 0) (v := (1 + (h 75 13))) (by decide +kernel) l315 (by decide) (by first | decide | omega) (by first | decide | omega) ?_
        refine x_putI (np := 44) (x := 717) (f := 13) (by decide +kernel) (by decide +kernel) (by first | decide | omega) (Or.inl (by decide)) ?_
        have j337 := jU (e := 13) (v := (1 + (h 75 13))) 0 j329 rg_75_13_0_1 (by first | decide | omega) (by first | decide | omega) (by first | decide | omega)
        have f339 := jF (e := 13) (v := (1 + (h 75 13))) 0 f331 rg_75_13_0_1 (by first | decide | omega) (by first | decide | omega) (by decide)
        generalize e338 : x_up h328 75 13 (1 + (h 75 13)) = h336 at j337 f339 ⊢
        refine x_retV (np := 45) (x := 0) (by decide +kernel) (by decide +kernel) ⟨rfl, ?_⟩
        have q340 : h336 75 13 = (1 + (h 75 13)) := by rw [← e338]; exact x_up_at
        refine x_iload (np := 121) (x := 1) (by decide +kernel) rfl (by decide) ?_
        refine x_ifz (k := 2) (tg := 128) (np := 124) (by decide +kernel) (by decide) (by decide) (fun q341 => ?_) (fun q342 => ?_)
        · have q341 : 2147483650 < 2147483648 := q341
          exfalso; omega
        have q342 : ¬ (2147483650 < 2147483648) := q342
        refine x_const (np := 125) (x := 9223372043297226753) (a := 2147483649) (by decide +kernel) (by decide) (by decide) ?_
        refine x_goto (np := 128) (x := 129) (by decide +kernel) ?_
        have q343 : h336 75 13 = (1 + (h 75 13)) := by rw [← e338]; exact x_up_at
        have q344 : h336 75 7 = h328 75 7 := by rw [← e338]; exact x_up_i (by first | decide | omega)
        have q345 : h328 75 7 = h319 75 7 := by rw [← e330]; exact x_up_k (by decide)
        have q346 : h319 75 7 = h6 75 7 := by rw [← e321]; exact x_up_k (by decide)
        have q347 : h336 75 7 = h328 75 7 := by rw [← e338]; exact x_up_i (by first | decide | omega)
        have q348 : h328 75 7 = h319 75 7 := by rw [← e330]; exact x_up_k (by decide)
        have q349 : h319 75 7 = h6 75 7 := by rw [← e321]; exact x_up_k (by decide)
        have q350 : h336 75 13 = (1 + (h 75 13)) := by rw [← e338]; exact x_up_at
        have k354 : Kp h h6 (h 75 13 - 2147483648) := Kp.fr Kp.refl f8 (by first | decide | omega) (by decide)
        have k353 : Kp h h319 (h 75 13 - 2147483648) := by rw [← e321]; exact Kp.up k354 (by first | decide | omega) (fun i hi => by first | decide | omega)
        have k352 : Kp h h328 (h 75 13 - 2147483648) := by rw [← e330]; exact Kp.up k353 (by first | decide | omega) (fun i hi => by first | decide | omega)
        have k351 : Kp h h336 (h 75 13 - 2147483648) := by rw [← e338]; exact Kp.oth k352 (by decide)
        have q355 : h336 75 13 = (1 + (h 75 13)) := by rw [← e338]; exact x_up_at
        have q357 : h336 76 (1152 + 2 * u316) = h328 76 (1152 + 2 * u316) := by rw [← e338]; exact x_up_k (by decide)
        have q358 : h328 76 (1152 + 2 * u316) = h319 76 (1152 + 2 * u316) := by rw [← e330]; exact x_up_i (by first | decide | omega)
        have q359 : h319 76 (1152 + 2 * u316) = 2147483650 := by rw [← e321]; exact x_up_at
        have s356 : Seg (sg h336) u316 (u316 + 1) := Seg.push (show 2147483648 ≤ h336 76 (1152 + 2 * u316) by first | decide | omega) (show h336 76 (1152 + 2 * u316) ≤ 2147483656 by first | decide | omega)
        have s360 : Seg (sg h336) (h 75 13 - 2147483648) (h336 75 13 - 2147483648) := Seg.cast (Seg.kp s356 Kp.refl) (by first | decide | omega) (by first | decide | omega)
        have w361 : ¬ Wd tB tN 2 (sk tB tN (h 75 7)) := by rw [← c13]; exact Wd.no (by decide) (Is.no c27 (by first | decide | omega)) c14
        have w362 : ¬ Wd tB tN 27 (sk tB tN (h 75 7)) := by rw [← c13]; exact Wd.no (by decide) (Is.no c36 (by first | decide | omega)) c14
        have y363 := Is.yes c45 (by first | decide | omega)
        have w364 : Wd tB tN 5 (sk tB tN (h 75 7)) := by rw [← c13]; exact Wd.of' (by decide) y363 c14
        have q366 : h336 75 7 = h328 75 7 := by rw [← e338]; exact x_up_i (by first | decide | omega)
        have q367 : h328 75 7 = h319 75 7 := by rw [← e330]; exact x_up_k (by decide)
        have q368 : h319 75 7 = h6 75 7 := by rw [← e321]; exact x_up_k (by decide)
        have e365 : sk tB tN (h6 75 7) = sk tB tN (sk tB tN (h 75 7) + iv_tl 5) := by rw [← c13, ← y363.1]
        have q369 : h336 75 7 = h328 75 7 := by rw [← e338]; exact x_up_i (by first | decide | omega)
        have q370 : h328 75 7 = h319 75 7 := by rw [← e330]; exact x_up_k (by decide)
        have q371 : h319 75 7 = h6 75 7 := by rw [← e321]; exact x_up_k (by decide)
        refine x_retI (np := 130) (x := 0) (by decide +kernel) (by decide) (Or.inr ⟨by decide +kernel, by first | decide | omega, by first | decide | omega⟩) ⟨_, rfl, (by decide), ?_⟩
        exact ⟨j337, f339, (by first | decide | omega), (fun z => by first | decide | omega), (fun z => by first | decide | omega), (fun z => by first | decide | omega), k351, (fun _ => s360), (fun l => gP_wd (i := 5) (by unfold six; decide) w364 rfl e365 (by first | decide | omega) (congrArg (sk tB tN) (show h6 75 7 = h336 75 7 by first | decide | omega)))⟩
      have q40 : ¬ (v32 = 2147483648) := q40
      have b372 := c35 (by first | decide | omega)
      refine x_const (np := 57) (x := 9223372043297226753) (a := 2147483649) (by decide +kernel) (by decide) (by decide) ?_
      refine x_goto (np := 60) (x := 113) (by decide +kernel) ?_
      refine x_istore (np := 114) (x := 1) (lo' := [x_r 75, iv_c 2147483649]) (by decide +kernel) (by decide) (Nat.le_of_ble_eq_true rfl) rfl ?_
      refine x_aload (np := 115) (x := 0) (by decide +kernel) rfl (x_nc_le (by decide)) ?_
      refine x_iload (np := 116) (x := 1) (by decide +kernel) rfl (by decide) ?_
      refine x_const (np := 117) (x := 9223372039002259456) (a := 2147483648) (by decide +kernel) (by decide) (by decide) ?_
      refine x_nV (t := 6) (mj := 187) (n := 3) (rc := 12) (ml := 3) (nr := 0) (np := 120) (as := [x_r 75, iv_c 2147483649, iv_c 2147483648]) (rest := []) (lo1 := [x_r 75, iv_c 2147483649, iv_c 2147483648]) (by decide +kernel) (by decide) (by decide +kernel) (x_rb_of (by decide +kernel)) rfl rfl (x_wr (by decide) (x_wi (by decide) (x_wi (by decide) x_wn))) x_wn (by decide) rfl ?_
      refine x_aload (np := 1) (x := 0) (by decide +kernel) rfl (x_nc_le (by decide)) ?_
      have q373 : h6 75 1 = 76 := by have z := jB (e := 1) 0 j7 rg_75_1_0_1 (by decide) (by decide); omega
      refine x_getR (np := 4) (x := 705) (f := 1) (q := 76) (by decide +kernel) (by decide) (by decide +kernel) q373 ?_
      refine x_const (np := 7) (x := 9223376986804585600) (a := 2147484800) (by decide +kernel) (by decide) (by decide) ?_
      refine x_const (np := 8) (x := 9223372047592194050) (a := 2147483650) (by decide +kernel) (by decide) (by decide) ?_
      refine x_aload (np := 9) (x := 0) (by decide +kernel) rfl (x_nc_le (by decide)) ?_
      have q374 : h6 75 13 = h 75 13 := jK 0 f8 rg_75_13_0_1 (by first | decide | omega) (by first | decide | omega) (by decide)
      refine x_getC (np := 12) (x := 717) (f := 13) (q := (h 75 13)) (by decide +kernel) (by decide) (by decide +kernel) q374 (fun l375 => ?_)
      obtain ⟨u376, q377⟩ : ∃ z, (h 75 13) = 2147483648 + z := ⟨(h 75 13) - 2147483648, by first | decide | omega⟩
      refine x_imul (np := 13) (x := 0) (i := 2) (j := u376) (v := (2147483648 + 2 * u376)) (by decide +kernel) (by first | decide | omega) (by first | decide | omega) (by first | decide | omega) (by first | decide | omega) (by decide) l375 ?_
      refine x_iadd (np := 14) (x := 0) (v := (2147484800 + 2 * u376)) (by decide +kernel) (by decide) (by first | decide | omega) (by first | decide | omega) (by first | decide | omega) ?_
      refine x_iload (np := 15) (x := 1) (by decide +kernel) rfl (by decide) ?_
      refine x_ast (np := 16) (x := 0) (kd := 1) (n := 1952) (i := (1152 + 2 * u376)) (by decide +kernel) (Or.inl rfl) (by decide +kernel) (by first | decide | omega) (by first | decide | omega) (by decide) (by decide) (fun z => absurd z (by decide)) ?_
      have j380 := jU (e := (1152 + 2 * u376)) (v := 2147483649) u376 j7 rg_76_1152_2_392 (by first | decide | omega) (by first | decide | omega) (by first | decide | omega)
      have f382 := jF (e := (1152 + 2 * u376)) (v := 2147483649) u376 f15 rg_76_1152_2_392 (by first | decide | omega) (by first | decide | omega) (by decide)
      generalize e381 : x_up h6 76 (1152 + 2 * u376) 2147483649 = h379 at j380 f382 ⊢
      refine x_aload (np := 17) (x := 0) (by decide +kernel) rfl (x_nc_le (by decide)) ?_
      have q383 : h379 75 1 = 76 := by have z := jB (e := 1) 0 j380 rg_75_1_0_1 (by decide) (by decide); omega
      refine x_getR (np := 20) (x := 705) (f := 1) (q := 76) (by decide +kernel) (by decide) (by decide +kernel) q383 ?_
      refine x_const (np := 23) (x := 9223376986804585600) (a := 2147484800) (by decide +kernel) (by decide) (by decide) ?_
      refine x_const (np := 24) (x := 9223372047592194050) (a := 2147483650) (by decide +kernel) (by decide) (by decide) ?_
      refine x_aload (np := 25) (x := 0) (by decide +kernel) rfl (x_nc_le (by decide)) ?_
      have q384 : h379 75 13 = h6 75 13 := by rw [← e381]; exact x_up_k (by decide)
      have q385 : h6 75 13 = h 75 13 := jK 0 f8 rg_75_13_0_1 (by first | decide | omega) (by first | decide | omega) (by decide)
      refine x_getC (np := 28) (x := 717) (f := 13) (q := (h 75 13)) (by decide +kernel) (by decide) (by decide +kernel) (q384.trans q385) (fun l386 => ?_)
      refine x_imul (np := 29) (x := 0) (i := 2) (j := u376) (v := (2147483648 + 2 * u376)) (by decide +kernel) (by first | decide | omega) (by first | decide | omega) (by first | decide | omega) (by first | decide | omega) (by decide) l375 ?_
      refine x_iadd (np := 30) (x := 0) (v := (2147484800 + 2 * u376)) (by decide +kernel) (by decide) (by first | decide | omega) (by first | decide | omega) (by first | decide | omega) ?_
      refine x_const (np := 31) (x := 9223372043297226753) (a := 2147483649) (by decide +kernel) (by decide) (by decide) ?_
      refine x_iadd (np := 32) (x := 0) (v := (2147484801 + 2 * u376)) (by decide +kernel) (by first | decide | omega) (by decide) (by first | decide | omega) (by first | decide | omega) ?_
      refine x_iload (np := 33) (x := 2) (by decide +kernel) rfl (by decide) ?_
      refine x_ast (np := 34) (x := 0) (kd := 1) (n := 1952) (i := (1153 + 2 * u376)) (by decide +kernel) (Or.inl rfl) (by decide +kernel) (by first | decide | omega) (by first | decide | omega) (by decide) (by decide) (fun z => absurd z (by decide)) ?_
      have j389 := jU (e := (1153 + 2 * u376)) (v := 2147483648) u376 j380 rg_76_1153_2_392 (by first | decide | omega) (by first | decide | omega) (by first | decide | omega)
      have f391 := jF (e := (1153 + 2 * u376)) (v := 2147483648) u376 f382 rg_76_1153_2_392 (by first | decide | omega) (by first | decide | omega) (by decide)
      generalize e390 : x_up h379 76 (1153 + 2 * u376) 2147483648 = h388 at j389 f391 ⊢
      refine x_aload (np := 35) (x := 0) (by decide +kernel) rfl (x_nc_le (by decide)) ?_
      refine x_dup (np := 36) (x := 0) (by decide +kernel) (by have z := x_nc_le (k := 75) (by decide); unfold x_r; omega) ?_
      have q392 : h388 75 13 = h379 75 13 := by rw [← e390]; exact x_up_k (by decide)
      have q393 : h379 75 13 = h6 75 13 := by rw [← e381]; exact x_up_k (by decide)
      have q394 : h6 75 13 = h 75 13 := jK 0 f8 rg_75_13_0_1 (by first | decide | omega) (by first | decide | omega) (by decide)
      refine x_getC (np := 39) (x := 717) (f := 13) (q := (h 75 13)) (by decide +kernel) (by decide) (by decide +kernel) ((q392.trans q393).trans q394) (fun l395 => ?_)
      refine x_const (np := 40) (x := 9223372043297226753) (a := 2147483649) (by decide +kernel) (by decide) (by decide) ?_
      refine x_iadd (np := 41) (x := 0) (v := (1 + (h 75 13))) (by decide +kernel) l375 (by decide) (by first | decide | omega) (by first | decide | omega) ?_
      refine x_putI (np := 44) (x := 717) (f := 13) (by decide +kernel) (by decide +kernel) (by first | decide | omega) (Or.inl (by decide)) ?_
      have j397 := jU (e := 13) (v := (1 + (h 75 13))) 0 j389 rg_75_13_0_1 (by first | decide | omega) (by first | decide | omega) (by first | decide | omega)
      have f399 := jF (e := 13) (v := (1 + (h 75 13))) 0 f391 rg_75_13_0_1 (by first | decide | omega) (by first | decide | omega) (by decide)
      generalize e398 : x_up h388 75 13 (1 + (h 75 13)) = h396 at j397 f399 ⊢
      refine x_retV (np := 45) (x := 0) (by decide +kernel) (by decide +kernel) ⟨rfl, ?_⟩
      have q400 : h396 75 13 = (1 + (h 75 13)) := by rw [← e398]; exact x_up_at
      refine x_iload (np := 121) (x := 1) (by decide +kernel) rfl (by decide) ?_
      refine x_ifz (k := 2) (tg := 128) (np := 124) (by decide +kernel) (by decide) (by decide) (fun q401 => ?_) (fun q402 => ?_)
      · have q401 : 2147483649 < 2147483648 := q401
        exfalso; omega
      have q402 : ¬ (2147483649 < 2147483648) := q402
      refine x_const (np := 125) (x := 9223372043297226753) (a := 2147483649) (by decide +kernel) (by decide) (by decide) ?_
      refine x_goto (np := 128) (x := 129) (by decide +kernel) ?_
      have q403 : h396 75 13 = (1 + (h 75 13)) := by rw [← e398]; exact x_up_at
      have q404 : h396 75 7 = h388 75 7 := by rw [← e398]; exact x_up_i (by first | decide | omega)
      have q405 : h388 75 7 = h379 75 7 := by rw [← e390]; exact x_up_k (by decide)
      have q406 : h379 75 7 = h6 75 7 := by rw [← e381]; exact x_up_k (by decide)
      have q407 : h396 75 7 = h388 75 7 := by rw [← e398]; exact x_up_i (by first | decide | omega)
      have q408 : h388 75 7 = h379 75 7 := by rw [← e390]; exact x_up_k (by decide)
      have q409 : h379 75 7 = h6 75 7 := by rw [← e381]; exact x_up_k (by decide)
      have q410 : h396 75 13 = (1 + (h 75 13)) := by rw [← e398]; exact x_up_at
      have k414 : Kp h h6 (h 75 13 - 2147483648) := Kp.fr Kp.refl f8 (by first | decide | omega) (by decide)
      have k413 : Kp h h379 (h 75 13 - 2147483648) := by rw [← e381]; exact Kp.up k414 (by first | decide | omega) (fun i hi => by first | decide | omega)
      have k412 : Kp h h388 (h 75 13 - 2147483648) := by rw [← e390]; exact Kp.up k413 (by first | decide | omega) (fun i hi => by first | decide | omega)
      have k411 : Kp h h396 (h 75 13 - 2147483648) := by rw [← e398]; exact Kp.oth k412 (by decide)
      have q415 : h396 75 13 = (1 + (h 75 13)) := by rw [← e398]; exact x_up_at
      have q417 : h396 76 (1152 + 2 * u376) = h388 76 (1152 + 2 * u376) := by rw [← e398]; exact x_up_k (by decide)
      have q418 : h388 76 (1152 + 2 * u376) = h379 76 (1152 + 2 * u376) := by rw [← e390]; exact x_up_i (by first | decide | omega)
      have q419 : h379 76 (1152 + 2 * u376) = 2147483649 := by rw [← e381]; exact x_up_at
      have s416 : Seg (sg h396) u376 (u376 + 1) := Seg.push (show 2147483648 ≤ h396 76 (1152 + 2 * u376) by first | decide | omega) (show h396 76 (1152 + 2 * u376) ≤ 2147483656 by first | decide | omega)
      have s420 : Seg (sg h396) (h 75 13 - 2147483648) (h396 75 13 - 2147483648) := Seg.cast (Seg.kp s416 Kp.refl) (by first | decide | omega) (by first | decide | omega)
      have w421 : ¬ Wd tB tN 2 (sk tB tN (h 75 7)) := by rw [← c13]; exact Wd.no (by decide) (Is.no c27 (by first | decide | omega)) c14
      have y422 := Is.yes c36 (by first | decide | omega)
      have w423 : Wd tB tN 27 (sk tB tN (h 75 7)) := by rw [← c13]; exact Wd.of' (by decide) y422 c14
      have q425 : h396 75 7 = h388 75 7 := by rw [← e398]; exact x_up_i (by first | decide | omega)
      have q426 : h388 75 7 = h379 75 7 := by rw [← e390]; exact x_up_k (by decide)
      have q427 : h379 75 7 = h6 75 7 := by rw [← e381]; exact x_up_k (by decide)
      have e424 : sk tB tN (h6 75 7) = sk tB tN (sk tB tN (h 75 7) + iv_tl 27) := by rw [← c13, ← y422.1]
      have q428 : h396 75 7 = h388 75 7 := by rw [← e398]; exact x_up_i (by first | decide | omega)
      have q429 : h388 75 7 = h379 75 7 := by rw [← e390]; exact x_up_k (by decide)
      have q430 : h379 75 7 = h6 75 7 := by rw [← e381]; exact x_up_k (by decide)
      refine x_retI (np := 130) (x := 0) (by decide +kernel) (by decide) (Or.inr ⟨by decide +kernel, by first | decide | omega, by first | decide | omega⟩) ⟨_, rfl, (by decide), ?_⟩
      exact ⟨j397, f399, (by first | decide | omega), (fun z => by first | decide | omega), (fun z => by first | decide | omega), (fun z => by first | decide | omega), k411, (fun _ => s420), (fun l => gP_wd (i := 27) (by unfold six; decide) w423 rfl e424 (by first | decide | omega) (congrArg (sk tB tN) (show h6 75 7 = h396 75 7 by first | decide | omega)))⟩
    have q31 : ¬ (v22 = 2147483648) := q31
    have b431 := c26 (by first | decide | omega)
    refine x_const (np := 44) (x := 9223372039002259456) (a := 2147483648) (by decide +kernel) (by decide) (by decide) ?_
    refine x_goto (np := 47) (x := 113) (by decide +kernel) ?_
    refine x_istore (np := 114) (x := 1) (lo' := [x_r 75, iv_c 2147483648]) (by decide +kernel) (by decide) (Nat.le_of_ble_eq_true rfl) rfl ?_
    refine x_aload (np := 115) (x := 0) (by decide +kernel) rfl (x_nc_le (by decide)) ?_
    refine x_iload (np := 116) (x := 1) (by decide +kernel) rfl (by decide) ?_
    refine x_const (np := 117) (x := 9223372039002259456) (a := 2147483648) (by decide +kernel) (by decide) (by decide) ?_
    refine x_nV (t := 6) (mj := 187) (n := 3) (rc := 12) (ml := 3) (nr := 0) (np := 120) (as := [x_r 75, iv_c 2147483648, iv_c 2147483648]) (rest := []) (lo1 := [x_r 75, iv_c 2147483648, iv_c 2147483648]) (by decide +kernel) (by decide) (by decide +kernel) (x_rb_of (by decide +kernel)) rfl rfl (x_wr (by decide) (x_wi (by decide) (x_wi (by decide) x_wn))) x_wn (by decide) rfl ?_
    refine x_aload (np := 1) (x := 0) (by decide +kernel) rfl (x_nc_le (by decide)) ?_
    have q432 : h6 75 1 = 76 := by have z := jB (e := 1) 0 j7 rg_75_1_0_1 (by decide) (by decide); omega
    refine x_getR (np := 4) (x := 705) (f := 1) (q := 76) (by decide +kernel) (by decide) (by decide +kernel) q432 ?_
    refine x_const (np := 7) (x := 9223376986804585600) (a := 2147484800) (by decide +kernel) (by decide) (by decide) ?_
    refine x_const (np := 8) (x := 9223372047592194050) (a := 2147483650) (by decide +kernel) (by decide) (by decide) ?_
    refine x_aload (np := 9) (x := 0) (by decide +kernel) rfl (x_nc_le (by decide)) ?_
    have q433 : h6 75 13 = h 75 13 := jK 0 f8 rg_75_13_0_1 (by first | decide | omega) (by first | decide | omega) (by decide)
    refine x_getC (np := 12) (x := 717) (f := 13) (q := (h 75 13)) (by decide +kernel) (by decide) (by decide +kernel) q433 (fun l434 => ?_)
    obtain ⟨u435, q436⟩ : ∃ z, (h 75 13) = 2147483648 + z := ⟨(h 75 13) - 2147483648, by first | decide | omega⟩
    refine x_imul (np := 13) (x := 0) (i := 2) (j := u435) (v := (2147483648 + 2 * u435)) (by decide +kernel) (by first | decide | omega) (by first | decide | omega) (by first | decide | omega) (by first | decide | omega) (by decide) l434 ?_
    refine x_iadd (np := 14) (x := 0) (v := (2147484800 + 2 * u435)) (by decide +kernel) (by decide) (by first | decide | omega) (by first | decide | omega) (by first | decide | omega) ?_
    refine x_iload (np := 15) (x := 1) (by decide +kernel) rfl (by decide) ?_
    refine x_ast (np := 16) (x := 0) (kd := 1) (n := 1952) (i := (1152 + 2 * u435)) (by decide +kernel) (Or.inl rfl) (by decide +kernel) (by first | decide | omega) (by first | decide | omega) (by decide) (by decide) (fun z => absurd z (by decide)) ?_
    have j439 := jU (e := (1152 + 2 * u435)) (v := 2147483648) u435 j7 rg_76_1152_2_393 (by first | decide | omega) (by first | decide | omega) (by first | decide | omega)
    have f441 := jF (e := (1152 + 2 * u435)) (v := 2147483648) u435 f15 rg_76_1152_2_393 (by first | decide | omega) (by first | decide | omega) (by decide)
    generalize e440 : x_up h6 76 (1152 + 2 * u435) 2147483648 = h438 at j439 f441 ⊢
    refine x_aload (np := 17) (x := 0) (by decide +kernel) rfl (x_nc_le (by decide)) ?_
    have q442 : h438 75 1 = 76 := by have z := jB (e := 1) 0 j439 rg_75_1_0_1 (by decide) (by decide); omega
    refine x_getR (np := 20) (x := 705) (f := 1) (q := 76) (by decide +kernel) (by decide) (by decide +kernel) q442 ?_
    refine x_const (np := 23) (x := 9223376986804585600) (a := 2147484800) (by decide +kernel) (by decide) (by decide) ?_
    refine x_const (np := 24) (x := 9223372047592194050) (a := 2147483650) (by decide +kernel) (by decide) (by decide) ?_
    refine x_aload (np := 25) (x := 0) (by decide +kernel) rfl (x_nc_le (by decide)) ?_
    have q443 : h438 75 13 = h6 75 13 := by rw [← e440]; exact x_up_k (by decide)
    have q444 : h6 75 13 = h 75 13 := jK 0 f8 rg_75_13_0_1 (by first | decide | omega) (by first | decide | omega) (by decide)
    refine x_getC (np := 28) (x := 717) (f := 13) (q := (h 75 13)) (by decide +kernel) (by decide) (by decide +kernel) (q443.trans q444) (fun l445 => ?_)
    refine x_imul (np := 29) (x := 0) (i := 2) (j := u435) (v := (2147483648 + 2 * u435)) (by decide +kernel) (by first | decide | omega) (by first | decide | omega) (by first | decide | omega) (by first | decide | omega) (by decide) l434 ?_
    refine x_iadd (np := 30) (x := 0) (v := (2147484800 + 2 * u435)) (by decide +kernel) (by decide) (by first | decide | omega) (by first | decide | omega) (by first | decide | omega) ?_
    refine x_const (np := 31) (x := 9223372043297226753) (a := 2147483649) (by decide +kernel) (by decide) (by decide) ?_
    refine x_iadd (np := 32) (x := 0) (v := (2147484801 + 2 * u435)) (by decide +kernel) (by first | decide | omega) (by decide) (by first | decide | omega) (by first | decide | omega) ?_
    refine x_iload (np := 33) (x := 2) (by decide +kernel) rfl (by decide) ?_
    refine x_ast (np := 34) (x := 0) (kd := 1) (n := 1952) (i := (1153 + 2 * u435)) (by decide +kernel) (Or.inl rfl) (by decide +kernel) (by first | decide | omega) (by first | decide | omega) (by decide) (by decide) (fun z => absurd z (by decide)) ?_
    have j448 := jU (e := (1153 + 2 * u435)) (v := 2147483648) u435 j439 rg_76_1153_2_393 (by first | decide | omega) (by first | decide | omega) (by first | decide | omega)
    have f450 := jF (e := (1153 + 2 * u435)) (v := 2147483648) u435 f441 rg_76_1153_2_393 (by first | decide | omega) (by first | decide | omega) (by decide)
    generalize e449 : x_up h438 76 (1153 + 2 * u435) 2147483648 = h447 at j448 f450 ⊢
    refine x_aload (np := 35) (x := 0) (by decide +kernel) rfl (x_nc_le (by decide)) ?_
    refine x_dup (np := 36) (x := 0) (by decide +kernel) (by have z := x_nc_le (k := 75) (by decide); unfold x_r; omega) ?_
    have q451 : h447 75 13 = h438 75 13 := by rw [← e449]; exact x_up_k (by decide)
    have q452 : h438 75 13 = h6 75 13 := by rw [← e440]; exact x_up_k (by decide)
    have q453 : h6 75 13 = h 75 13 := jK 0 f8 rg_75_13_0_1 (by first | decide | omega) (by first | decide | omega) (by decide)
    refine x_getC (np := 39) (x := 717) (f := 13) (q := (h 75 13)) (by decide +kernel) (by decide) (by decide +kernel) ((q451.trans q452).trans q453) (fun l454 => ?_)
    refine x_const (np := 40) (x := 9223372043297226753) (a := 2147483649) (by decide +kernel) (by decide) (by decide) ?_
    refine x_iadd (np := 41) (x := 0) (v := (1 + (h 75 13))) (by decide +kernel) l434 (by decide) (by first | decide | omega) (by first | decide | omega) ?_
    refine x_putI (np := 44) (x := 717) (f := 13) (by decide +kernel) (by decide +kernel) (by first | decide | omega) (Or.inl (by decide)) ?_
    have j456 := jU (e := 13) (v := (1 + (h 75 13))) 0 j448 rg_75_13_0_1 (by first | decide | omega) (by first | decide | omega) (by first | decide | omega)
    have f458 := jF (e := 13) (v := (1 + (h 75 13))) 0 f450 rg_75_13_0_1 (by first | decide | omega) (by first | decide | omega) (by decide)
    generalize e457 : x_up h447 75 13 (1 + (h 75 13)) = h455 at j456 f458 ⊢
    refine x_retV (np := 45) (x := 0) (by decide +kernel) (by decide +kernel) ⟨rfl, ?_⟩
    have q459 : h455 75 13 = (1 + (h 75 13)) := by rw [← e457]; exact x_up_at
    refine x_iload (np := 121) (x := 1) (by decide +kernel) rfl (by decide) ?_
    refine x_ifz (k := 2) (tg := 128) (np := 124) (by decide +kernel) (by decide) (by decide) (fun q460 => ?_) (fun q461 => ?_)
    · have q460 : 2147483648 < 2147483648 := q460
      exfalso; omega
    have q461 : ¬ (2147483648 < 2147483648) := q461
    refine x_const (np := 125) (x := 9223372043297226753) (a := 2147483649) (by decide +kernel) (by decide) (by decide) ?_
    refine x_goto (np := 128) (x := 129) (by decide +kernel) ?_
    have q462 : h455 75 13 = (1 + (h 75 13)) := by rw [← e457]; exact x_up_at
    have q463 : h455 75 7 = h447 75 7 := by rw [← e457]; exact x_up_i (by first | decide | omega)
    have q464 : h447 75 7 = h438 75 7 := by rw [← e449]; exact x_up_k (by decide)
    have q465 : h438 75 7 = h6 75 7 := by rw [← e440]; exact x_up_k (by decide)
    have q466 : h455 75 7 = h447 75 7 := by rw [← e457]; exact x_up_i (by first | decide | omega)
    have q467 : h447 75 7 = h438 75 7 := by rw [← e449]; exact x_up_k (by decide)
    have q468 : h438 75 7 = h6 75 7 := by rw [← e440]; exact x_up_k (by decide)
    have q469 : h455 75 13 = (1 + (h 75 13)) := by rw [← e457]; exact x_up_at
    have k473 : Kp h h6 (h 75 13 - 2147483648) := Kp.fr Kp.refl f8 (by first | decide | omega) (by decide)
    have k472 : Kp h h438 (h 75 13 - 2147483648) := by rw [← e440]; exact Kp.up k473 (by first | decide | omega) (fun i hi => by first | decide | omega)
    have k471 : Kp h h447 (h 75 13 - 2147483648) := by rw [← e449]; exact Kp.up k472 (by first | decide | omega) (fun i hi => by first | decide | omega)
    have k470 : Kp h h455 (h 75 13 - 2147483648) := by rw [← e457]; exact Kp.oth k471 (by decide)
    have q474 : h455 75 13 = (1 + (h 75 13)) := by rw [← e457]; exact x_up_at
    have q476 : h455 76 (1152 + 2 * u435) = h447 76 (1152 + 2 * u435) := by rw [← e457]; exact x_up_k (by decide)
    have q477 : h447 76 (1152 + 2 * u435) = h438 76 (1152 + 2 * u435) := by rw [← e449]; exact x_up_i (by first | decide | omega)
    have q478 : h438 76 (1152 + 2 * u435) = 2147483648 := by rw [← e440]; exact x_up_at
    have s475 : Seg (sg h455) u435 (u435 + 1) := Seg.push (show 2147483648 ≤ h455 76 (1152 + 2 * u435) by first | decide | omega) (show h455 76 (1152 + 2 * u435) ≤ 2147483656 by first | decide | omega)
    have s479 : Seg (sg h455) (h 75 13 - 2147483648) (h455 75 13 - 2147483648) := Seg.cast (Seg.kp s475 Kp.refl) (by first | decide | omega) (by first | decide | omega)
    have y480 := Is.yes c27 (by first | decide | omega)
    have w481 : Wd tB tN 2 (sk tB tN (h 75 7)) := by rw [← c13]; exact Wd.of' (by decide) y480 c14
    have q483 : h455 75 7 = h447 75 7 := by rw [← e457]; exact x_up_i (by first | decide | omega)
    have q484 : h447 75 7 = h438 75 7 := by rw [← e449]; exact x_up_k (by decide)
    have q485 : h438 75 7 = h6 75 7 := by rw [← e440]; exact x_up_k (by decide)
    have e482 : sk tB tN (h6 75 7) = sk tB tN (sk tB tN (h 75 7) + iv_tl 2) := by rw [← c13, ← y480.1]
    have q486 : h455 75 7 = h447 75 7 := by rw [← e457]; exact x_up_i (by first | decide | omega)
    have q487 : h447 75 7 = h438 75 7 := by rw [← e449]; exact x_up_k (by decide)
    have q488 : h438 75 7 = h6 75 7 := by rw [← e440]; exact x_up_k (by decide)
    refine x_retI (np := 130) (x := 0) (by decide +kernel) (by decide) (Or.inr ⟨by decide +kernel, by first | decide | omega, by first | decide | omega⟩) ⟨_, rfl, (by decide), ?_⟩
    exact ⟨j456, f458, (by first | decide | omega), (fun z => by first | decide | omega), (fun z => by first | decide | omega), (fun z => by first | decide | omega), k470, (fun _ => s479), (fun l => gP_wd (i := 2) (by unfold six; decide) w481 rfl e482 (by first | decide | omega) (congrArg (sk tB tN) (show h6 75 7 = h455 75 7 by first | decide | omega)))⟩
  have q21 : ¬ ((h6 75 7) ≠ (h6 75 9)) := q21
  refine x_aload (np := 16) (x := 0) (by decide +kernel) rfl (x_nc_le (by decide)) ?_
  refine x_const (np := 17) (x := 9223372039002259456) (a := 2147483648) (by decide +kernel) (by decide) (by decide) ?_
  refine x_const (np := 20) (x := 9223376329674589159) (a := 2147484647) (by decide +kernel) (by decide) (by decide) ?_
  have m492 := Tq.fr hT f8 (by decide) (by decide)
  refine x_cI (t := 6) (mj := 174) (n := 3) (rc := 12) (ml := 4) (nr := 0) (np := 23) (as := [x_r 75, iv_c 2147483648, iv_c 2147484647]) (rest := []) (lo1 := [x_r 75, iv_c 2147483648, iv_c 2147484647, 147573952589676412928]) (by decide +kernel) (by decide) (by decide +kernel) (x_rb_of (by decide +kernel)) rfl rfl (x_wr (by decide) (x_wi (by decide) (x_wi (by decide) x_wn))) x_wn (by decide) rfl (c174_75 j7  (by first | decide | omega) (by first | decide | omega) m492) (fun v489 h493 l490 q491 => ?_)
  obtain ⟨j494, f495, b496, c497, c498, c499, c500, c501, c502⟩ := q491
  have f503 := Fr.trans f15 f495 (by decide)
  have b504 := jB (e := 7) 0 j494 rg_75_7_0_1 (by first | decide | omega) (by first | decide | omega)
  have b505 := c501 (by first | decide | omega)
  refine x_istore (np := 24) (x := 1) (lo' := [x_r 75, iv_c v489]) (by decide +kernel) l490 (Nat.le_of_ble_eq_true rfl) rfl ?_
  refine x_aload (np := 25) (x := 0) (by decide +kernel) rfl (x_nc_le (by decide)) ?_
  refine x_const (np := 27) (x := 9223372073361997832) (a := 2147483656) (by decide +kernel) (by decide) (by decide) ?_
  refine x_iload (np := 28) (x := 1) (by decide +kernel) rfl l490 ?_
  refine x_nV (t := 6) (mj := 187) (n := 3) (rc := 12) (ml := 3) (nr := 0) (np := 31) (as := [x_r 75, iv_c 2147483656, iv_c v489]) (rest := []) (lo1 := [x_r 75, iv_c 2147483656, iv_c v489]) (by decide +kernel) (by decide) (by decide +kernel) (x_rb_of (by decide +kernel)) rfl rfl (x_wr (by decide) (x_wi (by decide) (x_wi l490 x_wn))) x_wn (by decide) rfl ?_
  refine x_aload (np := 1) (x := 0) (by decide +kernel) rfl (x_nc_le (by decide)) ?_
  have q506 : h493 75 1 = 76 := by have z := jB (e := 1) 0 j494 rg_75_1_0_1 (by decide) (by decide); omega
  refine x_getR (np := 4) (x := 705) (f := 1) (q := 76) (by decide +kernel) (by decide) (by decide +kernel) q506 ?_
  refine x_const (np := 7) (x := 9223376986804585600) (a := 2147484800) (by decide +kernel) (by decide) (by decide) ?_
  refine x_const (np := 8) (x := 9223372047592194050) (a := 2147483650) (by decide +kernel) (by decide) (by decide) ?_
  refine x_aload (np := 9) (x := 0) (by decide +kernel) rfl (x_nc_le (by decide)) ?_
  have q507 : h493 75 13 = h6 75 13 := jK 0 f495 rg_75_13_0_1 (by first | decide | omega) (by first | decide | omega) (by decide)
  have q508 : h6 75 13 = h 75 13 := jK 0 f8 rg_75_13_0_1 (by first | decide | omega) (by first | decide | omega) (by decide)
  refine x_getC (np := 12) (x := 717) (f := 13) (q := (h 75 13)) (by decide +kernel) (by decide) (by decide +kernel) (q507.trans q508) (fun l509 => ?_)
  obtain ⟨u510, q511⟩ : ∃ z, (h 75 13) = 2147483648 + z := ⟨(h 75 13) - 2147483648, by first | decide | omega⟩
  refine x_imul (np := 13) (x := 0) (i := 2) (j := u510) (v := (2147483648 + 2 * u510)) (by decide +kernel) (by first | decide | omega) (by first | decide | omega) (by first | decide | omega) (by first | decide | omega) (by decide) l509 ?_
  refine x_iadd (np := 14) (x := 0) (v := (2147484800 + 2 * u510)) (by decide +kernel) (by decide) (by first | decide | omega) (by first | decide | omega) (by first | decide | omega) ?_
  refine x_iload (np := 15) (x := 1) (by decide +kernel) rfl (by decide) ?_
  refine x_ast (np := 16) (x := 0) (kd := 1) (n := 1952) (i := (1152 + 2 * u510)) (by decide +kernel) (Or.inl rfl) (by decide +kernel) (by first | decide | omega) (by first | decide | omega) (by decide) (by decide) (fun z => absurd z (by decide)) ?_
  have j514 := jU (e := (1152 + 2 * u510)) (v := 2147483656) u510 j494 rg_76_1152_2_396 (by first | decide | omega) (by first | decide | omega) (by first | decide | omega)
  have f516 := jF (e := (1152 + 2 * u510)) (v := 2147483656) u510 f503 rg_76_1152_2_396 (by first | decide | omega) (by first | decide | omega) (by decide)
  generalize e515 : x_up h493 76 (1152 + 2 * u510) 2147483656 = h513 at j514 f516 ⊢
  refine x_aload (np := 17) (x := 0) (by decide +kernel) rfl (x_nc_le (by decide)) ?_
  have q517 : h513 75 1 = 76 := by have z := jB (e := 1) 0 j514 rg_75_1_0_1 (by decide) (by decide); omega
  refine x_getR (np := 20) (x := 705) (f := 1) (q := 76) (by decide +kernel) (by decide) (by decide +kernel) q517 ?_
  refine x_const (np := 23) (x := 9223376986804585600) (a := 2147484800) (by decide +kernel) (by decide) (by decide) ?_
  refine x_const (np := 24) (x := 9223372047592194050) (a := 2147483650) (by decide +kernel) (by decide) (by decide) ?_
  refine x_aload (np := 25) (x := 0) (by decide +kernel) rfl (x_nc_le (by decide)) ?_
  have q518 : h513 75 13 = h493 75 13 := by rw [← e515]; exact x_up_k (by decide)
  have q519 : h493 75 13 = h6 75 13 := jK 0 f495 rg_75_13_0_1 (by first | decide | omega) (by first | decide | omega) (by decide)
  have q520 : h6 75 13 = h 75 13 := jK 0 f8 rg_75_13_0_1 (by first | decide | omega) (by first | decide | omega) (by decide)
  refine x_getC (np := 28) (x := 717) (f := 13) (q := (h 75 13)) (by decide +kernel) (by decide) (by decide +kernel) ((q518.trans q519).trans q520) (fun l521 => ?_)
  refine x_imul (np := 29) (x := 0) (i := 2) (j := u510) (v := (2147483648 + 2 * u510)) (by decide +kernel) (by first | decide | omega) (by first | decide | omega) (by first | decide | omega) (by first | decide | omega) (by decide) l509 ?_
  refine x_iadd (np := 30) (x := 0) (v := (2147484800 + 2 * u510)) (by decide +kernel) (by decide) (by first | decide | omega) (by first | decide | omega) (by first | decide | omega) ?_
  refine x_const (np := 31) (x := 9223372043297226753) (a := 2147483649) (by decide +kernel) (by decide) (by decide) ?_
  refine x_iadd (np := 32) (x := 0) (v := (2147484801 + 2 * u510)) (by decide +kernel) (by first | decide | omega) (by decide) (by first | decide | omega) (by first | decide | omega) ?_
  refine x_iload (np := 33) (x := 2) (by decide +kernel) rfl l490 ?_
  refine x_ast (np := 34) (x := 0) (kd := 1) (n := 1952) (i := (1153 + 2 * u510)) (by decide +kernel) (Or.inl rfl) (by decide +kernel) (by first | decide | omega) (by first | decide | omega) (by decide) l490 (fun z => absurd z (by decide)) ?_
  have j524 := jU (e := (1153 + 2 * u510)) (v := v489) u510 j514 rg_76_1153_2_396 (by first | decide | omega) (by first | decide | omega) (by first | decide | omega)
  have f526 := jF (e := (1153 + 2 * u510)) (v := v489) u510 f516 rg_76_1153_2_396 (by first | decide | omega) (by first | decide | omega) (by decide)
  generalize e525 : x_up h513 76 (1153 + 2 * u510) v489 = h523 at j524 f526 ⊢
  refine x_aload (np := 35) (x := 0) (by decide +kernel) rfl (x_nc_le (by decide)) ?_
  refine x_dup (np := 36) (x := 0) (by decide +kernel) (by have z := x_nc_le (k := 75) (by decide); unfold x_r; omega) ?_
  have q527 : h523 75 13 = h513 75 13 := by rw [← e525]; exact x_up_k (by decide)
  have q528 : h513 75 13 = h493 75 13 := by rw [← e515]; exact x_up_k (by decide)
  have q529 : h493 75 13 = h6 75 13 := jK 0 f495 rg_75_13_0_1 (by first | decide | omega) (by first | decide | omega) (by decide)
  have q530 : h6 75 13 = h 75 13 := jK 0 f8 rg_75_13_0_1 (by first | decide | omega) (by first | decide | omega) (by decide)
  refine x_getC (np := 39) (x := 717) (f := 13) (q := (h 75 13)) (by decide +kernel) (by decide) (by decide +kernel) (((q527.trans q528).trans q529).trans q530) (fun l531 => ?_)
  refine x_const (np := 40) (x := 9223372043297226753) (a := 2147483649) (by decide +kernel) (by decide) (by decide) ?_
  refine x_iadd (np := 41) (x := 0) (v := (1 + (h 75 13))) (by decide +kernel) l509 (by decide) (by first | decide | omega) (by first | decide | omega) ?_
  refine x_putI (np := 44) (x := 717) (f := 13) (by decide +kernel) (by decide +kernel) (by first | decide | omega) (Or.inl (by decide)) ?_
  have j533 := jU (e := 13) (v := (1 + (h 75 13))) 0 j524 rg_75_13_0_1 (by first | decide | omega) (by first | decide | omega) (by first | decide | omega)
  have f535 := jF (e := 13) (v := (1 + (h 75 13))) 0 f526 rg_75_13_0_1 (by first | decide | omega) (by first | decide | omega) (by decide)
  generalize e534 : x_up h523 75 13 (1 + (h 75 13)) = h532 at j533 f535 ⊢
  refine x_retV (np := 45) (x := 0) (by decide +kernel) (by decide +kernel) ⟨rfl, ?_⟩
  have q536 : h532 75 13 = (1 + (h 75 13)) := by rw [← e534]; exact x_up_at
  refine x_goto (np := 34) (x := 120) (by decide +kernel) ?_
  refine x_iload (np := 121) (x := 1) (by decide +kernel) rfl l490 ?_
  refine x_ifz (k := 2) (tg := 128) (np := 124) (by decide +kernel) (by decide) l490 (fun q537 => ?_) (fun q538 => ?_)
  · have q537 : v489 < 2147483648 := q537
    refine x_const (np := 129) (x := 9223372039002259456) (a := 2147483648) (by decide +kernel) (by decide) (by decide) ?_
    have q539 : h532 75 13 = (1 + (h 75 13)) := by rw [← e534]; exact x_up_at
    have q540 : h532 75 7 = h523 75 7 := by rw [← e534]; exact x_up_i (by first | decide | omega)
    have q541 : h523 75 7 = h513 75 7 := by rw [← e525]; exact x_up_k (by decide)
    have q542 : h513 75 7 = h493 75 7 := by rw [← e515]; exact x_up_k (by decide)
    have q543 : h532 75 7 = h523 75 7 := by rw [← e534]; exact x_up_i (by first | decide | omega)
    have q544 : h523 75 7 = h513 75 7 := by rw [← e525]; exact x_up_k (by decide)
    have q545 : h513 75 7 = h493 75 7 := by rw [← e515]; exact x_up_k (by decide)
    have q546 : h532 75 13 = (1 + (h 75 13)) := by rw [← e534]; exact x_up_at
    have k551 : Kp h h6 (h 75 13 - 2147483648) := Kp.fr Kp.refl f8 (by first | decide | omega) (by decide)
    have k550 : Kp h h493 (h 75 13 - 2147483648) := Kp.fr k551 f495 (by first | decide | omega) (by decide)
    have k549 : Kp h h513 (h 75 13 - 2147483648) := by rw [← e515]; exact Kp.up k550 (by first | decide | omega) (fun i hi => by first | decide | omega)
    have k548 : Kp h h523 (h 75 13 - 2147483648) := by rw [← e525]; exact Kp.up k549 (by first | decide | omega) (fun i hi => by first | decide | omega)
    have k547 : Kp h h532 (h 75 13 - 2147483648) := by rw [← e534]; exact Kp.oth k548 (by decide)
    have e552 : sk tB tN (h6 75 7) = sk tB tN (h 75 7) := (congrArg (sk tB tN) ((show h6 75 7 = h6 75 9 by first | decide | omega).trans c13)).trans sk_idem
    have n553 : ¬ Ltr tB tN (sk tB tN (h 75 7)) := by rw [← c13, show h6 75 9 = h6 75 7 by first | decide | omega, c14]; exact le9_end
    refine x_retI (np := 130) (x := 0) (by decide +kernel) (by decide) (Or.inr ⟨by decide +kernel, by first | decide | omega, by first | decide | omega⟩) ⟨_, rfl, (by decide), ?_⟩
    exact ⟨j533, f535, (by first | decide | omega), (fun z => by first | decide | omega), (fun z => by first | decide | omega), (fun z => by first | decide | omega), k547, (fun z => absurd z (by first | decide | omega)), (fun l => gP_nol (Nr.nb (Nr.cast c502 e552) (by first | decide | omega)) n553 (by first | decide | omega))⟩
  have q538 : ¬ (v489 < 2147483648) := q538
  have b554 := c498 (by first | decide | omega)
  have b555 := c499 (by first | decide | omega)
  have b556 := c500 (by first | decide | omega)
  refine x_const (np := 125) (x := 9223372043297226753) (a := 2147483649) (by decide +kernel) (by decide) (by decide) ?_
  refine x_goto (np := 128) (x := 129) (by decide +kernel) ?_
  have q557 : h532 75 13 = (1 + (h 75 13)) := by rw [← e534]; exact x_up_at
  have q558 : h532 75 7 = h523 75 7 := by rw [← e534]; exact x_up_i (by first | decide | omega)
  have q559 : h523 75 7 = h513 75 7 := by rw [← e525]; exact x_up_k (by decide)
  have q560 : h513 75 7 = h493 75 7 := by rw [← e515]; exact x_up_k (by decide)
  have q561 : h532 75 7 = h523 75 7 := by rw [← e534]; exact x_up_i (by first | decide | omega)
  have q562 : h523 75 7 = h513 75 7 := by rw [← e525]; exact x_up_k (by decide)
  have q563 : h513 75 7 = h493 75 7 := by rw [← e515]; exact x_up_k (by decide)
  have q564 : h532 75 13 = (1 + (h 75 13)) := by rw [← e534]; exact x_up_at
  have k569 : Kp h h6 (h 75 13 - 2147483648) := Kp.fr Kp.refl f8 (by first | decide | omega) (by decide)
  have k568 : Kp h h493 (h 75 13 - 2147483648) := Kp.fr k569 f495 (by first | decide | omega) (by decide)
  have k567 : Kp h h513 (h 75 13 - 2147483648) := by rw [← e515]; exact Kp.up k568 (by first | decide | omega) (fun i hi => by first | decide | omega)
  have k566 : Kp h h523 (h 75 13 - 2147483648) := by rw [← e525]; exact Kp.up k567 (by first | decide | omega) (fun i hi => by first | decide | omega)
  have k565 : Kp h h532 (h 75 13 - 2147483648) := by rw [← e534]; exact Kp.oth k566 (by decide)
  have q570 : h532 75 13 = (1 + (h 75 13)) := by rw [← e534]; exact x_up_at
  have q572 : h532 76 (1152 + 2 * u510) = h523 76 (1152 + 2 * u510) := by rw [← e534]; exact x_up_k (by decide)
  have q573 : h523 76 (1152 + 2 * u510) = h513 76 (1152 + 2 * u510) := by rw [← e525]; exact x_up_i (by first | decide | omega)
  have q574 : h513 76 (1152 + 2 * u510) = 2147483656 := by rw [← e515]; exact x_up_at
  have s571 : Seg (sg h532) u510 (u510 + 1) := Seg.push (show 2147483648 ≤ h532 76 (1152 + 2 * u510) by first | decide | omega) (show h532 76 (1152 + 2 * u510) ≤ 2147483656 by first | decide | omega)
  have s575 : Seg (sg h532) (h 75 13 - 2147483648) (h532 75 13 - 2147483648) := Seg.cast (Seg.kp s571 Kp.refl) (by first | decide | omega) (by first | decide | omega)
  have e576 : sk tB tN (h6 75 7) = sk tB tN (h 75 7) := (congrArg (sk tB tN) ((show h6 75 7 = h6 75 9 by first | decide | omega).trans c13)).trans sk_idem
  have q577 : h532 75 7 = h523 75 7 := by rw [← e534]; exact x_up_i (by first | decide | omega)
  have q578 : h523 75 7 = h513 75 7 := by rw [← e525]; exact x_up_k (by decide)
  have q579 : h513 75 7 = h493 75 7 := by rw [← e515]; exact x_up_k (by decide)
  refine x_retI (np := 130) (x := 0) (by decide +kernel) (by decide) (Or.inr ⟨by decide +kernel, by first | decide | omega, by first | decide | omega⟩) ⟨_, rfl, (by decide), ?_⟩
  exact ⟨j533, f535, (by first | decide | omega), (fun z => by first | decide | omega), (fun z => by first | decide | omega), (fun z => by first | decide | omega), k565, (fun _ => s575), (fun l => gP_num c502 e576 (by first | decide | omega) (by first | decide | omega) (congrArg (sk tB tN) (show h493 75 7 = h532 75 7 by first | decide | omega)))⟩
set_option maxHeartbeats 0 in
/-- LentNamesModel.readSum()Z -/
theorem c189_75 {sc : Nat × Nat} {d  : Nat} {h : xh} {tB : Nat → Nat} {tN : Nat} (hJ : J h) (hr0 : (h 75 13) + 5 ≤ (h 75 7)) (hT : Tq tB tN h) : X sc 189 (d + 6) (xI fun r h' => J h' ∧ Fr 89128961 h h' ∧ (2147483648 ≤ r ∧ r ≤ 2147483649) ∧ (r = 2147483649 → h' 75 13 + h 75 7 ≤ h' 75 7 + h 75 13) ∧ (r = 2147483649 → h 75 7 + 0 ≤ h' 75 7) ∧ (r = 2147483649 → h 75 13 ≤ h' 75 13) ∧ Kp h h' (h 75 13 - 2147483648) ∧ (r = 2147483649 → Seg (sg h') (h 75 13 - 2147483648) (h' 75 13 - 2147483648)) ∧ (∀ l, G tB tN (Kd.seq 0) l (sk tB tN (h 75 7)) (rs r (sk tB tN (h' 75 7))))) 0 0 0 [x_r 75] [] h := by
  have hF := Fr.refl 89128961 h
  have b1 := jB (e := 13) 0 hJ rg_75_13_0_1 (by first | decide | omega) (by first | decide | omega)
  have b2 := jB (e := 7) 0 hJ rg_75_7_0_1 (by first | decide | omega) (by first | decide | omega)
  refine x_aload (np := 1) (x := 0) (by decide +kernel) rfl (x_nc_le (by decide)) ?_
  refine x_cI (t := 6) (mj := 188) (n := 1) (rc := 12) (ml := 2) (nr := 0) (np := 4) (as := [x_r 75]) (rest := []) (lo1 := [x_r 75, 147573952589676412928]) (by decide +kernel) (by decide) (by decide +kernel) (x_rb_of (by decide +kernel)) rfl rfl (x_wr (by decide) x_wn) x_wn (by decide) rfl (c188_75 hJ  (by first | decide | omega) hT) (fun v3 h6 l4 q5 => ?_)
  obtain ⟨j7, f8, b9, c10, c11, c12, c13, c14, c15⟩ := q5
  have f16 := Fr.trans hF f8 (by decide)
  have b17 := jB (e := 13) 0 j7 rg_75_13_0_1 (by first | decide | omega) (by first | decide | omega)
  have b18 := jB (e := 7) 0 j7 rg_75_7_0_1 (by first | decide | omega) (by first | decide | omega)
  refine x_ifz (k := 1) (tg := 9) (np := 7) (by decide +kernel) (by decide) l4 (fun q19 => ?_) (fun q20 => ?_)
  · have q19 : v3 ≠ 2147483648 := q19
    have b21 := c10 (by first | decide | omega)
    have b22 := c11 (by first | decide | omega)
    have b23 := c12 (by first | decide | omega)
    have s24 := c14 (by first | decide | omega)
    have p180 : ∀ (n : Nat) (h177 : xh), 4294967296 - h177 75 7 < n → h177 75 13 + h 75 7 ≤ h177 75 7 + h 75 13 → h 75 7 ≤ h177 75 7 → h 75 13 ≤ h177 75 13 → J h177 → Fr 89128961 h6 h177 → (∀ l, Res tB tN (Kd.lp 0) l (sk tB tN (h177 75 7)) (Kd.seq 0) l (sk tB tN (h 75 7))) → Kp h h177 (h 75 13 - 2147483648) → Seg (sg h177) (h 75 13 - 2147483648) (h177 75 13 - 2147483648) → X sc 189 (d + 6) (xI fun r h' => J h' ∧ Fr 89128961 h h' ∧ (2147483648 ≤ r ∧ r ≤ 2147483649) ∧ (r = 2147483649 → h' 75 13 + h 75 7 ≤ h' 75 7 + h 75 13) ∧ (r = 2147483649 → h 75 7 + 0 ≤ h' 75 7) ∧ (r = 2147483649 → h 75 13 ≤ h' 75 13) ∧ Kp h h' (h 75 13 - 2147483648) ∧ (r = 2147483649 → Seg (sg h') (h 75 13 - 2147483648) (h' 75 13 - 2147483648)) ∧ (∀ l, G tB tN (Kd.seq 0) l (sk tB tN (h 75 7)) (rs r (sk tB tN (h' 75 7))))) 0 0 9 [x_r 75] [] h177 := by
      intro n
      induction n with
      | zero => intro h177 q187; exact absurd q187 (Nat.not_lt_zero _)
      | succ n i188 =>
        intro h177 q187 b181 b182 b183 j179 f178 m184 m185 m186
        have f189 := Fr.trans f16 f178 (by decide)
        refine x_aload (np := 10) (x := 0) (by decide +kernel) rfl (x_nc_le (by decide)) ?_
        refine x_const (np := 12) (x := 9223372223685853227) (a := 2147483691) (by decide +kernel) (by decide) (by decide) ?_
        have m194 := Tq.fr hT f8 (by decide) (by decide)
        have m193 := Tq.fr m194 f178 (by decide) (by decide)
        refine x_cI (t := 6) (mj := 173) (n := 2) (rc := 12) (ml := 2) (nr := 0) (np := 15) (as := [x_r 75, iv_c 2147483691]) (rest := []) (lo1 := [x_r 75, iv_c 2147483691]) (by decide +kernel) (by decide) (by decide +kernel) (x_rb_of (by decide +kernel)) rfl rfl (x_wr (by decide) (x_wi (by decide) x_wn)) x_wn (by decide) rfl (c173_75 j179  (by first | decide | omega) m193) (fun v190 h195 l191 q192 => ?_)
        obtain ⟨j196, f197, b198, c199, c200, c201⟩ := q192
        have f202 := Fr.trans f189 f197 (by decide)
        have f203 := Fr.trans f178 f197 (by decide)
        have b204 := jB (e := 7) 0 j179 rg_75_7_0_1 (by first | decide | omega) (by first | decide | omega)
        have b205 := jB (e := 7) 0 j196 rg_75_7_0_1 (by first | decide | omega) (by first | decide | omega)
        refine x_ifz (k := 0) (tg := 37) (np := 18) (by decide +kernel) (by decide) l191 (fun q206 => ?_) (fun q207 => ?_)
        · have q206 : v190 = 2147483648 := q206
          refine x_const (np := 38) (x := 9223372043297226753) (a := 2147483649) (by decide +kernel) (by decide) (by decide) ?_
          have q208 : h195 75 13 = h177 75 13 := jK 0 f197 rg_75_13_0_1 (by first | decide | omega) (by first | decide | omega) (by decide)
          have b209 := jB (e := 13) 0 j179 rg_75_13_0_1 (by first | decide | omega) (by first | decide | omega)
          have q210 : h195 75 13 = h177 75 13 := jK 0 f197 rg_75_13_0_1 (by first | decide | omega) (by first | decide | omega) (by decide)
          have k212 : Kp h h177 (h 75 13 - 2147483648) := Kp.less m185 (by first | decide | omega)
          have k211 : Kp h h195 (h 75 13 - 2147483648) := Kp.fr k212 f197 (by first | decide | omega) (by decide)
          have q213 : h195 75 13 = h177 75 13 := jK 0 f197 rg_75_13_0_1 (by first | decide | omega) (by first | decide | omega) (by decide)
          have k214 : Kp h177 h195 (h177 75 13 - 2147483648) := Kp.fr Kp.refl f197 (by first | decide | omega) (by decide)
          have s215 : Seg (sg h195) (h 75 13 - 2147483648) (h195 75 13 - 2147483648) := Seg.cast (Seg.kp m186 k214) (by first | decide | omega) (by first | decide | omega)
          obtain ⟨w216, e217⟩ := Tk.no c201 (by first | decide | omega)
          refine x_retI (np := 39) (x := 0) (by decide +kernel) (by decide) (Or.inr ⟨by decide +kernel, by first | decide | omega, by first | decide | omega⟩) ⟨_, rfl, (by decide), ?_⟩
          exact ⟨j196, f202, (by first | decide | omega), (fun z => by first | decide | omega), (fun z => by first | decide | omega), (fun z => by first | decide | omega), k211, (fun _ => s215), (fun l => gQ_e (t := 0) (m184 l) w216 rfl (by first | decide | omega) ((Eq.symm e217)))⟩
        have q207 : ¬ (v190 = 2147483648) := q207
        have b218 := c200 (by first | decide | omega)
        refine x_aload (np := 19) (x := 0) (by decide +kernel) rfl (x_nc_le (by decide)) ?_
        have q219 : h195 75 13 = h177 75 13 := jK 0 f197 rg_75_13_0_1 (by first | decide | omega) (by first | decide | omega) (by decide)
        have b220 := jB (e := 13) 0 j179 rg_75_13_0_1 (by first | decide | omega) (by first | decide | omega)
        have m224 := Tq.fr m193 f197 (by decide) (by decide)
        refine x_cI (t := 6) (mj := 188) (n := 1) (rc := 12) (ml := 2) (nr := 0) (np := 22) (as := [x_r 75]) (rest := []) (lo1 := [x_r 75, 147573952589676412928]) (by decide +kernel) (by decide) (by decide +kernel) (x_rb_of (by decide +kernel)) rfl rfl (x_wr (by decide) x_wn) x_wn (by decide) rfl (c188_75 j196  (by first | decide | omega) m224) (fun v221 h225 l222 q223 => ?_)
        obtain ⟨j226, f227, b228, c229, c230, c231, c232, c233, c234⟩ := q223
        have f235 := Fr.trans f202 f227 (by decide)
        have f236 := Fr.trans f203 f227 (by decide)
        have q237 : h195 75 13 = h177 75 13 := jK 0 f197 rg_75_13_0_1 (by first | decide | omega) (by first | decide | omega) (by decide)
        have b238 := jB (e := 13) 0 j226 rg_75_13_0_1 (by first | decide | omega) (by first | decide | omega)
        have b239 := jB (e := 7) 0 j226 rg_75_7_0_1 (by first | decide | omega) (by first | decide | omega)
        have q240 : h195 75 13 = h177 75 13 := jK 0 f197 rg_75_13_0_1 (by first | decide | omega) (by first | decide | omega) (by decide)
        refine x_ifz (k := 1) (tg := 27) (np := 25) (by decide +kernel) (by decide) l222 (fun q241 => ?_) (fun q242 => ?_)
        · have q241 : v221 ≠ 2147483648 := q241
          have b243 := c229 (by first | decide | omega)
          have b244 := c230 (by first | decide | omega)
          have b245 := c231 (by first | decide | omega)
          have s246 := c233 (by first | decide | omega)
          have q247 : h195 75 13 = h177 75 13 := jK 0 f197 rg_75_13_0_1 (by first | decide | omega) (by first | decide | omega) (by decide)
          refine x_aload (np := 28) (x := 0) (by decide +kernel) rfl (x_nc_le (by decide)) ?_
          refine x_const (np := 30) (x := 9223372077656965129) (a := 2147483657) (by decide +kernel) (by decide) (by decide) ?_
          refine x_const (np := 31) (x := 9223372039002259456) (a := 2147483648) (by decide +kernel) (by decide) (by decide) ?_
          refine x_nV (t := 6) (mj := 187) (n := 3) (rc := 12) (ml := 3) (nr := 0) (np := 34) (as := [x_r 75, iv_c 2147483657, iv_c 2147483648]) (rest := []) (lo1 := [x_r 75, iv_c 2147483657, iv_c 2147483648]) (by decide +kernel) (by decide) (by decide +kernel) (x_rb_of (by decide +kernel)) rfl rfl (x_wr (by decide) (x_wi (by decide) (x_wi (by decide) x_wn))) x_wn (by decide) rfl ?_
          refine x_aload (np := 1) (x := 0) (by decide +kernel) rfl (x_nc_le (by decide)) ?_
          have q248 : h225 75 1 = 76 := by have z := jB (e := 1) 0 j226 rg_75_1_0_1 (by decide) (by decide); omega
          refine x_getR (np := 4) (x := 705) (f := 1) (q := 76) (by decide +kernel) (by decide) (by decide +kernel) q248 ?_
          refine x_const (np := 7) (x := 9223376986804585600) (a := 2147484800) (by decide +kernel) (by decide) (by decide) ?_
          refine x_const (np := 8) (x := 9223372047592194050) (a := 2147483650) (by decide +kernel) (by decide) (by decide) ?_
          refine x_aload (np := 9) (x := 0) (by decide +kernel) rfl (x_nc_le (by decide)) ?_
          refine x_getC (np := 12) (x := 717) (f := 13) (q := (h225 75 13)) (by decide +kernel) (by decide) (by decide +kernel) rfl (fun l249 => ?_)
          obtain ⟨u250, q251⟩ : ∃ z, (h225 75 13) = 2147483648 + z := ⟨(h225 75 13) - 2147483648, by first | decide | omega⟩
          refine x_imul (np := 13) (x := 0) (i := 2) (j := u250) (v := (2147483648 + 2 * u250)) (by decide +kernel) (by first | decide | omega) (by first | decide | omega) (by first | decide | omega) (by first | decide | omega) (by decide) l249 ?_
          refine x_iadd (np := 14) (x := 0) (v := (2147484800 + 2 * u250)) (by decide +kernel) (by decide) (by first | decide | omega) (by first | decide | omega) (by first | decide | omega) ?_
          refine x_iload (np := 15) (x := 1) (by decide +kernel) rfl (by decide) ?_
          refine x_ast (np := 16) (x := 0) (kd := 1) (n := 1952) (i := (1152 + 2 * u250)) (by decide +kernel) (Or.inl rfl) (by decide +kernel) (by first | decide | omega) (by first | decide | omega) (by decide) (by decide) (fun z => absurd z (by decide)) ?_
          have j254 := jU (e := (1152 + 2 * u250)) (v := 2147483657) u250 j226 rg_76_1152_2_395 (by first | decide | omega) (by first | decide | omega) (by first | decide | omega)
          have f256 := jF (e := (1152 + 2 * u250)) (v := 2147483657) u250 f235 rg_76_1152_2_395 (by first | decide | omega) (by first | decide | omega) (by decide)
          have f257 := jF (e := (1152 + 2 * u250)) (v := 2147483657) u250 f236 rg_76_1152_2_395 (by first | decide | omega) (by first | decide | omega) (by decide)
          generalize e255 : x_up h225 76 (1152 + 2 * u250) 2147483657 = h253 at j254 f256 f257 ⊢
          refine x_aload (np := 17) (x := 0) (by decide +kernel) rfl (x_nc_le (by decide)) ?_
          have q258 : h253 75 1 = 76 := by have z := jB (e := 1) 0 j254 rg_75_1_0_1 (by decide) (by decide); omega
          refine x_getR (np := 20) (x := 705) (f := 1) (q := 76) (by decide +kernel) (by decide) (by decide +kernel) q258 ?_
          refine x_const (np := 23) (x := 9223376986804585600) (a := 2147484800) (by decide +kernel) (by decide) (by decide) ?_
          refine x_const (np := 24) (x := 9223372047592194050) (a := 2147483650) (by decide +kernel) (by decide) (by decide) ?_
          refine x_aload (np := 25) (x := 0) (by decide +kernel) rfl (x_nc_le (by decide)) ?_
          have q259 : h253 75 13 = h225 75 13 := by rw [← e255]; exact x_up_k (by decide)
          refine x_getC (np := 28) (x := 717) (f := 13) (q := (h225 75 13)) (by decide +kernel) (by decide) (by decide +kernel) q259 (fun l260 => ?_)
          refine x_imul (np := 29) (x := 0) (i := 2) (j := u250) (v := (2147483648 + 2 * u250)) (by decide +kernel) (by first | decide | omega) (by first | decide | omega) (by first | decide | omega) (by first | decide | omega) (by decide) l249 ?_
          refine x_iadd (np := 30) (x := 0) (v := (2147484800 + 2 * u250)) (by decide +kernel) (by decide) (by first | decide | omega) (by first | decide | omega) (by first | decide | omega) ?_
          refine x_const (np := 31) (x := 9223372043297226753) (a := 2147483649) (by decide +kernel) (by decide) (by decide) ?_
          refine x_iadd (np := 32) (x := 0) (v := (2147484801 + 2 * u250)) (by decide +kernel) (by first | decide | omega) (by decide) (by first | decide | omega) (by first | decide | omega) ?_
          refine x_iload (np := 33) (x := 2) (by decide +kernel) rfl (by decide) ?_
          refine x_ast (np := 34) (x := 0) (kd := 1) (n := 1952) (i := (1153 + 2 * u250)) (by decide +kernel) (Or.inl rfl) (by decide +kernel) (by first | decide | omega) (by first | decide | omega) (by decide) (by decide) (fun z => absurd z (by decide)) ?_
          have j263 := jU (e := (1153 + 2 * u250)) (v := 2147483648) u250 j254 rg_76_1153_2_395 (by first | decide | omega) (by first | decide | omega) (by first | decide | omega)
          have f265 := jF (e := (1153 + 2 * u250)) (v := 2147483648) u250 f256 rg_76_1153_2_395 (by first | decide | omega) (by first | decide | omega) (by decide)
          have f266 := jF (e := (1153 + 2 * u250)) (v := 2147483648) u250 f257 rg_76_1153_2_395 (by first | decide | omega) (by first | decide | omega) (by decide)
          generalize e264 : x_up h253 76 (1153 + 2 * u250) 2147483648 = h262 at j263 f265 f266 ⊢
          refine x_aload (np := 35) (x := 0) (by decide +kernel) rfl (x_nc_le (by decide)) ?_
          refine x_dup (np := 36) (x := 0) (by decide +kernel) (by have z := x_nc_le (k := 75) (by decide); unfold x_r; omega) ?_
          have q267 : h262 75 13 = h253 75 13 := by rw [← e264]; exact x_up_k (by decide)
          have q268 : h253 75 13 = h225 75 13 := by rw [← e255]; exact x_up_k (by decide)
          refine x_getC (np := 39) (x := 717) (f := 13) (q := (h225 75 13)) (by decide +kernel) (by decide) (by decide +kernel) (q267.trans q268) (fun l269 => ?_)
          refine x_const (np := 40) (x := 9223372043297226753) (a := 2147483649) (by decide +kernel) (by decide) (by decide) ?_
          refine x_iadd (np := 41) (x := 0) (v := (1 + (h225 75 13))) (by decide +kernel) l249 (by decide) (by first | decide | omega) (by first | decide | omega) ?_
          refine x_putI (np := 44) (x := 717) (f := 13) (by decide +kernel) (by decide +kernel) (by first | decide | omega) (Or.inl (by decide)) ?_
          have j271 := jU (e := 13) (v := (1 + (h225 75 13))) 0 j263 rg_75_13_0_1 (by first | decide | omega) (by first | decide | omega) (by first | decide | omega)
          have f273 := jF (e := 13) (v := (1 + (h225 75 13))) 0 f265 rg_75_13_0_1 (by first | decide | omega) (by first | decide | omega) (by decide)
          have f274 := jF (e := 13) (v := (1 + (h225 75 13))) 0 f266 rg_75_13_0_1 (by first | decide | omega) (by first | decide | omega) (by decide)
          generalize e272 : x_up h262 75 13 (1 + (h225 75 13)) = h270 at j271 f273 f274 ⊢
          refine x_retV (np := 45) (x := 0) (by decide +kernel) (by decide +kernel) ⟨rfl, ?_⟩
          have q275 : h270 75 13 = (1 + (h225 75 13)) := by rw [← e272]; exact x_up_at
          refine x_goto (np := 37) (x := 9) (by decide +kernel) ?_
          have q276 : h270 75 7 = h262 75 7 := by rw [← e272]; exact x_up_i (by first | decide | omega)
          have q277 : h262 75 7 = h253 75 7 := by rw [← e264]; exact x_up_k (by decide)
          have q278 : h253 75 7 = h225 75 7 := by rw [← e255]; exact x_up_k (by decide)
          have q279 : h270 75 7 = h262 75 7 := by rw [← e272]; exact x_up_i (by first | decide | omega)
          have q280 : h262 75 7 = h253 75 7 := by rw [← e264]; exact x_up_k (by decide)
          have q281 : h253 75 7 = h225 75 7 := by rw [← e255]; exact x_up_k (by decide)
          have q282 : h270 75 13 = (1 + (h225 75 13)) := by rw [← e272]; exact x_up_at
          have b283 := jB (e := 10) 0 hJ rg_75_10_0_1 (by first | decide | omega) (by first | decide | omega)
          have q284 : h270 75 10 = h262 75 10 := by rw [← e272]; exact x_up_i (by first | decide | omega)
          have q285 : h262 75 10 = h253 75 10 := by rw [← e264]; exact x_up_k (by decide)
          have q286 : h253 75 10 = h225 75 10 := by rw [← e255]; exact x_up_k (by decide)
          have q287 : h225 75 10 = h195 75 10 := jK 0 f227 rg_75_10_0_1 (by first | decide | omega) (by first | decide | omega) (by decide)
          have q288 : h195 75 10 = h177 75 10 := jK 0 f197 rg_75_10_0_1 (by first | decide | omega) (by first | decide | omega) (by decide)
          have q289 : h177 75 10 = h6 75 10 := jK 0 f178 rg_75_10_0_1 (by first | decide | omega) (by first | decide | omega) (by decide)
          have q290 : h6 75 10 = h 75 10 := jK 0 f8 rg_75_10_0_1 (by first | decide | omega) (by first | decide | omega) (by decide)
          obtain ⟨w291, e292⟩ := Tk.yes c201 (by first | decide | omega)
          have q293 : h270 75 7 = h262 75 7 := by rw [← e272]; exact x_up_i (by first | decide | omega)
          have q294 : h262 75 7 = h253 75 7 := by rw [← e264]; exact x_up_k (by decide)
          have q295 : h253 75 7 = h225 75 7 := by rw [← e255]; exact x_up_k (by decide)
          have k301 : Kp h h177 (h 75 13 - 2147483648) := Kp.less m185 (by first | decide | omega)
          have k300 : Kp h h195 (h 75 13 - 2147483648) := Kp.fr k301 f197 (by first | decide | omega) (by decide)
          have q302 : h195 75 13 = h177 75 13 := jK 0 f197 rg_75_13_0_1 (by first | decide | omega) (by first | decide | omega) (by decide)
          have k299 : Kp h h225 (h 75 13 - 2147483648) := Kp.trans k300 c232 (by first | decide | omega)
          have k298 : Kp h h253 (h 75 13 - 2147483648) := by rw [← e255]; exact Kp.up k299 (by first | decide | omega) (fun i hi => by first | decide | omega)
          have k297 : Kp h h262 (h 75 13 - 2147483648) := by rw [← e264]; exact Kp.up k298 (by first | decide | omega) (fun i hi => by first | decide | omega)
          have k296 : Kp h h270 (h 75 13 - 2147483648) := by rw [← e272]; exact Kp.oth k297 (by decide)
          have q303 : h270 75 13 = (1 + (h225 75 13)) := by rw [← e272]; exact x_up_at
          have q305 : h270 76 (1152 + 2 * u250) = h262 76 (1152 + 2 * u250) := by rw [← e272]; exact x_up_k (by decide)
          have q306 : h262 76 (1152 + 2 * u250) = h253 76 (1152 + 2 * u250) := by rw [← e264]; exact x_up_i (by first | decide | omega)
          have q307 : h253 76 (1152 + 2 * u250) = 2147483657 := by rw [← e255]; exact x_up_at
          have k312 : Kp h177 h195 (h177 75 13 - 2147483648) := Kp.fr Kp.refl f197 (by first | decide | omega) (by decide)
          have q313 : h195 75 13 = h177 75 13 := jK 0 f197 rg_75_13_0_1 (by first | decide | omega) (by first | decide | omega) (by decide)
          have k311 : Kp h177 h225 (h177 75 13 - 2147483648) := Kp.trans k312 c232 (by first | decide | omega)
          have k310 : Kp h177 h253 (h177 75 13 - 2147483648) := by rw [← e255]; exact Kp.up k311 (by first | decide | omega) (fun i hi => by first | decide | omega)
          have k309 : Kp h177 h262 (h177 75 13 - 2147483648) := by rw [← e264]; exact Kp.up k310 (by first | decide | omega) (fun i hi => by first | decide | omega)
          have k308 : Kp h177 h270 (h177 75 13 - 2147483648) := by rw [← e272]; exact Kp.oth k309 (by decide)
          have k316 : Kp h225 h253 (h225 75 13 - 2147483648) := by rw [← e255]; exact Kp.up Kp.refl (by first | decide | omega) (fun i hi => by first | decide | omega)
          have k315 : Kp h225 h262 (h225 75 13 - 2147483648) := by rw [← e264]; exact Kp.up k316 (by first | decide | omega) (fun i hi => by first | decide | omega)
          have k314 : Kp h225 h270 (h225 75 13 - 2147483648) := by rw [← e272]; exact Kp.oth k315 (by decide)
          have s304 : Seg (sg h270) (h 75 13 - 2147483648) (u250 + 1) := Seg.bin (Seg.kp m186 k308) (Seg.cast (a' := (h177 75 13 - 2147483648)) (b' := u250) (Seg.kp s246 k314) (by first | decide | omega) (by first | decide | omega)) (show 2147483656 < h270 76 (1152 + 2 * u250) by first | decide | omega) (show h270 76 (1152 + 2 * u250) ≠ 2147483660 by first | decide | omega)
          have s317 : Seg (sg h270) (h 75 13 - 2147483648) (h270 75 13 - 2147483648) := Seg.cast (Seg.kp s304 Kp.refl) (by first | decide | omega) (by first | decide | omega)
          exact i188  h270 (by first | decide | omega) (by first | decide | omega) (by first | decide | omega) (by first | decide | omega) j271 f274 (fun l => gQ_st (t := 0) (m184 l) w291 rfl e292 (c234 l) rfl (by first | decide | omega) (congrArg (sk tB tN) (show h225 75 7 = h270 75 7 by first | decide | omega))) k296 s317
        have q242 : ¬ (v221 ≠ 2147483648) := q242
        refine x_const (np := 26) (x := 9223372039002259456) (a := 2147483648) (by decide +kernel) (by decide) (by decide) ?_
        have k320 : Kp h h177 (h 75 13 - 2147483648) := Kp.less m185 (by first | decide | omega)
        have k319 : Kp h h195 (h 75 13 - 2147483648) := Kp.fr k320 f197 (by first | decide | omega) (by decide)
        have q321 : h195 75 13 = h177 75 13 := jK 0 f197 rg_75_13_0_1 (by first | decide | omega) (by first | decide | omega) (by decide)
        have k318 : Kp h h225 (h 75 13 - 2147483648) := Kp.trans k319 c232 (by first | decide | omega)
        obtain ⟨w322, e323⟩ := Tk.yes c201 (by first | decide | omega)
        refine x_retI (np := 27) (x := 0) (by decide +kernel) (by decide) (Or.inr ⟨by decide +kernel, by first | decide | omega, by first | decide | omega⟩) ⟨_, rfl, (by decide), ?_⟩
        exact ⟨j226, f235, (by first | decide | omega), (fun z => by first | decide | omega), (fun z => by first | decide | omega), (fun z => by first | decide | omega), k318, (fun z => absurd z (by first | decide | omega)), (fun l => gQ_f (t := 0) (m184 l) w322 rfl e323 (c234 l) rfl (by first | decide | omega) (by first | decide | omega))⟩
    have b324 := jB (e := 10) 0 hJ rg_75_10_0_1 (by first | decide | omega) (by first | decide | omega)
    have q325 : h6 75 10 = h 75 10 := jK 0 f8 rg_75_10_0_1 (by first | decide | omega) (by first | decide | omega) (by decide)
    have k326 : Kp h h6 (h 75 13 - 2147483648) := Kp.less c13 (by first | decide | omega)
    have s327 : Seg (sg h6) (h 75 13 - 2147483648) (h6 75 13 - 2147483648) := Seg.cast (Seg.kp s24 Kp.refl) (by first | decide | omega) (by first | decide | omega)
    exact p180 _  h6 (Nat.lt_succ_self _) (by first | decide | omega) (by first | decide | omega) (by first | decide | omega) j7 (Fr.refl _ _) (fun l => gQ_in (t := 0) (c15 l) rfl (by first | decide | omega) rfl) k326 s327
  have q20 : ¬ (v3 ≠ 2147483648) := q20
  refine x_const (np := 8) (x := 9223372039002259456) (a := 2147483648) (by decide +kernel) (by decide) (by decide) ?_
  have k328 : Kp h h6 (h 75 13 - 2147483648) := Kp.less c13 (by first | decide | omega)
  refine x_retI (np := 9) (x := 0) (by decide +kernel) (by decide) (Or.inr ⟨by decide +kernel, by first | decide | omega, by first | decide | omega⟩) ⟨_, rfl, (by decide), ?_⟩
  exact ⟨j7, f16, (by first | decide | omega), (fun z => by first | decide | omega), (fun z => by first | decide | omega), (fun z => by first | decide | omega), k328, (fun z => absurd z (by first | decide | omega)), (fun l => gQ_no (t := 0) (c15 l) rfl (by first | decide | omega) (by first | decide | omega))⟩
set_option maxHeartbeats 0 in
/-- LentNamesModel.readAtom()Z -/
theorem c190_75_D6 {sc : Nat × Nat} {d  : Nat} {h : xh} {tB : Nat → Nat} {tN : Nat} (hJ : J h) (hr0 : (h 75 13) + 5 ≤ (h 75 7)) (hr1 : (h 75 10) = 2147483654) (hT : Tq tB tN h) : X sc 190 (d + 7) (xI fun r h' => J h' ∧ Fr 89128961 h h' ∧ (2147483648 ≤ r ∧ r ≤ 2147483649) ∧ (r = 2147483649 → h' 75 13 + h 75 7 ≤ h' 75 7 + h 75 13) ∧ (r = 2147483649 → h' 75 10 = h 75 10) ∧ (r = 2147483649 → h 75 7 + 0 ≤ h' 75 7) ∧ (r = 2147483649 → h 75 13 ≤ h' 75 13) ∧ Kp h h' (h 75 13 - 2147483648) ∧ (r = 2147483649 → Seg (sg h') (h 75 13 - 2147483648) (h' 75 13 - 2147483648)) ∧ G tB tN Kd.atom 6 (sk tB tN (h 75 7)) (rs r (sk tB tN (h' 75 7)))) 0 0 0 [x_r 75, 147573952589676412928, 147573952589676412928] [] h := by
  have hF := Fr.refl 89128961 h
  have b1 := jB (e := 13) 0 hJ rg_75_13_0_1 (by first | decide | omega) (by first | decide | omega)
  have b2 := jB (e := 7) 0 hJ rg_75_7_0_1 (by first | decide | omega) (by first | decide | omega)
  have b3 := jB (e := 10) 0 hJ rg_75_10_0_1 (by first | decide | omega) (by first | decide | omega)
  refine x_aload (np := 1) (x := 0) (by decide +kernel) rfl (x_nc_le (by decide)) ?_
  refine x_const (np := 3) (x := 9223372210800951336) (a := 2147483688) (by decide +kernel) (by decide) (by decide) ?_
  refine x_cI (t := 6) (mj := 173) (n := 2) (rc := 12) (ml := 2) (nr := 0) (np := 6) (as := [x_r 75, iv_c 2147483688]) (rest := []) (lo1 := [x_r 75, iv_c 2147483688]) (by decide +kernel) (by decide) (by decide +kernel) (x_rb_of (by decide +kernel)) rfl rfl (x_wr (by decide) (x_wi (by decide) x_wn)) x_wn (by decide) rfl (c173_75 hJ  (by first | decide | omega) hT) (fun v4 h7 l5 q6 => ?_)
  obtain ⟨j8, f9, b10, c11, c12, c13⟩ := q6
  have f14 := Fr.trans hF f9 (by decide)
  have b15 := jB (e := 7) 0 j8 rg_75_7_0_1 (by first | decide | omega) (by first | decide | omega)
  refine x_ifz (k := 0) (tg := 56) (np := 9) (by decide +kernel) (by decide) l5 (fun q16 => ?_) (fun q17 => ?_)
  · have q16 : v4 = 2147483648 := q16
    refine x_aload (np := 57) (x := 0) (by decide +kernel) rfl (x_nc_le (by decide)) ?_
    refine x_ldcB (i := 24) (idx := 245) (tx := "not") (by rw [tb_y190]; exact List.mem_of_getElem? (i := 59) rfl) (by decide) (by rw [tb_b190]; decide +kernel) ?_
    have m21 := Tq.fr hT f9 (by decide) (by decide)
    refine x_cI (t := 6) (mj := 171) (n := 2) (rc := 12) (ml := 2) (nr := 0) (np := 62) (as := [x_r 75, x_b (24 + 1)]) (rest := []) (lo1 := [x_r 75, x_b (24 + 1)]) (by decide +kernel) (by decide) (by decide +kernel) (x_rb_of (by decide +kernel)) rfl rfl (x_wr (by decide) (x_wB (by decide) x_wn)) x_wn (by decide) rfl (c171_75_S0 j8  (by decide) m21) (fun v18 h22 l19 q20 => ?_)
    obtain ⟨j23, f24, b25, c26, c27, c28⟩ := q20
    have f29 := Fr.trans f14 f24 (by decide)
    have b30 := jB (e := 7) 0 j23 rg_75_7_0_1 (by first | decide | omega) (by first | decide | omega)
    refine x_ifz (k := 0) (tg := 114) (np := 65) (by decide +kernel) (by decide) l19 (fun q31 => ?_) (fun q32 => ?_)
    · have q31 : v18 = 2147483648 := q31
      refine x_aload (np := 115) (x := 0) (by decide +kernel) rfl (x_nc_le (by decide)) ?_
      refine x_ldcB (i := 25) (idx := 250) (tx := "own") (by rw [tb_y190]; exact List.mem_of_getElem? (i := 60) rfl) (by decide) (by rw [tb_b190]; decide +kernel) ?_
      have m36 := Tq.fr m21 f24 (by decide) (by decide)
      refine x_cI (t := 6) (mj := 171) (n := 2) (rc := 12) (ml := 2) (nr := 0) (np := 120) (as := [x_r 75, x_b (25 + 1)]) (rest := []) (lo1 := [x_r 75, x_b (25 + 1)]) (by decide +kernel) (by decide) (by decide +kernel) (x_rb_of (by decide +kernel)) rfl rfl (x_wr (by decide) (x_wB (by decide) x_wn)) x_wn (by decide) rfl (c171_75_S0 j23  (by decide) m36) (fun v33 h37 l34 q35 => ?_)
      obtain ⟨j38, f39, b40, c41, c42, c43⟩ := q35
      have f44 := Fr.trans f29 f39 (by decide)
      have b45 := jB (e := 7) 0 j38 rg_75_7_0_1 (by first | decide | omega) (by first | decide | omega)
      refine x_istore (np := 121) (x := 1) (lo' := [x_r 75, iv_c v33, 147573952589676412928]) (by decide +kernel) l34 (Nat.le_of_ble_eq_true rfl) rfl ?_
      refine x_iload (np := 122) (x := 1) (by decide +kernel) rfl l34 ?_
      refine x_ifz (k := 1) (tg := 134) (np := 125) (by decide +kernel) (by decide) l34 (fun q46 => ?_) (fun q47 => ?_)
      · have q46 : v33 ≠ 2147483648 := q46
        have b48 := c42 (by first | decide | omega)
        refine x_aload (np := 135) (x := 0) (by decide +kernel) rfl (x_nc_le (by decide)) ?_
        refine x_iload (np := 136) (x := 1) (by decide +kernel) rfl l34 ?_
        refine x_ifz (k := 0) (tg := 144) (np := 139) (by decide +kernel) (by decide) l34 (fun q49 => ?_) (fun q50 => ?_)
        · have q49 : v33 = 2147483648 := q49
          exfalso; omega
        have q50 : ¬ (v33 = 2147483648) := q50
        refine x_const (np := 141) (x := 9223372064772063238) (a := 2147483654) (by decide +kernel) (by decide) (by decide) ?_
        refine x_goto (np := 144) (x := 146) (by decide +kernel) ?_
        refine x_const (np := 147) (x := 9223372039002259456) (a := 2147483648) (by decide +kernel) (by decide) (by decide) ?_
        refine x_nV (t := 6) (mj := 187) (n := 3) (rc := 12) (ml := 3) (nr := 0) (np := 150) (as := [x_r 75, iv_c 2147483654, iv_c 2147483648]) (rest := []) (lo1 := [x_r 75, iv_c 2147483654, iv_c 2147483648]) (by decide +kernel) (by decide) (by decide +kernel) (x_rb_of (by decide +kernel)) rfl rfl (x_wr (by decide) (x_wi (by decide) (x_wi (by decide) x_wn))) x_wn (by decide) rfl ?_
        refine x_aload (np := 1) (x := 0) (by decide +kernel) rfl (x_nc_le (by decide)) ?_
        have q51 : h37 75 1 = 76 := by have z := jB (e := 1) 0 j38 rg_75_1_0_1 (by decide) (by decide); omega
        refine x_getR (np := 4) (x := 705) (f := 1) (q := 76) (by decide +kernel) (by decide) (by decide +kernel) q51 ?_
        refine x_const (np := 7) (x := 9223376986804585600) (a := 2147484800) (by decide +kernel) (by decide) (by decide) ?_
        refine x_const (np := 8) (x := 9223372047592194050) (a := 2147483650) (by decide +kernel) (by decide) (by decide) ?_
        refine x_aload (np := 9) (x := 0) (by decide +kernel) rfl (x_nc_le (by decide)) ?_
        have q52 : h37 75 13 = h22 75 13 := jK 0 f39 rg_75_13_0_1 (by first | decide | omega) (by first | decide | omega) (by decide)
        have q53 : h22 75 13 = h7 75 13 := jK 0 f24 rg_75_13_0_1 (by first | decide | omega) (by first | decide | omega) (by decide)
        have q54 : h7 75 13 = h 75 13 := jK 0 f9 rg_75_13_0_1 (by first | decide | omega) (by first | decide | omega) (by decide)
        refine x_getC (np := 12) (x := 717) (f := 13) (q := (h 75 13)) (by decide +kernel) (by decide) (by decide +kernel) ((q52.trans q53).trans q54) (fun l55 => ?_)
        obtain ⟨u56, q57⟩ : ∃ z, (h 75 13) = 2147483648 + z := ⟨(h 75 13) - 2147483648, by first | decide | omega⟩
        refine x_imul (np := 13) (x := 0) (i := 2) (j := u56) (v := (2147483648 + 2 * u56)) (by decide +kernel) (by first | decide | omega) (by first | decide | omega) (by first | decide | omega) (by first | decide | omega) (by decide) l55 ?_
        refine x_iadd (np := 14) (x := 0) (v := (2147484800 + 2 * u56)) (by decide +kernel) (by decide) (by first | decide | omega) (by first | decide | omega) (by first | decide | omega) ?_
        refine x_iload (np := 15) (x := 1) (by decide +kernel) rfl (by decide) ?_
        refine x_ast (np := 16) (x := 0) (kd := 1) (n := 1952) (i := (1152 + 2 * u56)) (by decide +kernel) (Or.inl rfl) (by decide +kernel) (by first | decide | omega) (by first | decide | omega) (by decide) (by decide) (fun z => absurd z (by decide)) ?_
        have j60 := jU (e := (1152 + 2 * u56)) (v := 2147483654) u56 j38 rg_76_1152_2_394 (by first | decide | omega) (by first | decide | omega) (by first | decide | omega)
        have f62 := jF (e := (1152 + 2 * u56)) (v := 2147483654) u56 f44 rg_76_1152_2_394 (by first | decide | omega) (by first | decide | omega) (by decide)
        generalize e61 : x_up h37 76 (1152 + 2 * u56) 2147483654 = h59 at j60 f62 ⊢
        refine x_aload (np := 17) (x := 0) (by decide +kernel) rfl (x_nc_le (by decide)) ?_
        have q63 : h59 75 1 = 76 := by have z := jB (e := 1) 0 j60 rg_75_1_0_1 (by decide) (by decide); omega
        refine x_getR (np := 20) (x := 705) (f := 1) (q := 76) (by decide +kernel) (by decide) (by decide +kernel) q63 ?_
        refine x_const (np := 23) (x := 9223376986804585600) (a := 2147484800) (by decide +kernel) (by decide) (by decide) ?_
        refine x_const (np := 24) (x := 9223372047592194050) (a := 2147483650) (by decide +kernel) (by decide) (by decide) ?_
        refine x_aload (np := 25) (x := 0) (by decide +kernel) rfl (x_nc_le (by decide)) ?_
        have q64 : h59 75 13 = h37 75 13 := by rw [← e61]; exact x_up_k (by decide)
        have q65 : h37 75 13 = h22 75 13 := jK 0 f39 rg_75_13_0_1 (by first | decide | omega) (by first | decide | omega) (by decide)
        have q66 : h22 75 13 = h7 75 13 := jK 0 f24 rg_75_13_0_1 (by first | decide | omega) (by first | decide | omega) (by decide)
        have q67 : h7 75 13 = h 75 13 := jK 0 f9 rg_75_13_0_1 (by first | decide | omega) (by first | decide | omega) (by decide)
        refine x_getC (np := 28) (x := 717) (f := 13) (q := (h 75 13)) (by decide +kernel) (by decide) (by decide +kernel) (((q64.trans q65).trans q66).trans q67) (fun l68 => ?_)
        refine x_imul (np := 29) (x := 0) (i := 2) (j := u56) (v := (2147483648 + 2 * u56)) (by decide +kernel) (by first | decide | omega) (by first | decide | omega) (by first | decide | omega) (by first | decide | omega) (by decide) l55 ?_
        refine x_iadd (np := 30) (x := 0) (v := (2147484800 + 2 * u56)) (by decide +kernel) (by decide) (by first | decide | omega) (by first | decide | omega) (by first | decide | omega) ?_
        refine x_const (np := 31) (x := 9223372043297226753) (a := 2147483649) (by decide +kernel) (by decide) (by decide) ?_
        refine x_iadd (np := 32) (x := 0) (v := (2147484801 + 2 * u56)) (by decide +kernel) (by first | decide | omega) (by decide) (by first | decide | omega) (by first | decide | omega) ?_
        refine x_iload (np := 33) (x := 2) (by decide +kernel) rfl (by decide) ?_
        refine x_ast (np := 34) (x := 0) (kd := 1) (n := 1952) (i := (1153 + 2 * u56)) (by decide +kernel) (Or.inl rfl) (by decide +kernel) (by first | decide | omega) (by first | decide | omega) (by decide) (by decide) (fun z => absurd z (by decide)) ?_
        have j71 := jU (e := (1153 + 2 * u56)) (v := 2147483648) u56 j60 rg_76_1153_2_394 (by first | decide | omega) (by first | decide | omega) (by first | decide | omega)
        have f73 := jF (e := (1153 + 2 * u56)) (v := 2147483648) u56 f62 rg_76_1153_2_394 (by first | decide | omega) (by first | decide | omega) (by decide)
        generalize e72 : x_up h59 76 (1153 + 2 * u56) 2147483648 = h70 at j71 f73 ⊢
        refine x_aload (np := 35) (x := 0) (by decide +kernel) rfl (x_nc_le (by decide)) ?_
        refine x_dup (np := 36) (x := 0) (by decide +kernel) (by have z := x_nc_le (k := 75) (by decide); unfold x_r; omega) ?_
        have q74 : h70 75 13 = h59 75 13 := by rw [← e72]; exact x_up_k (by decide)
        have q75 : h59 75 13 = h37 75 13 := by rw [← e61]; exact x_up_k (by decide)
        have q76 : h37 75 13 = h22 75 13 := jK 0 f39 rg_75_13_0_1 (by first | decide | omega) (by first | decide | omega) (by decide)
        have q77 : h22 75 13 = h7 75 13 := jK 0 f24 rg_75_13_0_1 (by first | decide | omega) (by first | decide | omega) (by decide)
        have q78 : h7 75 13 = h 75 13 := jK 0 f9 rg_75_13_0_1 (by first | decide | omega) (by first | decide | omega) (by decide)
        refine x_getC (np := 39) (x := 717) (f := 13) (q := (h 75 13)) (by decide +kernel) (by decide) (by decide +kernel) ((((q74.trans q75).trans q76).trans q77).trans q78) (fun l79 => ?_)
        refine x_const (np := 40) (x := 9223372043297226753) (a := 2147483649) (by decide +kernel) (by decide) (by decide) ?_
        refine x_iadd (np := 41) (x := 0) (v := (1 + (h 75 13))) (by decide +kernel) l55 (by decide) (by first | decide | omega) (by first | decide | omega) ?_
        refine x_putI (np := 44) (x := 717) (f := 13) (by decide +kernel) (by decide +kernel) (by first | decide | omega) (Or.inl (by decide)) ?_
        have j81 := jU (e := 13) (v := (1 + (h 75 13))) 0 j71 rg_75_13_0_1 (by first | decide | omega) (by first | decide | omega) (by first | decide | omega)
        have f83 := jF (e := 13) (v := (1 + (h 75 13))) 0 f73 rg_75_13_0_1 (by first | decide | omega) (by first | decide | omega) (by decide)
        generalize e82 : x_up h70 75 13 (1 + (h 75 13)) = h80 at j81 f83 ⊢
        refine x_retV (np := 45) (x := 0) (by decide +kernel) (by decide +kernel) ⟨rfl, ?_⟩
        have q84 : h80 75 13 = (1 + (h 75 13)) := by rw [← e82]; exact x_up_at
        refine x_const (np := 151) (x := 9223372043297226753) (a := 2147483649) (by decide +kernel) (by decide) (by decide) ?_
        have q85 : h80 75 13 = (1 + (h 75 13)) := by rw [← e82]; exact x_up_at
        have q86 : h80 75 7 = h70 75 7 := by rw [← e82]; exact x_up_i (by first | decide | omega)
        have q87 : h70 75 7 = h59 75 7 := by rw [← e72]; exact x_up_k (by decide)
        have q88 : h59 75 7 = h37 75 7 := by rw [← e61]; exact x_up_k (by decide)
        have q89 : h80 75 10 = h70 75 10 := by rw [← e82]; exact x_up_i (by first | decide | omega)
        have q90 : h70 75 10 = h59 75 10 := by rw [← e72]; exact x_up_k (by decide)
        have q91 : h59 75 10 = h37 75 10 := by rw [← e61]; exact x_up_k (by decide)
        have q92 : h37 75 10 = h22 75 10 := jK 0 f39 rg_75_10_0_1 (by first | decide | omega) (by first | decide | omega) (by decide)
        have q93 : h22 75 10 = h7 75 10 := jK 0 f24 rg_75_10_0_1 (by first | decide | omega) (by first | decide | omega) (by decide)
        have q94 : h7 75 10 = h 75 10 := jK 0 f9 rg_75_10_0_1 (by first | decide | omega) (by first | decide | omega) (by decide)
        have q95 : h80 75 7 = h70 75 7 := by rw [← e82]; exact x_up_i (by first | decide | omega)
        have q96 : h70 75 7 = h59 75 7 := by rw [← e72]; exact x_up_k (by decide)
        have q97 : h59 75 7 = h37 75 7 := by rw [← e61]; exact x_up_k (by decide)
        have q98 : h80 75 13 = (1 + (h 75 13)) := by rw [← e82]; exact x_up_at
        have k104 : Kp h h7 (h 75 13 - 2147483648) := Kp.fr Kp.refl f9 (by first | decide | omega) (by decide)
        have k103 : Kp h h22 (h 75 13 - 2147483648) := Kp.fr k104 f24 (by first | decide | omega) (by decide)
        have k102 : Kp h h37 (h 75 13 - 2147483648) := Kp.fr k103 f39 (by first | decide | omega) (by decide)
        have k101 : Kp h h59 (h 75 13 - 2147483648) := by rw [← e61]; exact Kp.up k102 (by first | decide | omega) (fun i hi => by first | decide | omega)
        have k100 : Kp h h70 (h 75 13 - 2147483648) := by rw [← e72]; exact Kp.up k101 (by first | decide | omega) (fun i hi => by first | decide | omega)
        have k99 : Kp h h80 (h 75 13 - 2147483648) := by rw [← e82]; exact Kp.oth k100 (by decide)
        have q105 : h80 75 13 = (1 + (h 75 13)) := by rw [← e82]; exact x_up_at
        have q107 : h80 76 (1152 + 2 * u56) = h70 76 (1152 + 2 * u56) := by rw [← e82]; exact x_up_k (by decide)
        have q108 : h70 76 (1152 + 2 * u56) = h59 76 (1152 + 2 * u56) := by rw [← e72]; exact x_up_i (by first | decide | omega)
        have q109 : h59 76 (1152 + 2 * u56) = 2147483654 := by rw [← e61]; exact x_up_at
        have s106 : Seg (sg h80) u56 (u56 + 1) := Seg.push (show 2147483648 ≤ h80 76 (1152 + 2 * u56) by first | decide | omega) (show h80 76 (1152 + 2 * u56) ≤ 2147483656 by first | decide | omega)
        have s110 : Seg (sg h80) (h 75 13 - 2147483648) (h80 75 13 - 2147483648) := Seg.cast (Seg.kp s106 Kp.refl) (by first | decide | omega) (by first | decide | omega)
        obtain ⟨w111, e112⟩ := Tk.no c13 (by first | decide | omega)
        obtain ⟨w113, e114⟩ := Tk.no c28 (by first | decide | omega)
        obtain ⟨w115, e116⟩ := Tk.yes c43 (by first | decide | omega)
        have q117 : h80 75 7 = h70 75 7 := by rw [← e82]; exact x_up_i (by first | decide | omega)
        have q118 : h70 75 7 = h59 75 7 := by rw [← e72]; exact x_up_k (by decide)
        have q119 : h59 75 7 = h37 75 7 := by rw [← e61]; exact x_up_k (by decide)
        refine x_retI (np := 152) (x := 0) (by decide +kernel) (by decide) (Or.inr ⟨by decide +kernel, by first | decide | omega, by first | decide | omega⟩) ⟨_, rfl, (by decide), ?_⟩
        exact ⟨j81, f83, (by first | decide | omega), (fun z => by first | decide | omega), (fun z => by first | decide | omega), (fun z => by first | decide | omega), (fun z => by first | decide | omega), k99, (fun _ => s110), (gA_own w115 (Eq.trans e114 e112) e116 (by first | decide | omega) (congrArg (sk tB tN) (show h37 75 7 = h80 75 7 by first | decide | omega)))⟩
      have q47 : ¬ (v33 ≠ 2147483648) := q47
      refine x_aload (np := 126) (x := 0) (by decide +kernel) rfl (x_nc_le (by decide)) ?_
      refine x_ldcB (i := 26) (idx := 252) (tx := "mine") (by rw [tb_y190]; exact List.mem_of_getElem? (i := 61) rfl) (by decide) (by rw [tb_b190]; decide +kernel) ?_
      have m123 := Tq.fr m36 f39 (by decide) (by decide)
      refine x_cI (t := 6) (mj := 171) (n := 2) (rc := 12) (ml := 2) (nr := 0) (np := 131) (as := [x_r 75, x_b (26 + 1)]) (rest := []) (lo1 := [x_r 75, x_b (26 + 1)]) (by decide +kernel) (by decide) (by decide +kernel) (x_rb_of (by decide +kernel)) rfl rfl (x_wr (by decide) (x_wB (by decide) x_wn)) x_wn (by decide) rfl (c171_75_S0 j38  (by decide) m123) (fun v120 h124 l121 q122 => ?_)
      obtain ⟨j125, f126, b127, c128, c129, c130⟩ := q122
      have f131 := Fr.trans f44 f126 (by decide)
      have b132 := jB (e := 7) 0 j125 rg_75_7_0_1 (by first | decide | omega) (by first | decide | omega)
      refine x_ifz (k := 0) (tg := 152) (np := 134) (by decide +kernel) (by decide) l121 (fun q133 => ?_) (fun q134 => ?_)
      · have q133 : v120 = 2147483648 := q133
        refine x_aload (np := 153) (x := 0) (by decide +kernel) rfl (x_nc_le (by decide)) ?_
        have q135 : h124 75 13 = h37 75 13 := jK 0 f126 rg_75_13_0_1 (by first | decide | omega) (by first | decide | omega) (by decide)
        have q136 : h37 75 13 = h22 75 13 := jK 0 f39 rg_75_13_0_1 (by first | decide | omega) (by first | decide | omega) (by decide)
        have q137 : h22 75 13 = h7 75 13 := jK 0 f24 rg_75_13_0_1 (by first | decide | omega) (by first | decide | omega) (by decide)
        have q138 : h7 75 13 = h 75 13 := jK 0 f9 rg_75_13_0_1 (by first | decide | omega) (by first | decide | omega) (by decide)
        have m142 := Tq.fr m123 f126 (by decide) (by decide)
        refine x_cI (t := 6) (mj := 189) (n := 1) (rc := 12) (ml := 1) (nr := 0) (np := 156) (as := [x_r 75]) (rest := []) (lo1 := [x_r 75]) (by decide +kernel) (by decide) (by decide +kernel) (x_rb_of (by decide +kernel)) rfl rfl (x_wr (by decide) x_wn) x_wn (by decide) rfl (c189_75 j125  (by first | decide | omega) m142) (fun v139 h143 l140 q141 => ?_)
        obtain ⟨j144, f145, b146, c147, c148, c149, c150, c151, c152⟩ := q141
        have f153 := Fr.trans f131 f145 (by decide)
        have q154 : h124 75 13 = h37 75 13 := jK 0 f126 rg_75_13_0_1 (by first | decide | omega) (by first | decide | omega) (by decide)
        have q155 : h37 75 13 = h22 75 13 := jK 0 f39 rg_75_13_0_1 (by first | decide | omega) (by first | decide | omega) (by decide)
        have q156 : h22 75 13 = h7 75 13 := jK 0 f24 rg_75_13_0_1 (by first | decide | omega) (by first | decide | omega) (by decide)
        have q157 : h7 75 13 = h 75 13 := jK 0 f9 rg_75_13_0_1 (by first | decide | omega) (by first | decide | omega) (by decide)
        have b158 := jB (e := 13) 0 j144 rg_75_13_0_1 (by first | decide | omega) (by first | decide | omega)
        have b159 := jB (e := 7) 0 j144 rg_75_7_0_1 (by first | decide | omega) (by first | decide | omega)
        have q160 : h124 75 13 = h37 75 13 := jK 0 f126 rg_75_13_0_1 (by first | decide | omega) (by first | decide | omega) (by decide)
        have q161 : h37 75 13 = h22 75 13 := jK 0 f39 rg_75_13_0_1 (by first | decide | omega) (by first | decide | omega) (by decide)
        have q162 : h22 75 13 = h7 75 13 := jK 0 f24 rg_75_13_0_1 (by first | decide | omega) (by first | decide | omega) (by decide)
        have q163 : h7 75 13 = h 75 13 := jK 0 f9 rg_75_13_0_1 (by first | decide | omega) (by first | decide | omega) (by decide)
        refine x_ifz (k := 1) (tg := 161) (np := 159) (by decide +kernel) (by decide) l140 (fun q164 => ?_) (fun q165 => ?_)
        · have q164 : v139 ≠ 2147483648 := q164
          have b166 := c147 (by first | decide | omega)
          have b167 := c148 (by first | decide | omega)
          have b168 := c149 (by first | decide | omega)
          have s169 := c151 (by first | decide | omega)
          have q170 : h124 75 13 = h37 75 13 := jK 0 f126 rg_75_13_0_1 (by first | decide | omega) (by first | decide | omega) (by decide)
          have q171 : h37 75 13 = h22 75 13 := jK 0 f39 rg_75_13_0_1 (by first | decide | omega) (by first | decide | omega) (by decide)
          have q172 : h22 75 13 = h7 75 13 := jK 0 f24 rg_75_13_0_1 (by first | decide | omega) (by first | decide | omega) (by decide)
          have q173 : h7 75 13 = h 75 13 := jK 0 f9 rg_75_13_0_1 (by first | decide | omega) (by first | decide | omega) (by decide)
          refine x_aload (np := 162) (x := 0) (by decide +kernel) rfl (x_nc_le (by decide)) ?_
          refine x_const (np := 164) (x := 9223372296700297276) (a := 2147483708) (by decide +kernel) (by decide) (by decide) ?_
          have m177 := Tq.fr m142 f145 (by decide) (by decide)
          refine x_cI (t := 6) (mj := 173) (n := 2) (rc := 12) (ml := 2) (nr := 0) (np := 167) (as := [x_r 75, iv_c 2147483708]) (rest := []) (lo1 := [x_r 75, iv_c 2147483708]) (by decide +kernel) (by decide) (by decide +kernel) (x_rb_of (by decide +kernel)) rfl rfl (x_wr (by decide) (x_wi (by decide) x_wn)) x_wn (by decide) rfl (c173_75 j144  (by first | decide | omega) m177) (fun v174 h178 l175 q176 => ?_)
          obtain ⟨j179, f180, b181, c182, c183, c184⟩ := q176
          have f185 := Fr.trans f153 f180 (by decide)
          have b186 := jB (e := 7) 0 j179 rg_75_7_0_1 (by first | decide | omega) (by first | decide | omega)
          refine x_istore (np := 168) (x := 2) (lo' := [x_r 75, iv_c v33, iv_c v174]) (by decide +kernel) l175 (Nat.le_of_ble_eq_true rfl) rfl ?_
          refine x_iload (np := 169) (x := 2) (by decide +kernel) rfl l175 ?_
          refine x_ifz (k := 1) (tg := 181) (np := 172) (by decide +kernel) (by decide) l175 (fun q187 => ?_) (fun q188 => ?_)
          · have q187 : v174 ≠ 2147483648 := q187
            have b189 := c183 (by first | decide | omega)
            refine x_aload (np := 182) (x := 0) (by decide +kernel) rfl (x_nc_le (by decide)) ?_
            have q190 : h178 75 13 = h143 75 13 := jK 0 f180 rg_75_13_0_1 (by first | decide | omega) (by first | decide | omega) (by decide)
            have m194 := Tq.fr m177 f180 (by decide) (by decide)
            refine x_cI (t := 6) (mj := 189) (n := 1) (rc := 12) (ml := 1) (nr := 0) (np := 185) (as := [x_r 75]) (rest := []) (lo1 := [x_r 75]) (by decide +kernel) (by decide) (by decide +kernel) (x_rb_of (by decide +kernel)) rfl rfl (x_wr (by decide) x_wn) x_wn (by decide) rfl (c189_75 j179  (by first | decide | omega) m194) (fun v191 h195 l192 q193 => ?_)
            obtain ⟨j196, f197, b198, c199, c200, c201, c202, c203, c204⟩ := q193
            have f205 := Fr.trans f185 f197 (by decide)
            have q206 : h178 75 13 = h143 75 13 := jK 0 f180 rg_75_13_0_1 (by first | decide | omega) (by first | decide | omega) (by decide)
            have b207 := jB (e := 13) 0 j196 rg_75_13_0_1 (by first | decide | omega) (by first | decide | omega)
            have b208 := jB (e := 7) 0 j196 rg_75_7_0_1 (by first | decide | omega) (by first | decide | omega)
            have q209 : h178 75 13 = h143 75 13 := jK 0 f180 rg_75_13_0_1 (by first | decide | omega) (by first | decide | omega) (by decide)
            refine x_ifz (k := 1) (tg := 190) (np := 188) (by decide +kernel) (by decide) l192 (fun q210 => ?_) (fun q211 => ?_)
            · have q210 : v191 ≠ 2147483648 := q210
              have b212 := c199 (by first | decide | omega)
              have b213 := c200 (by first | decide | omega)
              have b214 := c201 (by first | decide | omega)
              have s215 := c203 (by first | decide | omega)
              have q216 : h178 75 13 = h143 75 13 := jK 0 f180 rg_75_13_0_1 (by first | decide | omega) (by first | decide | omega) (by decide)
              refine x_aload (np := 191) (x := 0) (by decide +kernel) rfl (x_nc_le (by decide)) ?_
              refine x_iload (np := 192) (x := 2) (by decide +kernel) rfl l175 ?_
              refine x_ifz (k := 0) (tg := 200) (np := 195) (by decide +kernel) (by decide) l175 (fun q217 => ?_) (fun q218 => ?_)
              · have q217 : v174 = 2147483648 := q217
                exfalso; omega
              have q218 : ¬ (v174 = 2147483648) := q218
              refine x_const (np := 197) (x := 9223372081951932426) (a := 2147483658) (by decide +kernel) (by decide) (by decide) ?_
              refine x_goto (np := 200) (x := 202) (by decide +kernel) ?_
              refine x_const (np := 203) (x := 9223372039002259456) (a := 2147483648) (by decide +kernel) (by decide) (by decide) ?_
              refine x_nV (t := 6) (mj := 187) (n := 3) (rc := 12) (ml := 3) (nr := 0) (np := 206) (as := [x_r 75, iv_c 2147483658, iv_c 2147483648]) (rest := []) (lo1 := [x_r 75, iv_c 2147483658, iv_c 2147483648]) (by decide +kernel) (by decide) (by decide +kernel) (x_rb_of (by decide +kernel)) rfl rfl (x_wr (by decide) (x_wi (by decide) (x_wi (by decide) x_wn))) x_wn (by decide) rfl ?_
              refine x_aload (np := 1) (x := 0) (by decide +kernel) rfl (x_nc_le (by decide)) ?_
              have q219 : h195 75 1 = 76 := by have z := jB (e := 1) 0 j196 rg_75_1_0_1 (by decide) (by decide); omega
              refine x_getR (np := 4) (x := 705) (f := 1) (q := 76) (by decide +kernel) (by decide) (by decide +kernel) q219 ?_
              refine x_const (np := 7) (x := 9223376986804585600) (a := 2147484800) (by decide +kernel) (by decide) (by decide) ?_
              refine x_const (np := 8) (x := 9223372047592194050) (a := 2147483650) (by decide +kernel) (by decide) (by decide) ?_
              refine x_aload (np := 9) (x := 0) (by decide +kernel) rfl (x_nc_le (by decide)) ?_
              refine x_getC (np := 12) (x := 717) (f := 13) (q := (h195 75 13)) (by decide +kernel) (by decide) (by decide +kernel) rfl (fun l220 => ?_)
              obtain ⟨u221, q222⟩ : ∃ z, (h195 75 13) = 2147483648 + z := ⟨(h195 75 13) - 2147483648, by first | decide | omega⟩
              refine x_imul (np := 13) (x := 0) (i := 2) (j := u221) (v := (2147483648 + 2 * u221)) (by decide +kernel) (by first | decide | omega) (by first | decide | omega) (by first | decide | omega) (by first | decide | omega) (by decide) l220 ?_
              refine x_iadd (np := 14) (x := 0) (v := (2147484800 + 2 * u221)) (by decide +kernel) (by decide) (by first | decide | omega) (by first | decide | omega) (by first | decide | omega) ?_
              refine x_iload (np := 15) (x := 1) (by decide +kernel) rfl (by decide) ?_
              refine x_ast (np := 16) (x := 0) (kd := 1) (n := 1952) (i := (1152 + 2 * u221)) (by decide +kernel) (Or.inl rfl) (by decide +kernel) (by first | decide | omega) (by first | decide | omega) (by decide) (by decide) (fun z => absurd z (by decide)) ?_
              have j225 := jU (e := (1152 + 2 * u221)) (v := 2147483658) u221 j196 rg_76_1152_2_395 (by first | decide | omega) (by first | decide | omega) (by first | decide | omega)
              have f227 := jF (e := (1152 + 2 * u221)) (v := 2147483658) u221 f205 rg_76_1152_2_395 (by first | decide | omega) (by first | decide | omega) (by decide)
              generalize e226 : x_up h195 76 (1152 + 2 * u221) 2147483658 = h224 at j225 f227 ⊢
              refine x_aload (np := 17) (x := 0) (by decide +kernel) rfl (x_nc_le (by decide)) ?_
              have q228 : h224 75 1 = 76 := by have z := jB (e := 1) 0 j225 rg_75_1_0_1 (by decide) (by decide); omega
              refine x_getR (np := 20) (x := 705) (f := 1) (q := 76) (by decide +kernel) (by decide) (by decide +kernel) q228 ?_
              refine x_const (np := 23) (x := 9223376986804585600) (a := 2147484800) (by decide +kernel) (by decide) (by decide) ?_
              refine x_const (np := 24) (x := 9223372047592194050) (a := 2147483650) (by decide +kernel) (by decide) (by decide) ?_
              refine x_aload (np := 25) (x := 0) (by decide +kernel) rfl (x_nc_le (by decide)) ?_
              have q229 : h224 75 13 = h195 75 13 := by rw [← e226]; exact x_up_k (by decide)
              refine x_getC (np := 28) (x := 717) (f := 13) (q := (h195 75 13)) (by decide +kernel) (by decide) (by decide +kernel) q229 (fun l230 => ?_)
              refine x_imul (np := 29) (x := 0) (i := 2) (j := u221) (v := (2147483648 + 2 * u221)) (by decide +kernel) (by first | decide | omega) (by first | decide | omega) (by first | decide | omega) (by first | decide | omega) (by decide) l220 ?_
              refine x_iadd (np := 30) (x := 0) (v := (2147484800 + 2 * u221)) (by decide +kernel) (by decide) (by first | decide | omega) (by first | decide | omega) (by first | decide | omega) ?_
              refine x_const (np := 31) (x := 9223372043297226753) (a := 2147483649) (by decide +kernel) (by decide) (by decide) ?_
              refine x_iadd (np := 32) (x := 0) (v := (2147484801 + 2 * u221)) (by decide +kernel) (by first | decide | omega) (by decide) (by first | decide | omega) (by first | decide | omega) ?_
              refine x_iload (np := 33) (x := 2) (by decide +kernel) rfl (by decide) ?_
              refine x_ast (np := 34) (x := 0) (kd := 1) (n := 1952) (i := (1153 + 2 * u221)) (by decide +kernel) (Or.inl rfl) (by decide +kernel) (by first | decide | omega) (by first | decide | omega) (by decide) (by decide) (fun z => absurd z (by decide)) ?_
              have j233 := jU (e := (1153 + 2 * u221)) (v := 2147483648) u221 j225 rg_76_1153_2_395 (by first | decide | omega) (by first | decide | omega) (by first | decide | omega)
              have f235 := jF (e := (1153 + 2 * u221)) (v := 2147483648) u221 f227 rg_76_1153_2_395 (by first | decide | omega) (by first | decide | omega) (by decide)
              generalize e234 : x_up h224 76 (1153 + 2 * u221) 2147483648 = h232 at j233 f235 ⊢
              refine x_aload (np := 35) (x := 0) (by decide +kernel) rfl (x_nc_le (by decide)) ?_
              refine x_dup (np := 36) (x := 0) (by decide +kernel) (by have z := x_nc_le (k := 75) (by decide); unfold x_r; omega) ?_
              have q236 : h232 75 13 = h224 75 13 := by rw [← e234]; exact x_up_k (by decide)
              have q237 : h224 75 13 = h195 75 13 := by rw [← e226]; exact x_up_k (by decide)
              refine x_getC (np := 39) (x := 717) (f := 13) (q := (h195 75 13)) (by decide +kernel) (by decide) (by decide +kernel) (q236.trans q237) (fun l238 => ?_)
              refine x_const (np := 40) (x := 9223372043297226753) (a := 2147483649) (by decide +kernel) (by decide) (by decide) ?_
              refine x_iadd (np := 41) (x := 0) (v := (1 + (h195 75 13))) (by decide +kernel) l220 (by decide) (by first | decide | omega) (by first | decide | omega) ?_
              refine x_putI (np := 44) (x := 717) (f := 13) (by decide +kernel) (by decide +kernel) (by first | decide | omega) (Or.inl (by decide)) ?_
              have j240 := jU (e := 13) (v := (1 + (h195 75 13))) 0 j233 rg_75_13_0_1 (by first | decide | omega) (by first | decide | omega) (by first | decide | omega)
              have f242 := jF (e := 13) (v := (1 + (h195 75 13))) 0 f235 rg_75_13_0_1 (by first | decide | omega) (by first | decide | omega) (by decide)
              generalize e241 : x_up h232 75 13 (1 + (h195 75 13)) = h239 at j240 f242 ⊢
              refine x_retV (np := 45) (x := 0) (by decide +kernel) (by decide +kernel) ⟨rfl, ?_⟩
              have q243 : h239 75 13 = (1 + (h195 75 13)) := by rw [← e241]; exact x_up_at
              refine x_const (np := 207) (x := 9223372043297226753) (a := 2147483649) (by decide +kernel) (by decide) (by decide) ?_
              have q244 : h239 75 13 = (1 + (h195 75 13)) := by rw [← e241]; exact x_up_at
              have q245 : h239 75 7 = h232 75 7 := by rw [← e241]; exact x_up_i (by first | decide | omega)
              have q246 : h232 75 7 = h224 75 7 := by rw [← e234]; exact x_up_k (by decide)
              have q247 : h224 75 7 = h195 75 7 := by rw [← e226]; exact x_up_k (by decide)
              have q248 : h239 75 10 = h232 75 10 := by rw [← e241]; exact x_up_i (by first | decide | omega)
              have q249 : h232 75 10 = h224 75 10 := by rw [← e234]; exact x_up_k (by decide)
              have q250 : h224 75 10 = h195 75 10 := by rw [← e226]; exact x_up_k (by decide)
              have q251 : h195 75 10 = h178 75 10 := jK 0 f197 rg_75_10_0_1 (by first | decide | omega) (by first | decide | omega) (by decide)
              have q252 : h178 75 10 = h143 75 10 := jK 0 f180 rg_75_10_0_1 (by first | decide | omega) (by first | decide | omega) (by decide)
              have q253 : h143 75 10 = h124 75 10 := jK 0 f145 rg_75_10_0_1 (by first | decide | omega) (by first | decide | omega) (by decide)
              have q254 : h124 75 10 = h37 75 10 := jK 0 f126 rg_75_10_0_1 (by first | decide | omega) (by first | decide | omega) (by decide)
              have q255 : h37 75 10 = h22 75 10 := jK 0 f39 rg_75_10_0_1 (by first | decide | omega) (by first | decide | omega) (by decide)
              have q256 : h22 75 10 = h7 75 10 := jK 0 f24 rg_75_10_0_1 (by first | decide | omega) (by first | decide | omega) (by decide)
              have q257 : h7 75 10 = h 75 10 := jK 0 f9 rg_75_10_0_1 (by first | decide | omega) (by first | decide | omega) (by decide)
              have q258 : h239 75 7 = h232 75 7 := by rw [← e241]; exact x_up_i (by first | decide | omega)
              have q259 : h232 75 7 = h224 75 7 := by rw [← e234]; exact x_up_k (by decide)
              have q260 : h224 75 7 = h195 75 7 := by rw [← e226]; exact x_up_k (by decide)
              have q261 : h239 75 13 = (1 + (h195 75 13)) := by rw [← e241]; exact x_up_at
              have k271 : Kp h h7 (h 75 13 - 2147483648) := Kp.fr Kp.refl f9 (by first | decide | omega) (by decide)
              have k270 : Kp h h22 (h 75 13 - 2147483648) := Kp.fr k271 f24 (by first | decide | omega) (by decide)
              have k269 : Kp h h37 (h 75 13 - 2147483648) := Kp.fr k270 f39 (by first | decide | omega) (by decide)
              have k268 : Kp h h124 (h 75 13 - 2147483648) := Kp.fr k269 f126 (by first | decide | omega) (by decide)
              have q272 : h124 75 13 = h37 75 13 := jK 0 f126 rg_75_13_0_1 (by first | decide | omega) (by first | decide | omega) (by decide)
              have q273 : h37 75 13 = h22 75 13 := jK 0 f39 rg_75_13_0_1 (by first | decide | omega) (by first | decide | omega) (by decide)
              have q274 : h22 75 13 = h7 75 13 := jK 0 f24 rg_75_13_0_1 (by first | decide | omega) (by first | decide | omega) (by decide)
              have q275 : h7 75 13 = h 75 13 := jK 0 f9 rg_75_13_0_1 (by first | decide | omega) (by first | decide | omega) (by decide)
              have k267 : Kp h h143 (h 75 13 - 2147483648) := Kp.trans k268 c150 (by first | decide | omega)
              have k266 : Kp h h178 (h 75 13 - 2147483648) := Kp.fr k267 f180 (by first | decide | omega) (by decide)
              have q276 : h178 75 13 = h143 75 13 := jK 0 f180 rg_75_13_0_1 (by first | decide | omega) (by first | decide | omega) (by decide)
              have k265 : Kp h h195 (h 75 13 - 2147483648) := Kp.trans k266 c202 (by first | decide | omega)
              have k264 : Kp h h224 (h 75 13 - 2147483648) := by rw [← e226]; exact Kp.up k265 (by first | decide | omega) (fun i hi => by first | decide | omega)
              have k263 : Kp h h232 (h 75 13 - 2147483648) := by rw [← e234]; exact Kp.up k264 (by first | decide | omega) (fun i hi => by first | decide | omega)
              have k262 : Kp h h239 (h 75 13 - 2147483648) := by rw [← e241]; exact Kp.oth k263 (by decide)
              have q277 : h239 75 13 = (1 + (h195 75 13)) := by rw [← e241]; exact x_up_at
              have q279 : h239 76 (1152 + 2 * u221) = h232 76 (1152 + 2 * u221) := by rw [← e241]; exact x_up_k (by decide)
              have q280 : h232 76 (1152 + 2 * u221) = h224 76 (1152 + 2 * u221) := by rw [← e234]; exact x_up_i (by first | decide | omega)
              have q281 : h224 76 (1152 + 2 * u221) = 2147483658 := by rw [← e226]; exact x_up_at
              have k286 : Kp h143 h178 (h143 75 13 - 2147483648) := Kp.fr Kp.refl f180 (by first | decide | omega) (by decide)
              have q287 : h178 75 13 = h143 75 13 := jK 0 f180 rg_75_13_0_1 (by first | decide | omega) (by first | decide | omega) (by decide)
              have k285 : Kp h143 h195 (h143 75 13 - 2147483648) := Kp.trans k286 c202 (by first | decide | omega)
              have k284 : Kp h143 h224 (h143 75 13 - 2147483648) := by rw [← e226]; exact Kp.up k285 (by first | decide | omega) (fun i hi => by first | decide | omega)
              have k283 : Kp h143 h232 (h143 75 13 - 2147483648) := by rw [← e234]; exact Kp.up k284 (by first | decide | omega) (fun i hi => by first | decide | omega)
              have k282 : Kp h143 h239 (h143 75 13 - 2147483648) := by rw [← e241]; exact Kp.oth k283 (by decide)
              have k290 : Kp h195 h224 (h195 75 13 - 2147483648) := by rw [← e226]; exact Kp.up Kp.refl (by first | decide | omega) (fun i hi => by first | decide | omega)
              have k289 : Kp h195 h232 (h195 75 13 - 2147483648) := by rw [← e234]; exact Kp.up k290 (by first | decide | omega) (fun i hi => by first | decide | omega)
              have k288 : Kp h195 h239 (h195 75 13 - 2147483648) := by rw [← e241]; exact Kp.oth k289 (by decide)
              have s278 : Seg (sg h239) (h124 75 13 - 2147483648) (u221 + 1) := Seg.bin (Seg.kp s169 k282) (Seg.cast (a' := (h143 75 13 - 2147483648)) (b' := u221) (Seg.kp s215 k288) (by first | decide | omega) (by first | decide | omega)) (show 2147483656 < h239 76 (1152 + 2 * u221) by first | decide | omega) (show h239 76 (1152 + 2 * u221) ≠ 2147483660 by first | decide | omega)
              have s291 : Seg (sg h239) (h 75 13 - 2147483648) (h239 75 13 - 2147483648) := Seg.cast (Seg.kp s278 Kp.refl) (by first | decide | omega) (by first | decide | omega)
              obtain ⟨w292, e293⟩ := Tk.no c13 (by first | decide | omega)
              obtain ⟨w294, e295⟩ := Tk.no c28 (by first | decide | omega)
              obtain ⟨w296, e297⟩ := Tk.no c43 (by first | decide | omega)
              obtain ⟨w298, e299⟩ := Tk.no c130 (by first | decide | omega)
              have w300 : An tB tN (sk tB tN (h 75 7)) := gA_an w294 e293 w292 rfl w296 (Eq.trans e295 e293) w298 (Eq.trans e297 (Eq.trans e295 e293))
              obtain ⟨w301, e302⟩ := Tk.yes c184 (by first | decide | omega)
              have q303 : h239 75 7 = h232 75 7 := by rw [← e241]; exact x_up_i (by first | decide | omega)
              have q304 : h232 75 7 = h224 75 7 := by rw [← e234]; exact x_up_k (by decide)
              have q305 : h224 75 7 = h195 75 7 := by rw [← e226]; exact x_up_k (by decide)
              refine x_retI (np := 208) (x := 0) (by decide +kernel) (by decide) (Or.inr ⟨by decide +kernel, by first | decide | omega, by first | decide | omega⟩) ⟨_, rfl, (by decide), ?_⟩
              exact ⟨j240, f242, (by first | decide | omega), (fun z => by first | decide | omega), (fun z => by first | decide | omega), (fun z => by first | decide | omega), (fun z => by first | decide | omega), k262, (fun _ => s291), (gA_c2 w300 (c152 6) (Eq.trans e299 (Eq.trans e297 (Eq.trans e295 e293))) (by first | decide | omega) (Or.inl w301) rfl e302 (c204 6) rfl (by first | decide | omega) (fun z => (congrArg (sk tB tN) (show h195 75 7 = h239 75 7 by first | decide | omega))))⟩
            have q211 : ¬ (v191 ≠ 2147483648) := q211
            refine x_const (np := 189) (x := 9223372039002259456) (a := 2147483648) (by decide +kernel) (by decide) (by decide) ?_
            have q306 : h195 75 10 = h178 75 10 := jK 0 f197 rg_75_10_0_1 (by first | decide | omega) (by first | decide | omega) (by decide)
            have q307 : h178 75 10 = h143 75 10 := jK 0 f180 rg_75_10_0_1 (by first | decide | omega) (by first | decide | omega) (by decide)
            have q308 : h143 75 10 = h124 75 10 := jK 0 f145 rg_75_10_0_1 (by first | decide | omega) (by first | decide | omega) (by decide)
            have q309 : h124 75 10 = h37 75 10 := jK 0 f126 rg_75_10_0_1 (by first | decide | omega) (by first | decide | omega) (by decide)
            have q310 : h37 75 10 = h22 75 10 := jK 0 f39 rg_75_10_0_1 (by first | decide | omega) (by first | decide | omega) (by decide)
            have q311 : h22 75 10 = h7 75 10 := jK 0 f24 rg_75_10_0_1 (by first | decide | omega) (by first | decide | omega) (by decide)
            have q312 : h7 75 10 = h 75 10 := jK 0 f9 rg_75_10_0_1 (by first | decide | omega) (by first | decide | omega) (by decide)
            have k319 : Kp h h7 (h 75 13 - 2147483648) := Kp.fr Kp.refl f9 (by first | decide | omega) (by decide)
            have k318 : Kp h h22 (h 75 13 - 2147483648) := Kp.fr k319 f24 (by first | decide | omega) (by decide)
            have k317 : Kp h h37 (h 75 13 - 2147483648) := Kp.fr k318 f39 (by first | decide | omega) (by decide)
            have k316 : Kp h h124 (h 75 13 - 2147483648) := Kp.fr k317 f126 (by first | decide | omega) (by decide)
            have q320 : h124 75 13 = h37 75 13 := jK 0 f126 rg_75_13_0_1 (by first | decide | omega) (by first | decide | omega) (by decide)
            have q321 : h37 75 13 = h22 75 13 := jK 0 f39 rg_75_13_0_1 (by first | decide | omega) (by first | decide | omega) (by decide)
            have q322 : h22 75 13 = h7 75 13 := jK 0 f24 rg_75_13_0_1 (by first | decide | omega) (by first | decide | omega) (by decide)
            have q323 : h7 75 13 = h 75 13 := jK 0 f9 rg_75_13_0_1 (by first | decide | omega) (by first | decide | omega) (by decide)
            have k315 : Kp h h143 (h 75 13 - 2147483648) := Kp.trans k316 c150 (by first | decide | omega)
            have k314 : Kp h h178 (h 75 13 - 2147483648) := Kp.fr k315 f180 (by first | decide | omega) (by decide)
            have q324 : h178 75 13 = h143 75 13 := jK 0 f180 rg_75_13_0_1 (by first | decide | omega) (by first | decide | omega) (by decide)
            have k313 : Kp h h195 (h 75 13 - 2147483648) := Kp.trans k314 c202 (by first | decide | omega)
            obtain ⟨w325, e326⟩ := Tk.no c13 (by first | decide | omega)
            obtain ⟨w327, e328⟩ := Tk.no c28 (by first | decide | omega)
            obtain ⟨w329, e330⟩ := Tk.no c43 (by first | decide | omega)
            obtain ⟨w331, e332⟩ := Tk.no c130 (by first | decide | omega)
            have w333 : An tB tN (sk tB tN (h 75 7)) := gA_an w327 e326 w325 rfl w329 (Eq.trans e328 e326) w331 (Eq.trans e330 (Eq.trans e328 e326))
            obtain ⟨w334, e335⟩ := Tk.yes c184 (by first | decide | omega)
            refine x_retI (np := 190) (x := 0) (by decide +kernel) (by decide) (Or.inr ⟨by decide +kernel, by first | decide | omega, by first | decide | omega⟩) ⟨_, rfl, (by decide), ?_⟩
            exact ⟨j196, f205, (by first | decide | omega), (fun z => by first | decide | omega), (fun z => by first | decide | omega), (fun z => by first | decide | omega), (fun z => by first | decide | omega), k313, (fun z => absurd z (by first | decide | omega)), (gA_c2 w333 (c152 6) (Eq.trans e332 (Eq.trans e330 (Eq.trans e328 e326))) (by first | decide | omega) (Or.inl w334) rfl e335 (c204 6) rfl (by first | decide | omega) (fun z => absurd z (by first | decide | omega)))⟩
          have q188 : ¬ (v174 ≠ 2147483648) := q188
          refine x_aload (np := 173) (x := 0) (by decide +kernel) rfl (x_nc_le (by decide)) ?_
          refine x_const (np := 175) (x := 9223372305290231870) (a := 2147483710) (by decide +kernel) (by decide) (by decide) ?_
          have m339 := Tq.fr m177 f180 (by decide) (by decide)
          refine x_cI (t := 6) (mj := 173) (n := 2) (rc := 12) (ml := 2) (nr := 0) (np := 178) (as := [x_r 75, iv_c 2147483710]) (rest := []) (lo1 := [x_r 75, iv_c 2147483710]) (by decide +kernel) (by decide) (by decide +kernel) (x_rb_of (by decide +kernel)) rfl rfl (x_wr (by decide) (x_wi (by decide) x_wn)) x_wn (by decide) rfl (c173_75 j179  (by first | decide | omega) m339) (fun v336 h340 l337 q338 => ?_)
          obtain ⟨j341, f342, b343, c344, c345, c346⟩ := q338
          have f347 := Fr.trans f185 f342 (by decide)
          have b348 := jB (e := 7) 0 j341 rg_75_7_0_1 (by first | decide | omega) (by first | decide | omega)
          refine x_ifz (k := 0) (tg := 188) (np := 181) (by decide +kernel) (by decide) l337 (fun q349 => ?_) (fun q350 => ?_)
          · have q349 : v336 = 2147483648 := q349
            refine x_const (np := 189) (x := 9223372039002259456) (a := 2147483648) (by decide +kernel) (by decide) (by decide) ?_
            have q351 : h340 75 13 = h178 75 13 := jK 0 f342 rg_75_13_0_1 (by first | decide | omega) (by first | decide | omega) (by decide)
            have q352 : h178 75 13 = h143 75 13 := jK 0 f180 rg_75_13_0_1 (by first | decide | omega) (by first | decide | omega) (by decide)
            have q353 : h340 75 10 = h178 75 10 := jK 0 f342 rg_75_10_0_1 (by first | decide | omega) (by first | decide | omega) (by decide)
            have q354 : h178 75 10 = h143 75 10 := jK 0 f180 rg_75_10_0_1 (by first | decide | omega) (by first | decide | omega) (by decide)
            have q355 : h143 75 10 = h124 75 10 := jK 0 f145 rg_75_10_0_1 (by first | decide | omega) (by first | decide | omega) (by decide)
            have q356 : h124 75 10 = h37 75 10 := jK 0 f126 rg_75_10_0_1 (by first | decide | omega) (by first | decide | omega) (by decide)
            have q357 : h37 75 10 = h22 75 10 := jK 0 f39 rg_75_10_0_1 (by first | decide | omega) (by first | decide | omega) (by decide)
            have q358 : h22 75 10 = h7 75 10 := jK 0 f24 rg_75_10_0_1 (by first | decide | omega) (by first | decide | omega) (by decide)
            have q359 : h7 75 10 = h 75 10 := jK 0 f9 rg_75_10_0_1 (by first | decide | omega) (by first | decide | omega) (by decide)
            have q360 : h340 75 13 = h178 75 13 := jK 0 f342 rg_75_13_0_1 (by first | decide | omega) (by first | decide | omega) (by decide)
            have q361 : h178 75 13 = h143 75 13 := jK 0 f180 rg_75_13_0_1 (by first | decide | omega) (by first | decide | omega) (by decide)
            have k368 : Kp h h7 (h 75 13 - 2147483648) := Kp.fr Kp.refl f9 (by first | decide | omega) (by decide)
            have k367 : Kp h h22 (h 75 13 - 2147483648) := Kp.fr k368 f24 (by first | decide | omega) (by decide)
            have k366 : Kp h h37 (h 75 13 - 2147483648) := Kp.fr k367 f39 (by first | decide | omega) (by decide)
            have k365 : Kp h h124 (h 75 13 - 2147483648) := Kp.fr k366 f126 (by first | decide | omega) (by decide)
            have q369 : h124 75 13 = h37 75 13 := jK 0 f126 rg_75_13_0_1 (by first | decide | omega) (by first | decide | omega) (by decide)
            have q370 : h37 75 13 = h22 75 13 := jK 0 f39 rg_75_13_0_1 (by first | decide | omega) (by first | decide | omega) (by decide)
            have q371 : h22 75 13 = h7 75 13 := jK 0 f24 rg_75_13_0_1 (by first | decide | omega) (by first | decide | omega) (by decide)
            have q372 : h7 75 13 = h 75 13 := jK 0 f9 rg_75_13_0_1 (by first | decide | omega) (by first | decide | omega) (by decide)
            have k364 : Kp h h143 (h 75 13 - 2147483648) := Kp.trans k365 c150 (by first | decide | omega)
            have k363 : Kp h h178 (h 75 13 - 2147483648) := Kp.fr k364 f180 (by first | decide | omega) (by decide)
            have k362 : Kp h h340 (h 75 13 - 2147483648) := Kp.fr k363 f342 (by first | decide | omega) (by decide)
            obtain ⟨w373, e374⟩ := Tk.no c13 (by first | decide | omega)
            obtain ⟨w375, e376⟩ := Tk.no c28 (by first | decide | omega)
            obtain ⟨w377, e378⟩ := Tk.no c43 (by first | decide | omega)
            obtain ⟨w379, e380⟩ := Tk.no c130 (by first | decide | omega)
            have w381 : An tB tN (sk tB tN (h 75 7)) := gA_an w375 e374 w373 rfl w377 (Eq.trans e376 e374) w379 (Eq.trans e378 (Eq.trans e376 e374))
            obtain ⟨w382, e383⟩ := Tk.no c184 (by first | decide | omega)
            obtain ⟨w384, e385⟩ := Tk.no c346 (by first | decide | omega)
            refine x_retI (np := 190) (x := 0) (by decide +kernel) (by decide) (Or.inr ⟨by decide +kernel, by first | decide | omega, by first | decide | omega⟩) ⟨_, rfl, (by decide), ?_⟩
            exact ⟨j341, f347, (by first | decide | omega), (fun z => by first | decide | omega), (fun z => by first | decide | omega), (fun z => by first | decide | omega), (fun z => by first | decide | omega), k362, (fun z => absurd z (by first | decide | omega)), (gA_c1 w381 (c152 6) (Eq.trans e380 (Eq.trans e378 (Eq.trans e376 e374))) (by first | decide | omega) w382 rfl w384 (Eq.trans rfl (Eq.trans e383 rfl)) (by first | decide | omega))⟩
          have q350 : ¬ (v336 = 2147483648) := q350
          have b386 := c345 (by first | decide | omega)
          refine x_aload (np := 182) (x := 0) (by decide +kernel) rfl (x_nc_le (by decide)) ?_
          have q387 : h340 75 13 = h178 75 13 := jK 0 f342 rg_75_13_0_1 (by first | decide | omega) (by first | decide | omega) (by decide)
          have q388 : h178 75 13 = h143 75 13 := jK 0 f180 rg_75_13_0_1 (by first | decide | omega) (by first | decide | omega) (by decide)
          have m392 := Tq.fr m339 f342 (by decide) (by decide)
          refine x_cI (t := 6) (mj := 189) (n := 1) (rc := 12) (ml := 1) (nr := 0) (np := 185) (as := [x_r 75]) (rest := []) (lo1 := [x_r 75]) (by decide +kernel) (by decide) (by decide +kernel) (x_rb_of (by decide +kernel)) rfl rfl (x_wr (by decide) x_wn) x_wn (by decide) rfl (c189_75 j341  (by first | decide | omega) m392) (fun v389 h393 l390 q391 => ?_)
          obtain ⟨j394, f395, b396, c397, c398, c399, c400, c401, c402⟩ := q391
          have f403 := Fr.trans f347 f395 (by decide)
          have q404 : h340 75 13 = h178 75 13 := jK 0 f342 rg_75_13_0_1 (by first | decide | omega) (by first | decide | omega) (by decide)
          have q405 : h178 75 13 = h143 75 13 := jK 0 f180 rg_75_13_0_1 (by first | decide | omega) (by first | decide | omega) (by decide)
          have b406 := jB (e := 13) 0 j394 rg_75_13_0_1 (by first | decide | omega) (by first | decide | omega)
          have b407 := jB (e := 7) 0 j394 rg_75_7_0_1 (by first | decide | omega) (by first | decide | omega)
          have q408 : h340 75 13 = h178 75 13 := jK 0 f342 rg_75_13_0_1 (by first | decide | omega) (by first | decide | omega) (by decide)
          have q409 : h178 75 13 = h143 75 13 := jK 0 f180 rg_75_13_0_1 (by first | decide | omega) (by first | decide | omega) (by decide)
          refine x_ifz (k := 1) (tg := 190) (np := 188) (by decide +kernel) (by decide) l390 (fun q410 => ?_) (fun q411 => ?_)
          · have q410 : v389 ≠ 2147483648 := q410
            have b412 := c397 (by first | decide | omega)
            have b413 := c398 (by first | decide | omega)
            have b414 := c399 (by first | decide | omega)
            have s415 := c401 (by first | decide | omega)
            have q416 : h340 75 13 = h178 75 13 := jK 0 f342 rg_75_13_0_1 (by first | decide | omega) (by first | decide | omega) (by decide)
            have q417 : h178 75 13 = h143 75 13 := jK 0 f180 rg_75_13_0_1 (by first | decide | omega) (by first | decide | omega) (by decide)
            refine x_aload (np := 191) (x := 0) (by decide +kernel) rfl (x_nc_le (by decide)) ?_
            refine x_iload (np := 192) (x := 2) (by decide +kernel) rfl l175 ?_
            refine x_ifz (k := 0) (tg := 200) (np := 195) (by decide +kernel) (by decide) l175 (fun q418 => ?_) (fun q419 => ?_)
            · have q418 : v174 = 2147483648 := q418
              refine x_const (np := 202) (x := 9223372086246899723) (a := 2147483659) (by decide +kernel) (by decide) (by decide) ?_
              refine x_const (np := 203) (x := 9223372039002259456) (a := 2147483648) (by decide +kernel) (by decide) (by decide) ?_
              refine x_nV (t := 6) (mj := 187) (n := 3) (rc := 12) (ml := 3) (nr := 0) (np := 206) (as := [x_r 75, iv_c 2147483659, iv_c 2147483648]) (rest := []) (lo1 := [x_r 75, iv_c 2147483659, iv_c 2147483648]) (by decide +kernel) (by decide) (by decide +kernel) (x_rb_of (by decide +kernel)) rfl rfl (x_wr (by decide) (x_wi (by decide) (x_wi (by decide) x_wn))) x_wn (by decide) rfl ?_
              refine x_aload (np := 1) (x := 0) (by decide +kernel) rfl (x_nc_le (by decide)) ?_
              have q420 : h393 75 1 = 76 := by have z := jB (e := 1) 0 j394 rg_75_1_0_1 (by decide) (by decide); omega
              refine x_getR (np := 4) (x := 705) (f := 1) (q := 76) (by decide +kernel) (by decide) (by decide +kernel) q420 ?_
              refine x_const (np := 7) (x := 9223376986804585600) (a := 2147484800) (by decide +kernel) (by decide) (by decide) ?_
              refine x_const (np := 8) (x := 9223372047592194050) (a := 2147483650) (by decide +kernel) (by decide) (by decide) ?_
              refine x_aload (np := 9) (x := 0) (by decide +kernel) rfl (x_nc_le (by decide)) ?_
              refine x_getC (np := 12) (x := 717) (f := 13) (q := (h393 75 13)) (by decide +kernel) (by decide) (by decide +kernel) rfl (fun l421 => ?_)
              obtain ⟨u422, q423⟩ : ∃ z, (h393 75 13) = 2147483648 + z := ⟨(h393 75 13) - 2147483648, by first | decide | omega⟩
              refine x_imul (np := 13) (x := 0) (i := 2) (j := u422) (v := (2147483648 + 2 * u422)) (by decide +kernel) (by first | decide | omega) (by first | decide | omega) (by first | decide | omega) (by first | decide | omega) (by decide) l421 ?_
              refine x_iadd (np := 14) (x := 0) (v := (2147484800 + 2 * u422)) (by decide +kernel) (by decide) (by first | decide | omega) (by first | decide | omega) (by first | decide | omega) ?_
              refine x_iload (np := 15) (x := 1) (by decide +kernel) rfl (by decide) ?_
              refine x_ast (np := 16) (x := 0) (kd := 1) (n := 1952) (i := (1152 + 2 * u422)) (by decide +kernel) (Or.inl rfl) (by decide +kernel) (by first | decide | omega) (by first | decide | omega) (by decide) (by decide) (fun z => absurd z (by decide)) ?_
              have j426 := jU (e := (1152 + 2 * u422)) (v := 2147483659) u422 j394 rg_76_1152_2_395 (by first | decide | omega) (by first | decide | omega) (by first | decide | omega)
              have f428 := jF (e := (1152 + 2 * u422)) (v := 2147483659) u422 f403 rg_76_1152_2_395 (by first | decide | omega) (by first | decide | omega) (by decide)
              generalize e427 : x_up h393 76 (1152 + 2 * u422) 2147483659 = h425 at j426 f428 ⊢
              refine x_aload (np := 17) (x := 0) (by decide +kernel) rfl (x_nc_le (by decide)) ?_
              have q429 : h425 75 1 = 76 := by have z := jB (e := 1) 0 j426 rg_75_1_0_1 (by decide) (by decide); omega
              refine x_getR (np := 20) (x := 705) (f := 1) (q := 76) (by decide +kernel) (by decide) (by decide +kernel) q429 ?_
              refine x_const (np := 23) (x := 9223376986804585600) (a := 2147484800) (by decide +kernel) (by decide) (by decide) ?_
              refine x_const (np := 24) (x := 9223372047592194050) (a := 2147483650) (by decide +kernel) (by decide) (by decide) ?_
              refine x_aload (np := 25) (x := 0) (by decide +kernel) rfl (x_nc_le (by decide)) ?_
              have q430 : h425 75 13 = h393 75 13 := by rw [← e427]; exact x_up_k (by decide)
              refine x_getC (np := 28) (x := 717) (f := 13) (q := (h393 75 13)) (by decide +kernel) (by decide) (by decide +kernel) q430 (fun l431 => ?_)
              refine x_imul (np := 29) (x := 0) (i := 2) (j := u422) (v := (2147483648 + 2 * u422)) (by decide +kernel) (by first | decide | omega) (by first | decide | omega) (by first | decide | omega) (by first | decide | omega) (by decide) l421 ?_
              refine x_iadd (np := 30) (x := 0) (v := (2147484800 + 2 * u422)) (by decide +kernel) (by decide) (by first | decide | omega) (by first | decide | omega) (by first | decide | omega) ?_
              refine x_const (np := 31) (x := 9223372043297226753) (a := 2147483649) (by decide +kernel) (by decide) (by decide) ?_
              refine x_iadd (np := 32) (x := 0) (v := (2147484801 + 2 * u422)) (by decide +kernel) (by first | decide | omega) (by decide) (by first | decide | omega) (by first | decide | omega) ?_
              refine x_iload (np := 33) (x := 2) (by decide +kernel) rfl (by decide) ?_
              refine x_ast (np := 34) (x := 0) (kd := 1) (n := 1952) (i := (1153 + 2 * u422)) (by decide +kernel) (Or.inl rfl) (by decide +kernel) (by first | decide | omega) (by first | decide | omega) (by decide) (by decide) (fun z => absurd z (by decide)) ?_
              have j434 := jU (e := (1153 + 2 * u422)) (v := 2147483648) u422 j426 rg_76_1153_2_395 (by first | decide | omega) (by first | decide | omega) (by first | decide | omega)
              have f436 := jF (e := (1153 + 2 * u422)) (v := 2147483648) u422 f428 rg_76_1153_2_395 (by first | decide | omega) (by first | decide | omega) (by decide)
              generalize e435 : x_up h425 76 (1153 + 2 * u422) 2147483648 = h433 at j434 f436 ⊢
              refine x_aload (np := 35) (x := 0) (by decide +kernel) rfl (x_nc_le (by decide)) ?_
              refine x_dup (np := 36) (x := 0) (by decide +kernel) (by have z := x_nc_le (k := 75) (by decide); unfold x_r; omega) ?_
              have q437 : h433 75 13 = h425 75 13 := by rw [← e435]; exact x_up_k (by decide)
              have q438 : h425 75 13 = h393 75 13 := by rw [← e427]; exact x_up_k (by decide)
              refine x_getC (np := 39) (x := 717) (f := 13) (q := (h393 75 13)) (by decide +kernel) (by decide) (by decide +kernel) (q437.trans q438) (fun l439 => ?_)
              refine x_const (np := 40) (x := 9223372043297226753) (a := 2147483649) (by decide +kernel) (by decide) (by decide) ?_
              refine x_iadd (np := 41) (x := 0) (v := (1 + (h393 75 13))) (by decide +kernel) l421 (by decide) (by first | decide | omega) (by first | decide | omega) ?_
              refine x_putI (np := 44) (x := 717) (f := 13) (by decide +kernel) (by decide +kernel) (by first | decide | omega) (Or.inl (by decide)) ?_
              have j441 := jU (e := 13) (v := (1 + (h393 75 13))) 0 j434 rg_75_13_0_1 (by first | decide | omega) (by first | decide | omega) (by first | decide | omega)
              have f443 := jF (e := 13) (v := (1 + (h393 75 13))) 0 f436 rg_75_13_0_1 (by first | decide | omega) (by first | decide | omega) (by decide)
              generalize e442 : x_up h433 75 13 (1 + (h393 75 13)) = h440 at j441 f443 ⊢
              refine x_retV (np := 45) (x := 0) (by decide +kernel) (by decide +kernel) ⟨rfl, ?_⟩
              have q444 : h440 75 13 = (1 + (h393 75 13)) := by rw [← e442]; exact x_up_at
              refine x_const (np := 207) (x := 9223372043297226753) (a := 2147483649) (by decide +kernel) (by decide) (by decide) ?_
              have q445 : h440 75 13 = (1 + (h393 75 13)) := by rw [← e442]; exact x_up_at
              have q446 : h440 75 7 = h433 75 7 := by rw [← e442]; exact x_up_i (by first | decide | omega)
              have q447 : h433 75 7 = h425 75 7 := by rw [← e435]; exact x_up_k (by decide)
              have q448 : h425 75 7 = h393 75 7 := by rw [← e427]; exact x_up_k (by decide)
              have q449 : h440 75 10 = h433 75 10 := by rw [← e442]; exact x_up_i (by first | decide | omega)
              have q450 : h433 75 10 = h425 75 10 := by rw [← e435]; exact x_up_k (by decide)
              have q451 : h425 75 10 = h393 75 10 := by rw [← e427]; exact x_up_k (by decide)
              have q452 : h393 75 10 = h340 75 10 := jK 0 f395 rg_75_10_0_1 (by first | decide | omega) (by first | decide | omega) (by decide)
              have q453 : h340 75 10 = h178 75 10 := jK 0 f342 rg_75_10_0_1 (by first | decide | omega) (by first | decide | omega) (by decide)
              have q454 : h178 75 10 = h143 75 10 := jK 0 f180 rg_75_10_0_1 (by first | decide | omega) (by first | decide | omega) (by decide)
              have q455 : h143 75 10 = h124 75 10 := jK 0 f145 rg_75_10_0_1 (by first | decide | omega) (by first | decide | omega) (by decide)
              have q456 : h124 75 10 = h37 75 10 := jK 0 f126 rg_75_10_0_1 (by first | decide | omega) (by first | decide | omega) (by decide)
              have q457 : h37 75 10 = h22 75 10 := jK 0 f39 rg_75_10_0_1 (by first | decide | omega) (by first | decide | omega) (by decide)
              have q458 : h22 75 10 = h7 75 10 := jK 0 f24 rg_75_10_0_1 (by first | decide | omega) (by first | decide | omega) (by decide)
              have q459 : h7 75 10 = h 75 10 := jK 0 f9 rg_75_10_0_1 (by first | decide | omega) (by first | decide | omega) (by decide)
              have q460 : h440 75 7 = h433 75 7 := by rw [← e442]; exact x_up_i (by first | decide | omega)
              have q461 : h433 75 7 = h425 75 7 := by rw [← e435]; exact x_up_k (by decide)
              have q462 : h425 75 7 = h393 75 7 := by rw [← e427]; exact x_up_k (by decide)
              have q463 : h440 75 13 = (1 + (h393 75 13)) := by rw [← e442]; exact x_up_at
              have k474 : Kp h h7 (h 75 13 - 2147483648) := Kp.fr Kp.refl f9 (by first | decide | omega) (by decide)
              have k473 : Kp h h22 (h 75 13 - 2147483648) := Kp.fr k474 f24 (by first | decide | omega) (by decide)
              have k472 : Kp h h37 (h 75 13 - 2147483648) := Kp.fr k473 f39 (by first | decide | omega) (by decide)
              have k471 : Kp h h124 (h 75 13 - 2147483648) := Kp.fr k472 f126 (by first | decide | omega) (by decide)
              have q475 : h124 75 13 = h37 75 13 := jK 0 f126 rg_75_13_0_1 (by first | decide | omega) (by first | decide | omega) (by decide)
              have q476 : h37 75 13 = h22 75 13 := jK 0 f39 rg_75_13_0_1 (by first | decide | omega) (by first | decide | omega) (by decide)
              have q477 : h22 75 13 = h7 75 13 := jK 0 f24 rg_75_13_0_1 (by first | decide | omega) (by first | decide | omega) (by decide)
              have q478 : h7 75 13 = h 75 13 := jK 0 f9 rg_75_13_0_1 (by first | decide | omega) (by first | decide | omega) (by decide)
              have k470 : Kp h h143 (h 75 13 - 2147483648) := Kp.trans k471 c150 (by first | decide | omega)
              have k469 : Kp h h178 (h 75 13 - 2147483648) := Kp.fr k470 f180 (by first | decide | omega) (by decide)
              have k468 : Kp h h340 (h 75 13 - 2147483648) := Kp.fr k469 f342 (by first | decide | omega) (by decide)
              have q479 : h340 75 13 = h178 75 13 := jK 0 f342 rg_75_13_0_1 (by first | decide | omega) (by first | decide | omega) (by decide)
              have q480 : h178 75 13 = h143 75 13 := jK 0 f180 rg_75_13_0_1 (by first | decide | omega) (by first | decide | omega) (by decide)
              have k467 : Kp h h393 (h 75 13 - 2147483648) := Kp.trans k468 c400 (by first | decide | omega)
              have k466 : Kp h h425 (h 75 13 - 2147483648) := by rw [← e427]; exact Kp.up k467 (by first | decide | omega) (fun i hi => by first | decide | omega)
              have k465 : Kp h h433 (h 75 13 - 2147483648) := by rw [← e435]; exact Kp.up k466 (by first | decide | omega) (fun i hi => by first | decide | omega)
              have k464 : Kp h h440 (h 75 13 - 2147483648) := by rw [← e442]; exact Kp.oth k465 (by decide)
              have q481 : h440 75 13 = (1 + (h393 75 13)) := by rw [← e442]; exact x_up_at
              have q483 : h440 76 (1152 + 2 * u422) = h433 76 (1152 + 2 * u422) := by rw [← e442]; exact x_up_k (by decide)
              have q484 : h433 76 (1152 + 2 * u422) = h425 76 (1152 + 2 * u422) := by rw [← e435]; exact x_up_i (by first | decide | omega)
              have q485 : h425 76 (1152 + 2 * u422) = 2147483659 := by rw [← e427]; exact x_up_at
              have k491 : Kp h143 h178 (h143 75 13 - 2147483648) := Kp.fr Kp.refl f180 (by first | decide | omega) (by decide)
              have k490 : Kp h143 h340 (h143 75 13 - 2147483648) := Kp.fr k491 f342 (by first | decide | omega) (by decide)
              have q492 : h340 75 13 = h178 75 13 := jK 0 f342 rg_75_13_0_1 (by first | decide | omega) (by first | decide | omega) (by decide)
              have q493 : h178 75 13 = h143 75 13 := jK 0 f180 rg_75_13_0_1 (by first | decide | omega) (by first | decide | omega) (by decide)
              have k489 : Kp h143 h393 (h143 75 13 - 2147483648) := Kp.trans k490 c400 (by first | decide | omega)
              have k488 : Kp h143 h425 (h143 75 13 - 2147483648) := by rw [← e427]; exact Kp.up k489 (by first | decide | omega) (fun i hi => by first | decide | omega)
              have k487 : Kp h143 h433 (h143 75 13 - 2147483648) := by rw [← e435]; exact Kp.up k488 (by first | decide | omega) (fun i hi => by first | decide | omega)
              have k486 : Kp h143 h440 (h143 75 13 - 2147483648) := by rw [← e442]; exact Kp.oth k487 (by decide)
              have k496 : Kp h393 h425 (h393 75 13 - 2147483648) := by rw [← e427]; exact Kp.up Kp.refl (by first | decide | omega) (fun i hi => by first | decide | omega)
              have k495 : Kp h393 h433 (h393 75 13 - 2147483648) := by rw [← e435]; exact Kp.up k496 (by first | decide | omega) (fun i hi => by first | decide | omega)
              have k494 : Kp h393 h440 (h393 75 13 - 2147483648) := by rw [← e442]; exact Kp.oth k495 (by decide)
              have s482 : Seg (sg h440) (h124 75 13 - 2147483648) (u422 + 1) := Seg.bin (Seg.kp s169 k486) (Seg.cast (a' := (h143 75 13 - 2147483648)) (b' := u422) (Seg.kp s415 k494) (by first | decide | omega) (by first | decide | omega)) (show 2147483656 < h440 76 (1152 + 2 * u422) by first | decide | omega) (show h440 76 (1152 + 2 * u422) ≠ 2147483660 by first | decide | omega)
              have s497 : Seg (sg h440) (h 75 13 - 2147483648) (h440 75 13 - 2147483648) := Seg.cast (Seg.kp s482 Kp.refl) (by first | decide | omega) (by first | decide | omega)
              obtain ⟨w498, e499⟩ := Tk.no c13 (by first | decide | omega)
              obtain ⟨w500, e501⟩ := Tk.no c28 (by first | decide | omega)
              obtain ⟨w502, e503⟩ := Tk.no c43 (by first | decide | omega)
              obtain ⟨w504, e505⟩ := Tk.no c130 (by first | decide | omega)
              have w506 : An tB tN (sk tB tN (h 75 7)) := gA_an w500 e499 w498 rfl w502 (Eq.trans e501 e499) w504 (Eq.trans e503 (Eq.trans e501 e499))
              obtain ⟨w507, e508⟩ := Tk.no c184 (by first | decide | omega)
              obtain ⟨w509, e510⟩ := Tk.yes c346 (by first | decide | omega)
              have q511 : h440 75 7 = h433 75 7 := by rw [← e442]; exact x_up_i (by first | decide | omega)
              have q512 : h433 75 7 = h425 75 7 := by rw [← e435]; exact x_up_k (by decide)
              have q513 : h425 75 7 = h393 75 7 := by rw [← e427]; exact x_up_k (by decide)
              refine x_retI (np := 208) (x := 0) (by decide +kernel) (by decide) (Or.inr ⟨by decide +kernel, by first | decide | omega, by first | decide | omega⟩) ⟨_, rfl, (by decide), ?_⟩
              exact ⟨j441, f443, (by first | decide | omega), (fun z => by first | decide | omega), (fun z => by first | decide | omega), (fun z => by first | decide | omega), (fun z => by first | decide | omega), k464, (fun _ => s497), (gA_c2 w506 (c152 6) (Eq.trans e505 (Eq.trans e503 (Eq.trans e501 e499))) (by first | decide | omega) (Or.inr w509) (Eq.trans rfl (Eq.trans e508 rfl)) e510 (c402 6) rfl (by first | decide | omega) (fun z => (congrArg (sk tB tN) (show h393 75 7 = h440 75 7 by first | decide | omega))))⟩
            have q419 : ¬ (v174 = 2147483648) := q419
            exfalso; omega
          have q411 : ¬ (v389 ≠ 2147483648) := q411
          refine x_const (np := 189) (x := 9223372039002259456) (a := 2147483648) (by decide +kernel) (by decide) (by decide) ?_
          have q514 : h393 75 10 = h340 75 10 := jK 0 f395 rg_75_10_0_1 (by first | decide | omega) (by first | decide | omega) (by decide)
          have q515 : h340 75 10 = h178 75 10 := jK 0 f342 rg_75_10_0_1 (by first | decide | omega) (by first | decide | omega) (by decide)
          have q516 : h178 75 10 = h143 75 10 := jK 0 f180 rg_75_10_0_1 (by first | decide | omega) (by first | decide | omega) (by decide)
          have q517 : h143 75 10 = h124 75 10 := jK 0 f145 rg_75_10_0_1 (by first | decide | omega) (by first | decide | omega) (by decide)
          have q518 : h124 75 10 = h37 75 10 := jK 0 f126 rg_75_10_0_1 (by first | decide | omega) (by first | decide | omega) (by decide)
          have q519 : h37 75 10 = h22 75 10 := jK 0 f39 rg_75_10_0_1 (by first | decide | omega) (by first | decide | omega) (by decide)
          have q520 : h22 75 10 = h7 75 10 := jK 0 f24 rg_75_10_0_1 (by first | decide | omega) (by first | decide | omega) (by decide)
          have q521 : h7 75 10 = h 75 10 := jK 0 f9 rg_75_10_0_1 (by first | decide | omega) (by first | decide | omega) (by decide)
          have k529 : Kp h h7 (h 75 13 - 2147483648) := Kp.fr Kp.refl f9 (by first | decide | omega) (by decide)
          have k528 : Kp h h22 (h 75 13 - 2147483648) := Kp.fr k529 f24 (by first | decide | omega) (by decide)
          have k527 : Kp h h37 (h 75 13 - 2147483648) := Kp.fr k528 f39 (by first | decide | omega) (by decide)
          have k526 : Kp h h124 (h 75 13 - 2147483648) := Kp.fr k527 f126 (by first | decide | omega) (by decide)
          have q530 : h124 75 13 = h37 75 13 := jK 0 f126 rg_75_13_0_1 (by first | decide | omega) (by first | decide | omega) (by decide)
          have q531 : h37 75 13 = h22 75 13 := jK 0 f39 rg_75_13_0_1 (by first | decide | omega) (by first | decide | omega) (by decide)
          have q532 : h22 75 13 = h7 75 13 := jK 0 f24 rg_75_13_0_1 (by first | decide | omega) (by first | decide | omega) (by decide)
          have q533 : h7 75 13 = h 75 13 := jK 0 f9 rg_75_13_0_1 (by first | decide | omega) (by first | decide | omega) (by decide)
          have k525 : Kp h h143 (h 75 13 - 2147483648) := Kp.trans k526 c150 (by first | decide | omega)
          have k524 : Kp h h178 (h 75 13 - 2147483648) := Kp.fr k525 f180 (by first | decide | omega) (by decide)
          have k523 : Kp h h340 (h 75 13 - 2147483648) := Kp.fr k524 f342 (by first | decide | omega) (by decide)
          have q534 : h340 75 13 = h178 75 13 := jK 0 f342 rg_75_13_0_1 (by first | decide | omega) (by first | decide | omega) (by decide)
          have q535 : h178 75 13 = h143 75 13 := jK 0 f180 rg_75_13_0_1 (by first | decide | omega) (by first | decide | omega) (by decide)
          have k522 : Kp h h393 (h 75 13 - 2147483648) := Kp.trans k523 c400 (by first | decide | omega)
          obtain ⟨w536, e537⟩ := Tk.no c13 (by first | decide | omega)
          obtain ⟨w538, e539⟩ := Tk.no c28 (by first | decide | omega)
          obtain ⟨w540, e541⟩ := Tk.no c43 (by first | decide | omega)
          obtain ⟨w542, e543⟩ := Tk.no c130 (by first | decide | omega)
          have w544 : An tB tN (sk tB tN (h 75 7)) := gA_an w538 e537 w536 rfl w540 (Eq.trans e539 e537) w542 (Eq.trans e541 (Eq.trans e539 e537))
          obtain ⟨w545, e546⟩ := Tk.no c184 (by first | decide | omega)
          obtain ⟨w547, e548⟩ := Tk.yes c346 (by first | decide | omega)
          refine x_retI (np := 190) (x := 0) (by decide +kernel) (by decide) (Or.inr ⟨by decide +kernel, by first | decide | omega, by first | decide | omega⟩) ⟨_, rfl, (by decide), ?_⟩
          exact ⟨j394, f403, (by first | decide | omega), (fun z => by first | decide | omega), (fun z => by first | decide | omega), (fun z => by first | decide | omega), (fun z => by first | decide | omega), k522, (fun z => absurd z (by first | decide | omega)), (gA_c2 w544 (c152 6) (Eq.trans e543 (Eq.trans e541 (Eq.trans e539 e537))) (by first | decide | omega) (Or.inr w547) (Eq.trans rfl (Eq.trans e546 rfl)) e548 (c402 6) rfl (by first | decide | omega) (fun z => absurd z (by first | decide | omega)))⟩
        have q165 : ¬ (v139 ≠ 2147483648) := q165
        refine x_const (np := 160) (x := 9223372039002259456) (a := 2147483648) (by decide +kernel) (by decide) (by decide) ?_
        have q549 : h143 75 10 = h124 75 10 := jK 0 f145 rg_75_10_0_1 (by first | decide | omega) (by first | decide | omega) (by decide)
        have q550 : h124 75 10 = h37 75 10 := jK 0 f126 rg_75_10_0_1 (by first | decide | omega) (by first | decide | omega) (by decide)
        have q551 : h37 75 10 = h22 75 10 := jK 0 f39 rg_75_10_0_1 (by first | decide | omega) (by first | decide | omega) (by decide)
        have q552 : h22 75 10 = h7 75 10 := jK 0 f24 rg_75_10_0_1 (by first | decide | omega) (by first | decide | omega) (by decide)
        have q553 : h7 75 10 = h 75 10 := jK 0 f9 rg_75_10_0_1 (by first | decide | omega) (by first | decide | omega) (by decide)
        have k558 : Kp h h7 (h 75 13 - 2147483648) := Kp.fr Kp.refl f9 (by first | decide | omega) (by decide)
        have k557 : Kp h h22 (h 75 13 - 2147483648) := Kp.fr k558 f24 (by first | decide | omega) (by decide)
        have k556 : Kp h h37 (h 75 13 - 2147483648) := Kp.fr k557 f39 (by first | decide | omega) (by decide)
        have k555 : Kp h h124 (h 75 13 - 2147483648) := Kp.fr k556 f126 (by first | decide | omega) (by decide)
        have q559 : h124 75 13 = h37 75 13 := jK 0 f126 rg_75_13_0_1 (by first | decide | omega) (by first | decide | omega) (by decide)
        have q560 : h37 75 13 = h22 75 13 := jK 0 f39 rg_75_13_0_1 (by first | decide | omega) (by first | decide | omega) (by decide)
        have q561 : h22 75 13 = h7 75 13 := jK 0 f24 rg_75_13_0_1 (by first | decide | omega) (by first | decide | omega) (by decide)
        have q562 : h7 75 13 = h 75 13 := jK 0 f9 rg_75_13_0_1 (by first | decide | omega) (by first | decide | omega) (by decide)
        have k554 : Kp h h143 (h 75 13 - 2147483648) := Kp.trans k555 c150 (by first | decide | omega)
        obtain ⟨w563, e564⟩ := Tk.no c13 (by first | decide | omega)
        obtain ⟨w565, e566⟩ := Tk.no c28 (by first | decide | omega)
        obtain ⟨w567, e568⟩ := Tk.no c43 (by first | decide | omega)
        obtain ⟨w569, e570⟩ := Tk.no c130 (by first | decide | omega)
        have w571 : An tB tN (sk tB tN (h 75 7)) := gA_an w565 e564 w563 rfl w567 (Eq.trans e566 e564) w569 (Eq.trans e568 (Eq.trans e566 e564))
        refine x_retI (np := 161) (x := 0) (by decide +kernel) (by decide) (Or.inr ⟨by decide +kernel, by first | decide | omega, by first | decide | omega⟩) ⟨_, rfl, (by decide), ?_⟩
        exact ⟨j144, f153, (by first | decide | omega), (fun z => by first | decide | omega), (fun z => by first | decide | omega), (fun z => by first | decide | omega), (fun z => by first | decide | omega), k554, (fun z => absurd z (by first | decide | omega)), (gA_c0 w571 (c152 6) (Eq.trans e570 (Eq.trans e568 (Eq.trans e566 e564))) (by first | decide | omega) (by first | decide | omega))⟩
      have q134 : ¬ (v120 = 2147483648) := q134
      have b572 := c129 (by first | decide | omega)
      refine x_aload (np := 135) (x := 0) (by decide +kernel) rfl (x_nc_le (by decide)) ?_
      refine x_iload (np := 136) (x := 1) (by decide +kernel) rfl l34 ?_
      refine x_ifz (k := 0) (tg := 144) (np := 139) (by decide +kernel) (by decide) l34 (fun q573 => ?_) (fun q574 => ?_)
      · have q573 : v33 = 2147483648 := q573
        refine x_const (np := 146) (x := 9223372069067030535) (a := 2147483655) (by decide +kernel) (by decide) (by decide) ?_
        refine x_const (np := 147) (x := 9223372039002259456) (a := 2147483648) (by decide +kernel) (by decide) (by decide) ?_
        refine x_nV (t := 6) (mj := 187) (n := 3) (rc := 12) (ml := 3) (nr := 0) (np := 150) (as := [x_r 75, iv_c 2147483655, iv_c 2147483648]) (rest := []) (lo1 := [x_r 75, iv_c 2147483655, iv_c 2147483648]) (by decide +kernel) (by decide) (by decide +kernel) (x_rb_of (by decide +kernel)) rfl rfl (x_wr (by decide) (x_wi (by decide) (x_wi (by decide) x_wn))) x_wn (by decide) rfl ?_
        refine x_aload (np := 1) (x := 0) (by decide +kernel) rfl (x_nc_le (by decide)) ?_
        have q575 : h124 75 1 = 76 := by have z := jB (e := 1) 0 j125 rg_75_1_0_1 (by decide) (by decide); omega
        refine x_getR (np := 4) (x := 705) (f := 1) (q := 76) (by decide +kernel) (by decide) (by decide +kernel) q575 ?_
        refine x_const (np := 7) (x := 9223376986804585600) (a := 2147484800) (by decide +kernel) (by decide) (by decide) ?_
        refine x_const (np := 8) (x := 9223372047592194050) (a := 2147483650) (by decide +kernel) (by decide) (by decide) ?_
        refine x_aload (np := 9) (x := 0) (by decide +kernel) rfl (x_nc_le (by decide)) ?_
        have q576 : h124 75 13 = h37 75 13 := jK 0 f126 rg_75_13_0_1 (by first | decide | omega) (by first | decide | omega) (by decide)
        have q577 : h37 75 13 = h22 75 13 := jK 0 f39 rg_75_13_0_1 (by first | decide | omega) (by first | decide | omega) (by decide)
        have q578 : h22 75 13 = h7 75 13 := jK 0 f24 rg_75_13_0_1 (by first | decide | omega) (by first | decide | omega) (by decide)
        have q579 : h7 75 13 = h 75 13 := jK 0 f9 rg_75_13_0_1 (by first | decide | omega) (by first | decide | omega) (by decide)
        refine x_getC (np := 12) (x := 717) (f := 13) (q := (h 75 13)) (by decide +kernel) (by decide) (by decide +kernel) (((q576.trans q577).trans q578).trans q579) (fun l580 => ?_)
        obtain ⟨u581, q582⟩ : ∃ z, (h 75 13) = 2147483648 + z := ⟨(h 75 13) - 2147483648, by first | decide | omega⟩
        refine x_imul (np := 13) (x := 0) (i := 2) (j := u581) (v := (2147483648 + 2 * u581)) (by decide +kernel) (by first | decide | omega) (by first | decide | omega) (by first | decide | omega) (by first | decide | omega) (by decide) l580 ?_
        refine x_iadd (np := 14) (x := 0) (v := (2147484800 + 2 * u581)) (by decide +kernel) (by decide) (by first | decide | omega) (by first | decide | omega) (by first | decide | omega) ?_
        refine x_iload (np := 15) (x := 1) (by decide +kernel) rfl (by decide) ?_
        refine x_ast (np := 16) (x := 0) (kd := 1) (n := 1952) (i := (1152 + 2 * u581)) (by decide +kernel) (Or.inl rfl) (by decide +kernel) (by first | decide | omega) (by first | decide | omega) (by decide) (by decide) (fun z => absurd z (by decide)) ?_
        have j585 := jU (e := (1152 + 2 * u581)) (v := 2147483655) u581 j125 rg_76_1152_2_394 (by first | decide | omega) (by first | decide | omega) (by first | decide | omega)
        have f587 := jF (e := (1152 + 2 * u581)) (v := 2147483655) u581 f131 rg_76_1152_2_394 (by first | decide | omega) (by first | decide | omega) (by decide)
        generalize e586 : x_up h124 76 (1152 + 2 * u581) 2147483655 = h584 at j585 f587 ⊢
        refine x_aload (np := 17) (x := 0) (by decide +kernel) rfl (x_nc_le (by decide)) ?_
        have q588 : h584 75 1 = 76 := by have z := jB (e := 1) 0 j585 rg_75_1_0_1 (by decide) (by decide); omega
        refine x_getR (np := 20) (x := 705) (f := 1) (q := 76) (by decide +kernel) (by decide) (by decide +kernel) q588 ?_
        refine x_const (np := 23) (x := 9223376986804585600) (a := 2147484800) (by decide +kernel) (by decide) (by decide) ?_
        refine x_const (np := 24) (x := 9223372047592194050) (a := 2147483650) (by decide +kernel) (by decide) (by decide) ?_
        refine x_aload (np := 25) (x := 0) (by decide +kernel) rfl (x_nc_le (by decide)) ?_
        have q589 : h584 75 13 = h124 75 13 := by rw [← e586]; exact x_up_k (by decide)
        have q590 : h124 75 13 = h37 75 13 := jK 0 f126 rg_75_13_0_1 (by first | decide | omega) (by first | decide | omega) (by decide)
        have q591 : h37 75 13 = h22 75 13 := jK 0 f39 rg_75_13_0_1 (by first | decide | omega) (by first | decide | omega) (by decide)
        have q592 : h22 75 13 = h7 75 13 := jK 0 f24 rg_75_13_0_1 (by first | decide | omega) (by first | decide | omega) (by decide)
        have q593 : h7 75 13 = h 75 13 := jK 0 f9 rg_75_13_0_1 (by first | decide | omega) (by first | decide | omega) (by decide)
        refine x_getC (np := 28) (x := 717) (f := 13) (q := (h 75 13)) (by decide +kernel) (by decide) (by decide +kernel) ((((q589.trans q590).trans q591).trans q592).trans q593) (fun l594 => ?_)
        refine x_imul (np := 29) (x := 0) (i := 2) (j := u581) (v := (2147483648 + 2 * u581)) (by decide +kernel) (by first | decide | omega) (by first | decide | omega) (by first | decide | omega) (by first | decide | omega) (by decide) l580 ?_
        refine x_iadd (np := 30) (x := 0) (v := (2147484800 + 2 * u581)) (by decide +kernel) (by decide) (by first | decide | omega) (by first | decide | omega) (by first | decide | omega) ?_
        refine x_const (np := 31) (x := 9223372043297226753) (a := 2147483649) (by decide +kernel) (by decide) (by decide) ?_
        refine x_iadd (np := 32) (x := 0) (v := (2147484801 + 2 * u581)) (by decide +kernel) (by first | decide | omega) (by decide) (by first | decide | omega) (by first | decide | omega) ?_
        refine x_iload (np := 33) (x := 2) (by decide +kernel) rfl (by decide) ?_
        refine x_ast (np := 34) (x := 0) (kd := 1) (n := 1952) (i := (1153 + 2 * u581)) (by decide +kernel) (Or.inl rfl) (by decide +kernel) (by first | decide | omega) (by first | decide | omega) (by decide) (by decide) (fun z => absurd z (by decide)) ?_
        have j597 := jU (e := (1153 + 2 * u581)) (v := 2147483648) u581 j585 rg_76_1153_2_394 (by first | decide | omega) (by first | decide | omega) (by first | decide | omega)
        have f599 := jF (e := (1153 + 2 * u581)) (v := 2147483648) u581 f587 rg_76_1153_2_394 (by first | decide | omega) (by first | decide | omega) (by decide)
        generalize e598 : x_up h584 76 (1153 + 2 * u581) 2147483648 = h596 at j597 f599 ⊢
        refine x_aload (np := 35) (x := 0) (by decide +kernel) rfl (x_nc_le (by decide)) ?_
        refine x_dup (np := 36) (x := 0) (by decide +kernel) (by have z := x_nc_le (k := 75) (by decide); unfold x_r; omega) ?_
        have q600 : h596 75 13 = h584 75 13 := by rw [← e598]; exact x_up_k (by decide)
        have q601 : h584 75 13 = h124 75 13 := by rw [← e586]; exact x_up_k (by decide)
        have q602 : h124 75 13 = h37 75 13 := jK 0 f126 rg_75_13_0_1 (by first | decide | omega) (by first | decide | omega) (by decide)
        have q603 : h37 75 13 = h22 75 13 := jK 0 f39 rg_75_13_0_1 (by first | decide | omega) (by first | decide | omega) (by decide)
        have q604 : h22 75 13 = h7 75 13 := jK 0 f24 rg_75_13_0_1 (by first | decide | omega) (by first | decide | omega) (by decide)
        have q605 : h7 75 13 = h 75 13 := jK 0 f9 rg_75_13_0_1 (by first | decide | omega) (by first | decide | omega) (by decide)
        refine x_getC (np := 39) (x := 717) (f := 13) (q := (h 75 13)) (by decide +kernel) (by decide) (by decide +kernel) (((((q600.trans q601).trans q602).trans q603).trans q604).trans q605) (fun l606 => ?_)
        refine x_const (np := 40) (x := 9223372043297226753) (a := 2147483649) (by decide +kernel) (by decide) (by decide) ?_
        refine x_iadd (np := 41) (x := 0) (v := (1 + (h 75 13))) (by decide +kernel) l580 (by decide) (by first | decide | omega) (by first | decide | omega) ?_
        refine x_putI (np := 44) (x := 717) (f := 13) (by decide +kernel) (by decide +kernel) (by first | decide | omega) (Or.inl (by decide)) ?_
        have j608 := jU (e := 13) (v := (1 + (h 75 13))) 0 j597 rg_75_13_0_1 (by first | decide | omega) (by first | decide | omega) (by first | decide | omega)
        have f610 := jF (e := 13) (v := (1 + (h 75 13))) 0 f599 rg_75_13_0_1 (by first | decide | omega) (by first | decide | omega) (by decide)
        generalize e609 : x_up h596 75 13 (1 + (h 75 13)) = h607 at j608 f610 ⊢
        refine x_retV (np := 45) (x := 0) (by decide +kernel) (by decide +kernel) ⟨rfl, ?_⟩
        have q611 : h607 75 13 = (1 + (h 75 13)) := by rw [← e609]; exact x_up_at
        refine x_const (np := 151) (x := 9223372043297226753) (a := 2147483649) (by decide +kernel) (by decide) (by decide) ?_
        have q612 : h607 75 13 = (1 + (h 75 13)) := by rw [← e609]; exact x_up_at
        have q613 : h607 75 7 = h596 75 7 := by rw [← e609]; exact x_up_i (by first | decide | omega)
        have q614 : h596 75 7 = h584 75 7 := by rw [← e598]; exact x_up_k (by decide)
        have q615 : h584 75 7 = h124 75 7 := by rw [← e586]; exact x_up_k (by decide)
        have q616 : h607 75 10 = h596 75 10 := by rw [← e609]; exact x_up_i (by first | decide | omega)
        have q617 : h596 75 10 = h584 75 10 := by rw [← e598]; exact x_up_k (by decide)
        have q618 : h584 75 10 = h124 75 10 := by rw [← e586]; exact x_up_k (by decide)
        have q619 : h124 75 10 = h37 75 10 := jK 0 f126 rg_75_10_0_1 (by first | decide | omega) (by first | decide | omega) (by decide)
        have q620 : h37 75 10 = h22 75 10 := jK 0 f39 rg_75_10_0_1 (by first | decide | omega) (by first | decide | omega) (by decide)
        have q621 : h22 75 10 = h7 75 10 := jK 0 f24 rg_75_10_0_1 (by first | decide | omega) (by first | decide | omega) (by decide)
        have q622 : h7 75 10 = h 75 10 := jK 0 f9 rg_75_10_0_1 (by first | decide | omega) (by first | decide | omega) (by decide)
        have q623 : h607 75 7 = h596 75 7 := by rw [← e609]; exact x_up_i (by first | decide | omega)
        have q624 : h596 75 7 = h584 75 7 := by rw [← e598]; exact x_up_k (by decide)
        have q625 : h584 75 7 = h124 75 7 := by rw [← e586]; exact x_up_k (by decide)
        have q626 : h607 75 13 = (1 + (h 75 13)) := by rw [← e609]; exact x_up_at
        have k633 : Kp h h7 (h 75 13 - 2147483648) := Kp.fr Kp.refl f9 (by first | decide | omega) (by decide)
        have k632 : Kp h h22 (h 75 13 - 2147483648) := Kp.fr k633 f24 (by first | decide | omega) (by decide)
        have k631 : Kp h h37 (h 75 13 - 2147483648) := Kp.fr k632 f39 (by first | decide | omega) (by decide)
        have k630 : Kp h h124 (h 75 13 - 2147483648) := Kp.fr k631 f126 (by first | decide | omega) (by decide)
        have k629 : Kp h h584 (h 75 13 - 2147483648) := by rw [← e586]; exact Kp.up k630 (by first | decide | omega) (fun i hi => by first | decide | omega)
        have k628 : Kp h h596 (h 75 13 - 2147483648) := by rw [← e598]; exact Kp.up k629 (by first | decide | omega) (fun i hi => by first | decide | omega)
        have k627 : Kp h h607 (h 75 13 - 2147483648) := by rw [← e609]; exact Kp.oth k628 (by decide)
        have q634 : h607 75 13 = (1 + (h 75 13)) := by rw [← e609]; exact x_up_at
        have q636 : h607 76 (1152 + 2 * u581) = h596 76 (1152 + 2 * u581) := by rw [← e609]; exact x_up_k (by decide)
        have q637 : h596 76 (1152 + 2 * u581) = h584 76 (1152 + 2 * u581) := by rw [← e598]; exact x_up_i (by first | decide | omega)
        have q638 : h584 76 (1152 + 2 * u581) = 2147483655 := by rw [← e586]; exact x_up_at
        have s635 : Seg (sg h607) u581 (u581 + 1) := Seg.push (show 2147483648 ≤ h607 76 (1152 + 2 * u581) by first | decide | omega) (show h607 76 (1152 + 2 * u581) ≤ 2147483656 by first | decide | omega)
        have s639 : Seg (sg h607) (h 75 13 - 2147483648) (h607 75 13 - 2147483648) := Seg.cast (Seg.kp s635 Kp.refl) (by first | decide | omega) (by first | decide | omega)
        obtain ⟨w640, e641⟩ := Tk.no c13 (by first | decide | omega)
        obtain ⟨w642, e643⟩ := Tk.no c28 (by first | decide | omega)
        obtain ⟨w644, e645⟩ := Tk.no c43 (by first | decide | omega)
        obtain ⟨w646, e647⟩ := Tk.yes c130 (by first | decide | omega)
        have q648 : h607 75 7 = h596 75 7 := by rw [← e609]; exact x_up_i (by first | decide | omega)
        have q649 : h596 75 7 = h584 75 7 := by rw [← e598]; exact x_up_k (by decide)
        have q650 : h584 75 7 = h124 75 7 := by rw [← e586]; exact x_up_k (by decide)
        refine x_retI (np := 152) (x := 0) (by decide +kernel) (by decide) (Or.inr ⟨by decide +kernel, by first | decide | omega, by first | decide | omega⟩) ⟨_, rfl, (by decide), ?_⟩
        exact ⟨j608, f610, (by first | decide | omega), (fun z => by first | decide | omega), (fun z => by first | decide | omega), (fun z => by first | decide | omega), (fun z => by first | decide | omega), k627, (fun _ => s639), (gA_mine w646 (Eq.trans e645 (Eq.trans e643 e641)) e647 (by first | decide | omega) (congrArg (sk tB tN) (show h124 75 7 = h607 75 7 by first | decide | omega)))⟩
      have q574 : ¬ (v33 = 2147483648) := q574
      exfalso; omega
    have q32 : ¬ (v18 = 2147483648) := q32
    have b651 := c27 (by first | decide | omega)
    refine x_aload (np := 66) (x := 0) (by decide +kernel) rfl (x_nc_le (by decide)) ?_
    have q652 : h22 75 10 = h7 75 10 := jK 0 f24 rg_75_10_0_1 (by first | decide | omega) (by first | decide | omega) (by decide)
    have q653 : h7 75 10 = h 75 10 := jK 0 f9 rg_75_10_0_1 (by first | decide | omega) (by first | decide | omega) (by decide)
    refine x_getC (np := 69) (x := 714) (f := 10) (q := (h 75 10)) (by decide +kernel) (by decide) (by decide +kernel) (q652.trans q653) (fun l654 => ?_)
    refine x_const (np := 71) (x := 9223372064772063238) (a := 2147483654) (by decide +kernel) (by decide) (by decide) ?_
    refine x_icmp (k := 1) (tg := 76) (np := 74) (by decide +kernel) (by decide) l654 (by decide) (fun q655 => ?_) (fun q656 => ?_)
    · have q655 : (h 75 10) ≠ 2147483654 := q655
      exfalso; omega
    have q656 : ¬ ((h 75 10) ≠ 2147483654) := q656
    refine x_const (np := 75) (x := 9223372039002259456) (a := 2147483648) (by decide +kernel) (by decide) (by decide) ?_
    have q657 : h22 75 13 = h7 75 13 := jK 0 f24 rg_75_13_0_1 (by first | decide | omega) (by first | decide | omega) (by decide)
    have q658 : h7 75 13 = h 75 13 := jK 0 f9 rg_75_13_0_1 (by first | decide | omega) (by first | decide | omega) (by decide)
    have q659 : h22 75 10 = h7 75 10 := jK 0 f24 rg_75_10_0_1 (by first | decide | omega) (by first | decide | omega) (by decide)
    have q660 : h7 75 10 = h 75 10 := jK 0 f9 rg_75_10_0_1 (by first | decide | omega) (by first | decide | omega) (by decide)
    have q661 : h22 75 13 = h7 75 13 := jK 0 f24 rg_75_13_0_1 (by first | decide | omega) (by first | decide | omega) (by decide)
    have q662 : h7 75 13 = h 75 13 := jK 0 f9 rg_75_13_0_1 (by first | decide | omega) (by first | decide | omega) (by decide)
    have k664 : Kp h h7 (h 75 13 - 2147483648) := Kp.fr Kp.refl f9 (by first | decide | omega) (by decide)
    have k663 : Kp h h22 (h 75 13 - 2147483648) := Kp.fr k664 f24 (by first | decide | omega) (by decide)
    obtain ⟨w665, e666⟩ := Tk.no c13 (by first | decide | omega)
    obtain ⟨w667, e668⟩ := Tk.yes c28 (by first | decide | omega)
    refine x_retI (np := 76) (x := 0) (by decide +kernel) (by decide) (Or.inr ⟨by decide +kernel, by first | decide | omega, by first | decide | omega⟩) ⟨_, rfl, (by decide), ?_⟩
    exact ⟨j23, f29, (by first | decide | omega), (fun z => by first | decide | omega), (fun z => by first | decide | omega), (fun z => by first | decide | omega), (fun z => by first | decide | omega), k663, (fun z => absurd z (by first | decide | omega)), (gA_not6 w667 e666 (by decide) (by first | decide | omega))⟩
  have q17 : ¬ (v4 = 2147483648) := q17
  have b669 := c12 (by first | decide | omega)
  refine x_aload (np := 10) (x := 0) (by decide +kernel) rfl (x_nc_le (by decide)) ?_
  have q670 : h7 75 10 = h 75 10 := jK 0 f9 rg_75_10_0_1 (by first | decide | omega) (by first | decide | omega) (by decide)
  refine x_getC (np := 13) (x := 714) (f := 10) (q := (h 75 10)) (by decide +kernel) (by decide) (by decide +kernel) q670 (fun l671 => ?_)
  refine x_const (np := 15) (x := 9223372064772063238) (a := 2147483654) (by decide +kernel) (by decide) (by decide) ?_
  refine x_icmp (k := 1) (tg := 20) (np := 18) (by decide +kernel) (by decide) l671 (by decide) (fun q672 => ?_) (fun q673 => ?_)
  · have q672 : (h 75 10) ≠ 2147483654 := q672
    exfalso; omega
  have q673 : ¬ ((h 75 10) ≠ 2147483654) := q673
  refine x_const (np := 19) (x := 9223372039002259456) (a := 2147483648) (by decide +kernel) (by decide) (by decide) ?_
  have q674 : h7 75 13 = h 75 13 := jK 0 f9 rg_75_13_0_1 (by first | decide | omega) (by first | decide | omega) (by decide)
  have q675 : h7 75 10 = h 75 10 := jK 0 f9 rg_75_10_0_1 (by first | decide | omega) (by first | decide | omega) (by decide)
  have q676 : h7 75 13 = h 75 13 := jK 0 f9 rg_75_13_0_1 (by first | decide | omega) (by first | decide | omega) (by decide)
  have k677 : Kp h h7 (h 75 13 - 2147483648) := Kp.fr Kp.refl f9 (by first | decide | omega) (by decide)
  obtain ⟨w678, e679⟩ := Tk.yes c13 (by first | decide | omega)
  refine x_retI (np := 20) (x := 0) (by decide +kernel) (by decide) (Or.inr ⟨by decide +kernel, by first | decide | omega, by first | decide | omega⟩) ⟨_, rfl, (by decide), ?_⟩
  exact ⟨j8, f14, (by first | decide | omega), (fun z => by first | decide | omega), (fun z => by first | decide | omega), (fun z => by first | decide | omega), (fun z => by first | decide | omega), k677, (fun z => absurd z (by first | decide | omega)), (gA_par6 w678 rfl (by decide) (by first | decide | omega))⟩
