/-! ===== methods ===== -/
set_option maxHeartbeats 0 in
/-- LentNamesModel.readLetter()Z -/
theorem c183_75 {sc : Nat × Nat} {d  : Nat} {h : xh} {tB : Nat → Nat} {tN : Nat} (hJ : J h) (hC : Cl h) (hT : Tq tB tN h) : X sc 183 (d + 6) (xI fun r h' => J h' ∧ Fr 273678337 h h' ∧ (2147483648 ≤ r ∧ r ≤ 2147483649) ∧ (r = 2147483649 → h' 78 0 = h 78 0) ∧ (r = 2147483649 → h' 78 1 = h 78 1) ∧ (r = 2147483649 → h' 78 2 = h 78 2) ∧ (r = 2147483649 → h' 78 3 = h 78 3 + 1) ∧ (r = 2147483649 → h' 78 4 = h 78 4) ∧ (r = 2147483649 → h' 78 5 = h 78 5) ∧ (r = 2147483649 → Cl h') ∧ ((h 78 3 = 2147483658 ∧ r = 2147483648) ∨ (h 78 3 ≠ 2147483658 ∧ letter9 tB tN (h 76 0) (sk tB tN (h 75 7)) (rs r (sk tB tN (h' 75 7))))) ∧ (r = 2147483648 → (h 78 3 = 2147483658 ∧ h' 75 9 = h 75 9) ∨ (h 78 3 ≠ 2147483658 ∧ letterF tB tN (h 76 0) (sk tB tN (h 75 7)) (h' 75 9)))) 0 0 0 [x_r 75, 147573952589676412928] [] h := by
  have hF := Fr.refl 273678337 h
  refine x_aload (np := 1) (x := 0) (by decide +kernel) rfl (x_nc_le (by decide)) ?_
  have q1 : h 75 3 = 78 := by have z := jB (e := 3) 0 hJ rg_75_3_0_1 (by decide) (by decide); omega
  refine x_getR (np := 4) (x := 707) (f := 3) (q := 78) (by decide +kernel) (by decide) (by decide +kernel) q1 ?_
  refine x_const (np := 5) (x := 9223372051887161347) (a := 2147483651) (by decide +kernel) (by decide) (by decide) ?_
  have b2 := jB (e := 3) 0 hJ rg_78_3_0_1 (by first | decide | omega) (by first | decide | omega)
  refine x_aldC (np := 6) (x := 0) (n := 290) (i := 3) (q := (h 78 3)) (by decide +kernel) (by decide +kernel) (by first | decide | omega) (by first | decide | omega) (by decide) rfl (fun l3 => ?_)
  refine x_const (np := 8) (x := 9223372081951932426) (a := 2147483658) (by decide +kernel) (by decide) (by decide) ?_
  refine x_icmp (k := 1) (tg := 13) (np := 11) (by decide +kernel) (by decide) l3 (by decide) (fun q4 => ?_) (fun q5 => ?_)
  · have q4 : (h 78 3) ≠ 2147483658 := q4
    refine x_const (np := 16) (x := 9223372726197026976) (a := 2147483808) (by decide +kernel) (by decide) (by decide) ?_
    refine x_const (np := 17) (x := 9223372056182128644) (a := 2147483652) (by decide +kernel) (by decide) (by decide) ?_
    refine x_aload (np := 18) (x := 0) (by decide +kernel) rfl (x_nc_le (by decide)) ?_
    have q6 : h 75 3 = 78 := by have z := jB (e := 3) 0 hJ rg_75_3_0_1 (by decide) (by decide); omega
    refine x_getR (np := 21) (x := 707) (f := 3) (q := 78) (by decide +kernel) (by decide) (by decide +kernel) q6 ?_
    refine x_const (np := 22) (x := 9223372051887161347) (a := 2147483651) (by decide +kernel) (by decide) (by decide) ?_
    refine x_aldC (np := 23) (x := 0) (n := 290) (i := 3) (q := (h 78 3)) (by decide +kernel) (by decide +kernel) (by first | decide | omega) (by first | decide | omega) (by decide) rfl (fun l7 => ?_)
    obtain ⟨u8, q9⟩ : ∃ z, (h 78 3) = 2147483648 + z := ⟨(h 78 3) - 2147483648, by first | decide | omega⟩
    refine x_imul (np := 24) (x := 0) (i := 4) (j := u8) (v := (2147483648 + 4 * u8)) (by decide +kernel) (by first | decide | omega) (by first | decide | omega) (by first | decide | omega) (by first | decide | omega) (by decide) l3 ?_
    refine x_iadd (np := 25) (x := 0) (v := (2147483808 + 4 * u8)) (by decide +kernel) (by decide) (by first | decide | omega) (by first | decide | omega) (by first | decide | omega) ?_
    refine x_istore (np := 26) (x := 1) (lo' := [x_r 75, iv_c (2147483808 + 4 * u8)]) (by decide +kernel) (by first | decide | omega) (Nat.le_of_ble_eq_true rfl) rfl ?_
    refine x_aload (np := 27) (x := 0) (by decide +kernel) rfl (x_nc_le (by decide)) ?_
    refine x_iload (np := 28) (x := 1) (by decide +kernel) rfl (by first | decide | omega) ?_
    refine x_nI (t := 6) (mj := 177) (n := 2) (rc := 12) (ml := 2) (nr := 0) (np := 31) (as := [x_r 75, iv_c (2147483808 + 4 * u8)]) (rest := []) (lo1 := [x_r 75, iv_c (2147483808 + 4 * u8)]) (by decide +kernel) (by decide) (by decide +kernel) (x_rb_of (by decide +kernel)) rfl rfl (x_wr (by decide) (x_wi (by first | decide | omega) x_wn)) x_wn (by decide) rfl ?_
    refine x_aload (np := 1) (x := 0) (by decide +kernel) rfl (x_nc_le (by decide)) ?_
    refine x_iload (np := 2) (x := 1) (by decide +kernel) rfl (by first | decide | omega) ?_
    refine x_aload (np := 3) (x := 0) (by decide +kernel) rfl (x_nc_le (by decide)) ?_
    refine x_const (np := 4) (x := 9223372039002259456) (a := 2147483648) (by decide +kernel) (by decide) (by decide) ?_
    refine x_aload (np := 5) (x := 0) (by decide +kernel) rfl (x_nc_le (by decide)) ?_
    refine x_nI (t := 6) (mj := 157) (n := 1) (rc := 12) (ml := 1) (nr := 4) (np := 8) (as := [x_r 75]) (rest := [iv_c 2147483648, x_r 75, iv_c (2147483808 + 4 * u8), x_r 75]) (lo1 := [x_r 75]) (by decide +kernel) (by decide) (by decide +kernel) (x_rb_of (by decide +kernel)) rfl rfl (x_wr (by decide) x_wn) (x_wi (by decide) (x_wr (by decide) (x_wi (by first | decide | omega) (x_wr (by decide) x_wn)))) (by decide) rfl ?_
    refine x_aload (np := 1) (x := 0) (by decide +kernel) rfl (x_nc_le (by decide)) ?_
    have q11 : h 75 1 = 76 := by have z := jB (e := 1) 0 hJ rg_75_1_0_1 (by decide) (by decide); omega
    refine x_getR (np := 4) (x := 705) (f := 1) (q := 76) (by decide +kernel) (by decide) (by decide +kernel) q11 ?_
    refine x_const (np := 5) (x := 9223372039002259456) (a := 2147483648) (by decide +kernel) (by decide) (by decide) ?_
    have b12 := jB (e := 0) 0 hJ rg_76_0_0_1 (by first | decide | omega) (by first | decide | omega)
    refine x_aldC (np := 6) (x := 0) (n := 1952) (i := 0) (q := (h 76 0)) (by decide +kernel) (by decide +kernel) (by first | decide | omega) (by first | decide | omega) (by decide) rfl (fun l13 => ?_)
    refine x_retI (np := 7) (x := 0) (by decide +kernel) l13 (Or.inl (by decide +kernel)) ⟨_, rfl, l13, ?_⟩
    refine x_const (np := 9) (x := 9223372043297226753) (a := 2147483649) (by decide +kernel) (by decide) (by decide) ?_
    obtain ⟨v14, q15⟩ : ∃ z, z + 2147483649 = (h 76 0) + 2147483648 := ⟨(h 76 0) + 2147483648 - 2147483649, by first | decide | omega⟩
    refine x_isub (np := 10) (x := 0) (v := v14) (by decide +kernel) l13 (by decide) (by first | decide | omega) (by first | decide | omega) ?_
    refine x_cI (t := 6) (mj := 174) (n := 3) (rc := 12) (ml := 4) (nr := 2) (np := 13) (as := [x_r 75, iv_c 2147483648, iv_c v14]) (rest := [iv_c (2147483808 + 4 * u8), x_r 75]) (lo1 := [x_r 75, iv_c 2147483648, iv_c v14, 147573952589676412928]) (by decide +kernel) (by decide) (by decide +kernel) (x_rb_of (by decide +kernel)) rfl rfl (x_wr (by decide) (x_wi (by decide) (x_wi (by first | decide | omega) x_wn))) (x_wi (by first | decide | omega) (x_wr (by decide) x_wn)) (by decide) rfl (c174_75 hJ  (by first | decide | omega) (by first | decide | omega) hT) (fun v16 h19 l17 q18 => ?_)
    obtain ⟨j20, f21, b22, c23, c24, c25, c26, c27, c28, c29⟩ := q18
    have f30 := Fr.trans hF f21 (by decide)
    have b31 := jB (e := 7) 0 hJ rg_75_7_0_1 (by first | decide | omega) (by first | decide | omega)
    have b32 := jB (e := 7) 0 j20 rg_75_7_0_1 (by first | decide | omega) (by first | decide | omega)
    have b33 := c27 (by first | decide | omega)
    refine x_nI (t := 6) (mj := 176) (n := 3) (rc := 12) (ml := 3) (nr := 0) (np := 16) (as := [x_r 75, iv_c (2147483808 + 4 * u8), iv_c v16]) (rest := []) (lo1 := [x_r 75, iv_c (2147483808 + 4 * u8), iv_c v16]) (by decide +kernel) (by decide) (by decide +kernel) (x_rb_of (by decide +kernel)) rfl rfl (x_wr (by decide) (x_wi (by first | decide | omega) (x_wi l17 x_wn))) x_wn (by decide) rfl ?_
    refine x_aload (np := 1) (x := 0) (by decide +kernel) rfl (x_nc_le (by decide)) ?_
    have q34 : h19 75 3 = 78 := by have z := jB (e := 3) 0 j20 rg_75_3_0_1 (by decide) (by decide); omega
    refine x_getR (np := 4) (x := 707) (f := 3) (q := 78) (by decide +kernel) (by decide) (by decide +kernel) q34 ?_
    refine x_iload (np := 5) (x := 1) (by decide +kernel) rfl (by first | decide | omega) ?_
    refine x_iload (np := 6) (x := 2) (by decide +kernel) rfl l17 ?_
    refine x_ast (np := 7) (x := 0) (kd := 1) (n := 290) (i := (160 + 4 * u8)) (by decide +kernel) (Or.inl rfl) (by decide +kernel) (by first | decide | omega) (by first | decide | omega) (by decide) l17 (fun z => absurd z (by decide)) ?_
    have j36 := jU (e := (160 + 4 * u8)) (v := v16) u8 j20 rg_78_160_4_10 (by first | decide | omega) (by first | decide | omega) (by first | decide | omega)
    have f38 := jF (e := (160 + 4 * u8)) (v := v16) u8 f30 rg_78_160_4_10 (by first | decide | omega) (by first | decide | omega) (by decide)
    generalize e37 : x_up h19 78 (160 + 4 * u8) v16 = h35 at j36 f38 ⊢
    refine x_iload (np := 8) (x := 2) (by decide +kernel) rfl l17 ?_
    refine x_ifz (k := 2) (tg := 15) (np := 11) (by decide +kernel) (by decide) l17 (fun q39 => ?_) (fun q40 => ?_)
    · have q39 : v16 < 2147483648 := q39
      refine x_const (np := 16) (x := 9223372039002259456) (a := 2147483648) (by decide +kernel) (by decide) (by decide) ?_
      refine x_retI (np := 17) (x := 0) (by decide +kernel) (by decide) (Or.inr ⟨by decide +kernel, by first | decide | omega, by first | decide | omega⟩) ⟨_, rfl, (by decide), ?_⟩
      refine x_retI (np := 17) (x := 0) (by decide +kernel) (by decide) (Or.inr ⟨by decide +kernel, by first | decide | omega, by first | decide | omega⟩) ⟨_, rfl, (by decide), ?_⟩
      refine x_ifz (k := 0) (tg := 81) (np := 34) (by decide +kernel) (by decide) (by decide) (fun q41 => ?_) (fun q42 => ?_)
      · have q41 : 2147483648 = 2147483648 := q41
        refine x_const (np := 82) (x := 9223372039002259456) (a := 2147483648) (by decide +kernel) (by decide) (by decide) ?_
        have b43 := jB (e := 0) 0 hJ rg_78_0_0_1 (by first | decide | omega) (by first | decide | omega)
        have q44 : h35 78 0 = h19 78 0 := by rw [← e37]; exact x_up_i (by first | decide | omega)
        have q45 : h19 78 0 = h 78 0 := jK 0 f21 rg_78_0_0_1 (by first | decide | omega) (by first | decide | omega) (by decide)
        have q46 : h35 78 1 = h19 78 1 := by rw [← e37]; exact x_up_i (by first | decide | omega)
        have q47 : h19 78 1 = h 78 1 := jK 0 f21 rg_78_1_0_1 (by first | decide | omega) (by first | decide | omega) (by decide)
        have b48 := jB (e := 2) 0 hJ rg_78_2_0_1 (by first | decide | omega) (by first | decide | omega)
        have q49 : h35 78 2 = h19 78 2 := by rw [← e37]; exact x_up_i (by first | decide | omega)
        have q50 : h19 78 2 = h 78 2 := jK 0 f21 rg_78_2_0_1 (by first | decide | omega) (by first | decide | omega) (by decide)
        have q51 : h35 78 3 = h19 78 3 := by rw [← e37]; exact x_up_i (by first | decide | omega)
        have q52 : h19 78 3 = h 78 3 := jK 0 f21 rg_78_3_0_1 (by first | decide | omega) (by first | decide | omega) (by decide)
        have b53 := jB (e := 4) 0 hJ rg_78_4_0_1 (by first | decide | omega) (by first | decide | omega)
        have q54 : h35 78 4 = h19 78 4 := by rw [← e37]; exact x_up_i (by first | decide | omega)
        have q55 : h19 78 4 = h 78 4 := jK 0 f21 rg_78_4_0_1 (by first | decide | omega) (by first | decide | omega) (by decide)
        have b56 := jB (e := 5) 0 hJ rg_78_5_0_1 (by first | decide | omega) (by first | decide | omega)
        have q57 : h35 78 5 = h19 78 5 := by rw [← e37]; exact x_up_i (by first | decide | omega)
        have q58 : h19 78 5 = h 78 5 := jK 0 f21 rg_78_5_0_1 (by first | decide | omega) (by first | decide | omega) (by decide)
        have q59 : h35 75 9 = h19 75 9 := by rw [← e37]; exact x_up_k (by decide)
        have b60 := jB (e := 9) 0 j20 rg_75_9_0_1 (by first | decide | omega) (by first | decide | omega)
        refine x_retI (np := 83) (x := 0) (by decide +kernel) (by decide) (Or.inr ⟨by decide +kernel, by first | decide | omega, by first | decide | omega⟩) ⟨_, rfl, (by decide), ?_⟩
        exact ⟨j36, f38, (by first | decide | omega), (fun z => by first | decide | omega), (fun z => by first | decide | omega), (fun z => by first | decide | omega), (fun z => by first | decide | omega), (fun z => by first | decide | omega), (fun z => by first | decide | omega), (fun z => absurd z (by first | decide | omega)), (Or.inr ⟨by first | decide | omega, (nm9.f c28 (by first | decide | omega) (by first | decide | omega) rfl (by first | decide | omega) (by first | decide | omega))⟩), (fun _ => Or.inr ⟨by first | decide | omega, (mF.no c28 (by first | decide | omega) (by first | decide | omega) rfl (by first | decide | omega) (Eq.trans (show h35 75 9 = h19 75 9 by first | decide | omega) c29))⟩)⟩
      have q42 : ¬ (2147483648 = 2147483648) := q42
      exfalso; omega
    have q40 : ¬ (v16 < 2147483648) := q40
    have b61 := c24 (by first | decide | omega)
    have b62 := c25 (by first | decide | omega)
    have b63 := c26 (by first | decide | omega)
    refine x_const (np := 12) (x := 9223372043297226753) (a := 2147483649) (by decide +kernel) (by decide) (by decide) ?_
    refine x_goto (np := 15) (x := 16) (by decide +kernel) ?_
    refine x_retI (np := 17) (x := 0) (by decide +kernel) (by decide) (Or.inr ⟨by decide +kernel, by first | decide | omega, by first | decide | omega⟩) ⟨_, rfl, (by decide), ?_⟩
    refine x_retI (np := 17) (x := 0) (by decide +kernel) (by decide) (Or.inr ⟨by decide +kernel, by first | decide | omega, by first | decide | omega⟩) ⟨_, rfl, (by decide), ?_⟩
    refine x_ifz (k := 0) (tg := 81) (np := 34) (by decide +kernel) (by decide) (by decide) (fun q64 => ?_) (fun q65 => ?_)
    · have q64 : 2147483649 = 2147483648 := q64
      exfalso; omega
    have q65 : ¬ (2147483649 = 2147483648) := q65
    refine x_aload (np := 35) (x := 0) (by decide +kernel) rfl (x_nc_le (by decide)) ?_
    refine x_ldcB (i := 2) (idx := 147) (tx := "day") (by rw [tb_y183]; exact List.mem_of_getElem? (i := 37) rfl) (by decide) (by rw [tb_b183]; decide +kernel) ?_
    have m70 := Tq.fr hT f21 (by decide) (by decide)
    have m69 : Tq tB tN h35 := by rw [← e37]; exact Tq.oth m70 (by decide) (fun z => absurd z.1 (by decide))
    refine x_cI (t := 6) (mj := 172) (n := 2) (rc := 12) (ml := 2) (nr := 0) (np := 40) (as := [x_r 75, x_b (2 + 1)]) (rest := []) (lo1 := [x_r 75, x_b (2 + 1)]) (by decide +kernel) (by decide) (by decide +kernel) (x_rb_of (by decide +kernel)) rfl rfl (x_wr (by decide) (x_wB (by decide) x_wn)) x_wn (by decide) rfl (c172_75_S0 j36  (by decide) m69) (fun v66 h71 l67 q68 => ?_)
    obtain ⟨j72, f73, b74, c75, c76, c77, c78⟩ := q68
    have f79 := Fr.trans f38 f73 (by decide)
    have q80 : h35 75 7 = h19 75 7 := by rw [← e37]; exact x_up_k (by decide)
    have b81 := jB (e := 7) 0 j72 rg_75_7_0_1 (by first | decide | omega) (by first | decide | omega)
    have q82 : h35 75 7 = h19 75 7 := by rw [← e37]; exact x_up_k (by decide)
    refine x_ifz (k := 0) (tg := 81) (np := 43) (by decide +kernel) (by decide) l67 (fun q83 => ?_) (fun q84 => ?_)
    · have q83 : v66 = 2147483648 := q83
      refine x_const (np := 82) (x := 9223372039002259456) (a := 2147483648) (by decide +kernel) (by decide) (by decide) ?_
      have b85 := jB (e := 0) 0 hJ rg_78_0_0_1 (by first | decide | omega) (by first | decide | omega)
      have q86 : h71 78 0 = h35 78 0 := jK 0 f73 rg_78_0_0_1 (by first | decide | omega) (by first | decide | omega) (by decide)
      have q87 : h35 78 0 = h19 78 0 := by rw [← e37]; exact x_up_i (by first | decide | omega)
      have q88 : h19 78 0 = h 78 0 := jK 0 f21 rg_78_0_0_1 (by first | decide | omega) (by first | decide | omega) (by decide)
      have q89 : h71 78 1 = h35 78 1 := jK 0 f73 rg_78_1_0_1 (by first | decide | omega) (by first | decide | omega) (by decide)
      have q90 : h35 78 1 = h19 78 1 := by rw [← e37]; exact x_up_i (by first | decide | omega)
      have q91 : h19 78 1 = h 78 1 := jK 0 f21 rg_78_1_0_1 (by first | decide | omega) (by first | decide | omega) (by decide)
      have b92 := jB (e := 2) 0 hJ rg_78_2_0_1 (by first | decide | omega) (by first | decide | omega)
      have q93 : h71 78 2 = h35 78 2 := jK 0 f73 rg_78_2_0_1 (by first | decide | omega) (by first | decide | omega) (by decide)
      have q94 : h35 78 2 = h19 78 2 := by rw [← e37]; exact x_up_i (by first | decide | omega)
      have q95 : h19 78 2 = h 78 2 := jK 0 f21 rg_78_2_0_1 (by first | decide | omega) (by first | decide | omega) (by decide)
      have q96 : h71 78 3 = h35 78 3 := jK 0 f73 rg_78_3_0_1 (by first | decide | omega) (by first | decide | omega) (by decide)
      have q97 : h35 78 3 = h19 78 3 := by rw [← e37]; exact x_up_i (by first | decide | omega)
      have q98 : h19 78 3 = h 78 3 := jK 0 f21 rg_78_3_0_1 (by first | decide | omega) (by first | decide | omega) (by decide)
      have b99 := jB (e := 4) 0 hJ rg_78_4_0_1 (by first | decide | omega) (by first | decide | omega)
      have q100 : h71 78 4 = h35 78 4 := jK 0 f73 rg_78_4_0_1 (by first | decide | omega) (by first | decide | omega) (by decide)
      have q101 : h35 78 4 = h19 78 4 := by rw [← e37]; exact x_up_i (by first | decide | omega)
      have q102 : h19 78 4 = h 78 4 := jK 0 f21 rg_78_4_0_1 (by first | decide | omega) (by first | decide | omega) (by decide)
      have b103 := jB (e := 5) 0 hJ rg_78_5_0_1 (by first | decide | omega) (by first | decide | omega)
      have q104 : h71 78 5 = h35 78 5 := jK 0 f73 rg_78_5_0_1 (by first | decide | omega) (by first | decide | omega) (by decide)
      have q105 : h35 78 5 = h19 78 5 := by rw [← e37]; exact x_up_i (by first | decide | omega)
      have q106 : h19 78 5 = h 78 5 := jK 0 f21 rg_78_5_0_1 (by first | decide | omega) (by first | decide | omega) (by decide)
      have q107 : h35 75 7 = h19 75 7 := by rw [← e37]; exact x_up_k (by decide)
      have q108 : h35 75 7 = h19 75 7 := by rw [← e37]; exact x_up_k (by decide)
      refine x_retI (np := 83) (x := 0) (by decide +kernel) (by decide) (Or.inr ⟨by decide +kernel, by first | decide | omega, by first | decide | omega⟩) ⟨_, rfl, (by decide), ?_⟩
      exact ⟨j72, f79, (by first | decide | omega), (fun z => by first | decide | omega), (fun z => by first | decide | omega), (fun z => by first | decide | omega), (fun z => by first | decide | omega), (fun z => by first | decide | omega), (fun z => by first | decide | omega), (fun z => absurd z (by first | decide | omega)), (Or.inr ⟨by first | decide | omega, (nm9.y c28 (by first | decide | omega) (by first | decide | omega) rfl (by first | decide | omega) rfl (wd9.f (Tw.no c77 (by first | decide | omega)) (congrArg (sk tB tN) (show h35 75 7 = h19 75 7 by first | decide | omega)) (by first | decide | omega)))⟩), (fun _ => Or.inr ⟨by first | decide | omega, (mF.y c28 (by first | decide | omega) (by first | decide | omega) rfl (by first | decide | omega) rfl (wF.no (Tw.no c77 (by first | decide | omega)) (congrArg (sk tB tN) (show h35 75 7 = h19 75 7 by first | decide | omega)) c78))⟩)⟩
    have q84 : ¬ (v66 = 2147483648) := q84
    have b109 := c76 (by first | decide | omega)
    refine x_aload (np := 44) (x := 0) (by decide +kernel) rfl (x_nc_le (by decide)) ?_
    refine x_iload (np := 45) (x := 1) (by decide +kernel) rfl (by first | decide | omega) ?_
    refine x_const (np := 46) (x := 9223372043297226753) (a := 2147483649) (by decide +kernel) (by decide) (by decide) ?_
    refine x_iadd (np := 47) (x := 0) (v := (2147483809 + 4 * u8)) (by decide +kernel) (by first | decide | omega) (by decide) (by first | decide | omega) (by first | decide | omega) ?_
    refine x_const (np := 48) (x := 9223372039002259456) (a := 2147483648) (by decide +kernel) (by decide) (by decide) ?_
    refine x_nI (t := 6) (mj := 178) (n := 3) (rc := 12) (ml := 3) (nr := 0) (np := 51) (as := [x_r 75, iv_c (2147483809 + 4 * u8), iv_c 2147483648]) (rest := []) (lo1 := [x_r 75, iv_c (2147483809 + 4 * u8), iv_c 2147483648]) (by decide +kernel) (by decide) (by decide +kernel) (x_rb_of (by decide +kernel)) rfl rfl (x_wr (by decide) (x_wi (by first | decide | omega) (x_wi (by decide) x_wn))) x_wn (by decide) rfl ?_
    refine x_aload (np := 1) (x := 0) (by decide +kernel) rfl (x_nc_le (by decide)) ?_
    refine x_iload (np := 2) (x := 1) (by decide +kernel) rfl (by first | decide | omega) ?_
    refine x_aload (np := 3) (x := 0) (by decide +kernel) rfl (x_nc_le (by decide)) ?_
    refine x_iload (np := 4) (x := 2) (by decide +kernel) rfl (by decide) ?_
    refine x_const (np := 6) (x := 9223372086246899723) (a := 2147483659) (by decide +kernel) (by decide) (by decide) ?_
    have m113 := Tq.fr m69 f73 (by decide) (by decide)
    refine x_cI (t := 6) (mj := 174) (n := 3) (rc := 12) (ml := 4) (nr := 2) (np := 9) (as := [x_r 75, iv_c 2147483648, iv_c 2147483659]) (rest := [iv_c (2147483809 + 4 * u8), x_r 75]) (lo1 := [x_r 75, iv_c 2147483648, iv_c 2147483659, 147573952589676412928]) (by decide +kernel) (by decide) (by decide +kernel) (x_rb_of (by decide +kernel)) rfl rfl (x_wr (by decide) (x_wi (by decide) (x_wi (by decide) x_wn))) (x_wi (by first | decide | omega) (x_wr (by decide) x_wn)) (by decide) rfl (c174_75 j72  (by first | decide | omega) (by first | decide | omega) m113) (fun v110 h114 l111 q112 => ?_)
    obtain ⟨j115, f116, b117, c118, c119, c120, c121, c122, c123, c124⟩ := q112
    have f125 := Fr.trans f79 f116 (by decide)
    have b126 := jB (e := 7) 0 j115 rg_75_7_0_1 (by first | decide | omega) (by first | decide | omega)
    have b127 := c122 (by first | decide | omega)
    refine x_nI (t := 6) (mj := 176) (n := 3) (rc := 12) (ml := 3) (nr := 0) (np := 12) (as := [x_r 75, iv_c (2147483809 + 4 * u8), iv_c v110]) (rest := []) (lo1 := [x_r 75, iv_c (2147483809 + 4 * u8), iv_c v110]) (by decide +kernel) (by decide) (by decide +kernel) (x_rb_of (by decide +kernel)) rfl rfl (x_wr (by decide) (x_wi (by first | decide | omega) (x_wi l111 x_wn))) x_wn (by decide) rfl ?_
    refine x_aload (np := 1) (x := 0) (by decide +kernel) rfl (x_nc_le (by decide)) ?_
    have q128 : h114 75 3 = 78 := by have z := jB (e := 3) 0 j115 rg_75_3_0_1 (by decide) (by decide); omega
    refine x_getR (np := 4) (x := 707) (f := 3) (q := 78) (by decide +kernel) (by decide) (by decide +kernel) q128 ?_
    refine x_iload (np := 5) (x := 1) (by decide +kernel) rfl (by first | decide | omega) ?_
    refine x_iload (np := 6) (x := 2) (by decide +kernel) rfl l111 ?_
    refine x_ast (np := 7) (x := 0) (kd := 1) (n := 290) (i := (161 + 4 * u8)) (by decide +kernel) (Or.inl rfl) (by decide +kernel) (by first | decide | omega) (by first | decide | omega) (by decide) l111 (fun z => absurd z (by decide)) ?_
    have j130 := jU (e := (161 + 4 * u8)) (v := v110) u8 j115 rg_78_161_4_10 (by first | decide | omega) (by first | decide | omega) (by first | decide | omega)
    have f132 := jF (e := (161 + 4 * u8)) (v := v110) u8 f125 rg_78_161_4_10 (by first | decide | omega) (by first | decide | omega) (by decide)
    generalize e131 : x_up h114 78 (161 + 4 * u8) v110 = h129 at j130 f132 ⊢
    refine x_iload (np := 8) (x := 2) (by decide +kernel) rfl l111 ?_
    refine x_ifz (k := 2) (tg := 15) (np := 11) (by decide +kernel) (by decide) l111 (fun q133 => ?_) (fun q134 => ?_)
    · have q133 : v110 < 2147483648 := q133
      refine x_const (np := 16) (x := 9223372039002259456) (a := 2147483648) (by decide +kernel) (by decide) (by decide) ?_
      refine x_retI (np := 17) (x := 0) (by decide +kernel) (by decide) (Or.inr ⟨by decide +kernel, by first | decide | omega, by first | decide | omega⟩) ⟨_, rfl, (by decide), ?_⟩
      refine x_retI (np := 13) (x := 0) (by decide +kernel) (by decide) (Or.inr ⟨by decide +kernel, by first | decide | omega, by first | decide | omega⟩) ⟨_, rfl, (by decide), ?_⟩
      refine x_ifz (k := 0) (tg := 81) (np := 54) (by decide +kernel) (by decide) (by decide) (fun q135 => ?_) (fun q136 => ?_)
      · have q135 : 2147483648 = 2147483648 := q135
        refine x_const (np := 82) (x := 9223372039002259456) (a := 2147483648) (by decide +kernel) (by decide) (by decide) ?_
        have b137 := jB (e := 0) 0 hJ rg_78_0_0_1 (by first | decide | omega) (by first | decide | omega)
        have q138 : h129 78 0 = h114 78 0 := by rw [← e131]; exact x_up_i (by first | decide | omega)
        have q139 : h114 78 0 = h71 78 0 := jK 0 f116 rg_78_0_0_1 (by first | decide | omega) (by first | decide | omega) (by decide)
        have q140 : h71 78 0 = h35 78 0 := jK 0 f73 rg_78_0_0_1 (by first | decide | omega) (by first | decide | omega) (by decide)
        have q141 : h35 78 0 = h19 78 0 := by rw [← e37]; exact x_up_i (by first | decide | omega)
        have q142 : h19 78 0 = h 78 0 := jK 0 f21 rg_78_0_0_1 (by first | decide | omega) (by first | decide | omega) (by decide)
        have q143 : h129 78 1 = h114 78 1 := by rw [← e131]; exact x_up_i (by first | decide | omega)
        have q144 : h114 78 1 = h71 78 1 := jK 0 f116 rg_78_1_0_1 (by first | decide | omega) (by first | decide | omega) (by decide)
        have q145 : h71 78 1 = h35 78 1 := jK 0 f73 rg_78_1_0_1 (by first | decide | omega) (by first | decide | omega) (by decide)
        have q146 : h35 78 1 = h19 78 1 := by rw [← e37]; exact x_up_i (by first | decide | omega)
        have q147 : h19 78 1 = h 78 1 := jK 0 f21 rg_78_1_0_1 (by first | decide | omega) (by first | decide | omega) (by decide)
        have b148 := jB (e := 2) 0 hJ rg_78_2_0_1 (by first | decide | omega) (by first | decide | omega)
        have q149 : h129 78 2 = h114 78 2 := by rw [← e131]; exact x_up_i (by first | decide | omega)
        have q150 : h114 78 2 = h71 78 2 := jK 0 f116 rg_78_2_0_1 (by first | decide | omega) (by first | decide | omega) (by decide)
        have q151 : h71 78 2 = h35 78 2 := jK 0 f73 rg_78_2_0_1 (by first | decide | omega) (by first | decide | omega) (by decide)
        have q152 : h35 78 2 = h19 78 2 := by rw [← e37]; exact x_up_i (by first | decide | omega)
        have q153 : h19 78 2 = h 78 2 := jK 0 f21 rg_78_2_0_1 (by first | decide | omega) (by first | decide | omega) (by decide)
        have q154 : h129 78 3 = h114 78 3 := by rw [← e131]; exact x_up_i (by first | decide | omega)
        have q155 : h114 78 3 = h71 78 3 := jK 0 f116 rg_78_3_0_1 (by first | decide | omega) (by first | decide | omega) (by decide)
        have q156 : h71 78 3 = h35 78 3 := jK 0 f73 rg_78_3_0_1 (by first | decide | omega) (by first | decide | omega) (by decide)
        have q157 : h35 78 3 = h19 78 3 := by rw [← e37]; exact x_up_i (by first | decide | omega)
        have q158 : h19 78 3 = h 78 3 := jK 0 f21 rg_78_3_0_1 (by first | decide | omega) (by first | decide | omega) (by decide)
        have b159 := jB (e := 4) 0 hJ rg_78_4_0_1 (by first | decide | omega) (by first | decide | omega)
        have q160 : h129 78 4 = h114 78 4 := by rw [← e131]; exact x_up_i (by first | decide | omega)
        have q161 : h114 78 4 = h71 78 4 := jK 0 f116 rg_78_4_0_1 (by first | decide | omega) (by first | decide | omega) (by decide)
        have q162 : h71 78 4 = h35 78 4 := jK 0 f73 rg_78_4_0_1 (by first | decide | omega) (by first | decide | omega) (by decide)
        have q163 : h35 78 4 = h19 78 4 := by rw [← e37]; exact x_up_i (by first | decide | omega)
        have q164 : h19 78 4 = h 78 4 := jK 0 f21 rg_78_4_0_1 (by first | decide | omega) (by first | decide | omega) (by decide)
        have b165 := jB (e := 5) 0 hJ rg_78_5_0_1 (by first | decide | omega) (by first | decide | omega)
        have q166 : h129 78 5 = h114 78 5 := by rw [← e131]; exact x_up_i (by first | decide | omega)
        have q167 : h114 78 5 = h71 78 5 := jK 0 f116 rg_78_5_0_1 (by first | decide | omega) (by first | decide | omega) (by decide)
        have q168 : h71 78 5 = h35 78 5 := jK 0 f73 rg_78_5_0_1 (by first | decide | omega) (by first | decide | omega) (by decide)
        have q169 : h35 78 5 = h19 78 5 := by rw [← e37]; exact x_up_i (by first | decide | omega)
        have q170 : h19 78 5 = h 78 5 := jK 0 f21 rg_78_5_0_1 (by first | decide | omega) (by first | decide | omega) (by decide)
        have q171 : h35 75 7 = h19 75 7 := by rw [← e37]; exact x_up_k (by decide)
        obtain ⟨w172, e173⟩ := Tw.yes c77 (by first | decide | omega)
        have q174 : h35 75 7 = h19 75 7 := by rw [← e37]; exact x_up_k (by decide)
        obtain ⟨w175, e176⟩ := Tw.yes c77 (by first | decide | omega)
        have q177 : h129 75 9 = h114 75 9 := by rw [← e131]; exact x_up_k (by decide)
        have b178 := jB (e := 9) 0 j115 rg_75_9_0_1 (by first | decide | omega) (by first | decide | omega)
        refine x_retI (np := 83) (x := 0) (by decide +kernel) (by decide) (Or.inr ⟨by decide +kernel, by first | decide | omega, by first | decide | omega⟩) ⟨_, rfl, (by decide), ?_⟩
        exact ⟨j130, f132, (by first | decide | omega), (fun z => by first | decide | omega), (fun z => by first | decide | omega), (fun z => by first | decide | omega), (fun z => by first | decide | omega), (fun z => by first | decide | omega), (fun z => by first | decide | omega), (fun z => absurd z (by first | decide | omega)), (Or.inr ⟨by first | decide | omega, (nm9.y c28 (by first | decide | omega) (by first | decide | omega) rfl (by first | decide | omega) rfl (wd9.y w172 (congrArg (sk tB tN) (show h35 75 7 = h19 75 7 by first | decide | omega)) e173 rfl (nm9.f c123 (by first | decide | omega) (by first | decide | omega) rfl (by first | decide | omega) (by first | decide | omega))))⟩), (fun _ => Or.inr ⟨by first | decide | omega, (mF.y c28 (by first | decide | omega) (by first | decide | omega) rfl (by first | decide | omega) rfl (wF.y w175 (congrArg (sk tB tN) (show h35 75 7 = h19 75 7 by first | decide | omega)) e176 rfl (mF.no c123 (by first | decide | omega) (by first | decide | omega) rfl (by first | decide | omega) (Eq.trans (show h129 75 9 = h114 75 9 by first | decide | omega) c124))))⟩)⟩
      have q136 : ¬ (2147483648 = 2147483648) := q136
      exfalso; omega
    have q134 : ¬ (v110 < 2147483648) := q134
    have b179 := c119 (by first | decide | omega)
    have b180 := c120 (by first | decide | omega)
    have b181 := c121 (by first | decide | omega)
    refine x_const (np := 12) (x := 9223372043297226753) (a := 2147483649) (by decide +kernel) (by decide) (by decide) ?_
    refine x_goto (np := 15) (x := 16) (by decide +kernel) ?_
    refine x_retI (np := 17) (x := 0) (by decide +kernel) (by decide) (Or.inr ⟨by decide +kernel, by first | decide | omega, by first | decide | omega⟩) ⟨_, rfl, (by decide), ?_⟩
    refine x_retI (np := 13) (x := 0) (by decide +kernel) (by decide) (Or.inr ⟨by decide +kernel, by first | decide | omega, by first | decide | omega⟩) ⟨_, rfl, (by decide), ?_⟩
    refine x_ifz (k := 0) (tg := 81) (np := 54) (by decide +kernel) (by decide) (by decide) (fun q182 => ?_) (fun q183 => ?_)
    · have q182 : 2147483649 = 2147483648 := q182
      exfalso; omega
    have q183 : ¬ (2147483649 = 2147483648) := q183
    refine x_aload (np := 55) (x := 0) (by decide +kernel) rfl (x_nc_le (by decide)) ?_
    refine x_ldcB (i := 7) (idx := 167) (tx := "read") (by rw [tb_y183]; exact List.mem_of_getElem? (i := 46) rfl) (by decide) (by rw [tb_b183]; decide +kernel) ?_
    have m188 := Tq.fr m113 f116 (by decide) (by decide)
    have m187 : Tq tB tN h129 := by rw [← e131]; exact Tq.oth m188 (by decide) (fun z => absurd z.1 (by decide))
    refine x_cI (t := 6) (mj := 172) (n := 2) (rc := 12) (ml := 2) (nr := 0) (np := 60) (as := [x_r 75, x_b (7 + 1)]) (rest := []) (lo1 := [x_r 75, x_b (7 + 1)]) (by decide +kernel) (by decide) (by decide +kernel) (x_rb_of (by decide +kernel)) rfl rfl (x_wr (by decide) (x_wB (by decide) x_wn)) x_wn (by decide) rfl (c172_75_S0 j130  (by decide) m187) (fun v184 h189 l185 q186 => ?_)
    obtain ⟨j190, f191, b192, c193, c194, c195, c196⟩ := q186
    have f197 := Fr.trans f132 f191 (by decide)
    have q198 : h129 75 7 = h114 75 7 := by rw [← e131]; exact x_up_k (by decide)
    have b199 := jB (e := 7) 0 j190 rg_75_7_0_1 (by first | decide | omega) (by first | decide | omega)
    have q200 : h129 75 7 = h114 75 7 := by rw [← e131]; exact x_up_k (by decide)
    refine x_ifz (k := 0) (tg := 81) (np := 63) (by decide +kernel) (by decide) l185 (fun q201 => ?_) (fun q202 => ?_)
    · have q201 : v184 = 2147483648 := q201
      refine x_const (np := 82) (x := 9223372039002259456) (a := 2147483648) (by decide +kernel) (by decide) (by decide) ?_
      have b203 := jB (e := 0) 0 hJ rg_78_0_0_1 (by first | decide | omega) (by first | decide | omega)
      have q204 : h189 78 0 = h129 78 0 := jK 0 f191 rg_78_0_0_1 (by first | decide | omega) (by first | decide | omega) (by decide)
      have q205 : h129 78 0 = h114 78 0 := by rw [← e131]; exact x_up_i (by first | decide | omega)
      have q206 : h114 78 0 = h71 78 0 := jK 0 f116 rg_78_0_0_1 (by first | decide | omega) (by first | decide | omega) (by decide)
      have q207 : h71 78 0 = h35 78 0 := jK 0 f73 rg_78_0_0_1 (by first | decide | omega) (by first | decide | omega) (by decide)
      have q208 : h35 78 0 = h19 78 0 := by rw [← e37]; exact x_up_i (by first | decide | omega)
      have q209 : h19 78 0 = h 78 0 := jK 0 f21 rg_78_0_0_1 (by first | decide | omega) (by first | decide | omega) (by decide)
      have q210 : h189 78 1 = h129 78 1 := jK 0 f191 rg_78_1_0_1 (by first | decide | omega) (by first | decide | omega) (by decide)
      have q211 : h129 78 1 = h114 78 1 := by rw [← e131]; exact x_up_i (by first | decide | omega)
      have q212 : h114 78 1 = h71 78 1 := jK 0 f116 rg_78_1_0_1 (by first | decide | omega) (by first | decide | omega) (by decide)
      have q213 : h71 78 1 = h35 78 1 := jK 0 f73 rg_78_1_0_1 (by first | decide | omega) (by first | decide | omega) (by decide)
      have q214 : h35 78 1 = h19 78 1 := by rw [← e37]; exact x_up_i (by first | decide | omega)
      have q215 : h19 78 1 = h 78 1 := jK 0 f21 rg_78_1_0_1 (by first | decide | omega) (by first | decide | omega) (by decide)
      have b216 := jB (e := 2) 0 hJ rg_78_2_0_1 (by first | decide | omega) (by first | decide | omega)
      have q217 : h189 78 2 = h129 78 2 := jK 0 f191 rg_78_2_0_1 (by first | decide | omega) (by first | decide | omega) (by decide)
      have q218 : h129 78 2 = h114 78 2 := by rw [← e131]; exact x_up_i (by first | decide | omega)
      have q219 : h114 78 2 = h71 78 2 := jK 0 f116 rg_78_2_0_1 (by first | decide | omega) (by first | decide | omega) (by decide)
      have q220 : h71 78 2 = h35 78 2 := jK 0 f73 rg_78_2_0_1 (by first | decide | omega) (by first | decide | omega) (by decide)
      have q221 : h35 78 2 = h19 78 2 := by rw [← e37]; exact x_up_i (by first | decide | omega)
      have q222 : h19 78 2 = h 78 2 := jK 0 f21 rg_78_2_0_1 (by first | decide | omega) (by first | decide | omega) (by decide)
      have q223 : h189 78 3 = h129 78 3 := jK 0 f191 rg_78_3_0_1 (by first | decide | omega) (by first | decide | omega) (by decide)
      have q224 : h129 78 3 = h114 78 3 := by rw [← e131]; exact x_up_i (by first | decide | omega)
      have q225 : h114 78 3 = h71 78 3 := jK 0 f116 rg_78_3_0_1 (by first | decide | omega) (by first | decide | omega) (by decide)
      have q226 : h71 78 3 = h35 78 3 := jK 0 f73 rg_78_3_0_1 (by first | decide | omega) (by first | decide | omega) (by decide)
      have q227 : h35 78 3 = h19 78 3 := by rw [← e37]; exact x_up_i (by first | decide | omega)
      have q228 : h19 78 3 = h 78 3 := jK 0 f21 rg_78_3_0_1 (by first | decide | omega) (by first | decide | omega) (by decide)
      have b229 := jB (e := 4) 0 hJ rg_78_4_0_1 (by first | decide | omega) (by first | decide | omega)
      have q230 : h189 78 4 = h129 78 4 := jK 0 f191 rg_78_4_0_1 (by first | decide | omega) (by first | decide | omega) (by decide)
      have q231 : h129 78 4 = h114 78 4 := by rw [← e131]; exact x_up_i (by first | decide | omega)
      have q232 : h114 78 4 = h71 78 4 := jK 0 f116 rg_78_4_0_1 (by first | decide | omega) (by first | decide | omega) (by decide)
      have q233 : h71 78 4 = h35 78 4 := jK 0 f73 rg_78_4_0_1 (by first | decide | omega) (by first | decide | omega) (by decide)
      have q234 : h35 78 4 = h19 78 4 := by rw [← e37]; exact x_up_i (by first | decide | omega)
      have q235 : h19 78 4 = h 78 4 := jK 0 f21 rg_78_4_0_1 (by first | decide | omega) (by first | decide | omega) (by decide)
      have b236 := jB (e := 5) 0 hJ rg_78_5_0_1 (by first | decide | omega) (by first | decide | omega)
      have q237 : h189 78 5 = h129 78 5 := jK 0 f191 rg_78_5_0_1 (by first | decide | omega) (by first | decide | omega) (by decide)
      have q238 : h129 78 5 = h114 78 5 := by rw [← e131]; exact x_up_i (by first | decide | omega)
      have q239 : h114 78 5 = h71 78 5 := jK 0 f116 rg_78_5_0_1 (by first | decide | omega) (by first | decide | omega) (by decide)
      have q240 : h71 78 5 = h35 78 5 := jK 0 f73 rg_78_5_0_1 (by first | decide | omega) (by first | decide | omega) (by decide)
      have q241 : h35 78 5 = h19 78 5 := by rw [← e37]; exact x_up_i (by first | decide | omega)
      have q242 : h19 78 5 = h 78 5 := jK 0 f21 rg_78_5_0_1 (by first | decide | omega) (by first | decide | omega) (by decide)
      have q243 : h35 75 7 = h19 75 7 := by rw [← e37]; exact x_up_k (by decide)
      obtain ⟨w244, e245⟩ := Tw.yes c77 (by first | decide | omega)
      have q246 : h129 75 7 = h114 75 7 := by rw [← e131]; exact x_up_k (by decide)
      have q247 : h35 75 7 = h19 75 7 := by rw [← e37]; exact x_up_k (by decide)
      obtain ⟨w248, e249⟩ := Tw.yes c77 (by first | decide | omega)
      have q250 : h129 75 7 = h114 75 7 := by rw [← e131]; exact x_up_k (by decide)
      refine x_retI (np := 83) (x := 0) (by decide +kernel) (by decide) (Or.inr ⟨by decide +kernel, by first | decide | omega, by first | decide | omega⟩) ⟨_, rfl, (by decide), ?_⟩
      exact ⟨j190, f197, (by first | decide | omega), (fun z => by first | decide | omega), (fun z => by first | decide | omega), (fun z => by first | decide | omega), (fun z => by first | decide | omega), (fun z => by first | decide | omega), (fun z => by first | decide | omega), (fun z => absurd z (by first | decide | omega)), (Or.inr ⟨by first | decide | omega, (nm9.y c28 (by first | decide | omega) (by first | decide | omega) rfl (by first | decide | omega) rfl (wd9.y w244 (congrArg (sk tB tN) (show h35 75 7 = h19 75 7 by first | decide | omega)) e245 rfl (nm9.y c123 (by first | decide | omega) (by first | decide | omega) rfl (by first | decide | omega) rfl (wd9.f (Tw.no c195 (by first | decide | omega)) (congrArg (sk tB tN) (show h129 75 7 = h114 75 7 by first | decide | omega)) (by first | decide | omega)))))⟩), (fun _ => Or.inr ⟨by first | decide | omega, (mF.y c28 (by first | decide | omega) (by first | decide | omega) rfl (by first | decide | omega) rfl (wF.y w248 (congrArg (sk tB tN) (show h35 75 7 = h19 75 7 by first | decide | omega)) e249 rfl (mF.y c123 (by first | decide | omega) (by first | decide | omega) rfl (by first | decide | omega) rfl (wF.no (Tw.no c195 (by first | decide | omega)) (congrArg (sk tB tN) (show h129 75 7 = h114 75 7 by first | decide | omega)) c196))))⟩)⟩
    have q202 : ¬ (v184 = 2147483648) := q202
    have b251 := c194 (by first | decide | omega)
    refine x_aload (np := 64) (x := 0) (by decide +kernel) rfl (x_nc_le (by decide)) ?_
    refine x_iload (np := 65) (x := 1) (by decide +kernel) rfl (by first | decide | omega) ?_
    refine x_const (np := 66) (x := 9223372047592194050) (a := 2147483650) (by decide +kernel) (by decide) (by decide) ?_
    refine x_iadd (np := 67) (x := 0) (v := (2147483810 + 4 * u8)) (by decide +kernel) (by first | decide | omega) (by decide) (by first | decide | omega) (by first | decide | omega) ?_
    refine x_aload (np := 68) (x := 0) (by decide +kernel) rfl (x_nc_le (by decide)) ?_
    have q252 : h189 75 3 = 78 := by have z := jB (e := 3) 0 j190 rg_75_3_0_1 (by decide) (by decide); omega
    refine x_getR (np := 71) (x := 707) (f := 3) (q := 78) (by decide +kernel) (by decide) (by decide +kernel) q252 ?_
    refine x_iload (np := 72) (x := 1) (by decide +kernel) rfl (by first | decide | omega) ?_
    refine x_const (np := 73) (x := 9223372043297226753) (a := 2147483649) (by decide +kernel) (by decide) (by decide) ?_
    refine x_iadd (np := 74) (x := 0) (v := (2147483809 + 4 * u8)) (by decide +kernel) (by first | decide | omega) (by decide) (by first | decide | omega) (by first | decide | omega) ?_
    have q253 : h189 78 (161 + 4 * u8) = h129 78 (161 + 4 * u8) := jK u8 f191 rg_78_161_4_10 (by first | decide | omega) (by first | decide | omega) (by decide)
    have q254 : h129 78 (161 + 4 * u8) = v110 := by rw [← e131]; exact x_up_at
    refine x_aldC (np := 75) (x := 0) (n := 290) (i := (161 + 4 * u8)) (q := v110) (by decide +kernel) (by decide +kernel) (by first | decide | omega) (by first | decide | omega) (by decide) (q253.trans q254) (fun l255 => ?_)
    refine x_nI (t := 6) (mj := 178) (n := 3) (rc := 12) (ml := 3) (nr := 0) (np := 78) (as := [x_r 75, iv_c (2147483810 + 4 * u8), iv_c v110]) (rest := []) (lo1 := [x_r 75, iv_c (2147483810 + 4 * u8), iv_c v110]) (by decide +kernel) (by decide) (by decide +kernel) (x_rb_of (by decide +kernel)) rfl rfl (x_wr (by decide) (x_wi (by first | decide | omega) (x_wi l111 x_wn))) x_wn (by decide) rfl ?_
    refine x_aload (np := 1) (x := 0) (by decide +kernel) rfl (x_nc_le (by decide)) ?_
    refine x_iload (np := 2) (x := 1) (by decide +kernel) rfl (by first | decide | omega) ?_
    refine x_aload (np := 3) (x := 0) (by decide +kernel) rfl (x_nc_le (by decide)) ?_
    refine x_iload (np := 4) (x := 2) (by decide +kernel) rfl l111 ?_
    refine x_const (np := 6) (x := 9223372086246899723) (a := 2147483659) (by decide +kernel) (by decide) (by decide) ?_
    have m259 := Tq.fr m187 f191 (by decide) (by decide)
    refine x_cI (t := 6) (mj := 174) (n := 3) (rc := 12) (ml := 4) (nr := 2) (np := 9) (as := [x_r 75, iv_c v110, iv_c 2147483659]) (rest := [iv_c (2147483810 + 4 * u8), x_r 75]) (lo1 := [x_r 75, iv_c v110, iv_c 2147483659, 147573952589676412928]) (by decide +kernel) (by decide) (by decide +kernel) (x_rb_of (by decide +kernel)) rfl rfl (x_wr (by decide) (x_wi l111 (x_wi (by decide) x_wn))) (x_wi (by first | decide | omega) (x_wr (by decide) x_wn)) (by decide) rfl (c174_75 j190  (by first | decide | omega) (by first | decide | omega) m259) (fun v256 h260 l257 q258 => ?_)
    obtain ⟨j261, f262, b263, c264, c265, c266, c267, c268, c269, c270⟩ := q258
    have f271 := Fr.trans f197 f262 (by decide)
    have b272 := jB (e := 7) 0 j261 rg_75_7_0_1 (by first | decide | omega) (by first | decide | omega)
    have b273 := c268 (by first | decide | omega)
    refine x_nI (t := 6) (mj := 176) (n := 3) (rc := 12) (ml := 3) (nr := 0) (np := 12) (as := [x_r 75, iv_c (2147483810 + 4 * u8), iv_c v256]) (rest := []) (lo1 := [x_r 75, iv_c (2147483810 + 4 * u8), iv_c v256]) (by decide +kernel) (by decide) (by decide +kernel) (x_rb_of (by decide +kernel)) rfl rfl (x_wr (by decide) (x_wi (by first | decide | omega) (x_wi l257 x_wn))) x_wn (by decide) rfl ?_
    refine x_aload (np := 1) (x := 0) (by decide +kernel) rfl (x_nc_le (by decide)) ?_
    have q274 : h260 75 3 = 78 := by have z := jB (e := 3) 0 j261 rg_75_3_0_1 (by decide) (by decide); omega
    refine x_getR (np := 4) (x := 707) (f := 3) (q := 78) (by decide +kernel) (by decide) (by decide +kernel) q274 ?_
    refine x_iload (np := 5) (x := 1) (by decide +kernel) rfl (by first | decide | omega) ?_
    refine x_iload (np := 6) (x := 2) (by decide +kernel) rfl l257 ?_
    refine x_ast (np := 7) (x := 0) (kd := 1) (n := 290) (i := (162 + 4 * u8)) (by decide +kernel) (Or.inl rfl) (by decide +kernel) (by first | decide | omega) (by first | decide | omega) (by decide) l257 (fun z => absurd z (by decide)) ?_
    have j276 := jU (e := (162 + 4 * u8)) (v := v256) u8 j261 rg_78_162_4_10 (by first | decide | omega) (by first | decide | omega) (by first | decide | omega)
    have f278 := jF (e := (162 + 4 * u8)) (v := v256) u8 f271 rg_78_162_4_10 (by first | decide | omega) (by first | decide | omega) (by decide)
    generalize e277 : x_up h260 78 (162 + 4 * u8) v256 = h275 at j276 f278 ⊢
    refine x_iload (np := 8) (x := 2) (by decide +kernel) rfl l257 ?_
    refine x_ifz (k := 2) (tg := 15) (np := 11) (by decide +kernel) (by decide) l257 (fun q279 => ?_) (fun q280 => ?_)
    · have q279 : v256 < 2147483648 := q279
      refine x_const (np := 16) (x := 9223372039002259456) (a := 2147483648) (by decide +kernel) (by decide) (by decide) ?_
      refine x_retI (np := 17) (x := 0) (by decide +kernel) (by decide) (Or.inr ⟨by decide +kernel, by first | decide | omega, by first | decide | omega⟩) ⟨_, rfl, (by decide), ?_⟩
      refine x_retI (np := 13) (x := 0) (by decide +kernel) (by decide) (Or.inr ⟨by decide +kernel, by first | decide | omega, by first | decide | omega⟩) ⟨_, rfl, (by decide), ?_⟩
      refine x_ifz (k := 1) (tg := 83) (np := 81) (by decide +kernel) (by decide) (by decide) (fun q281 => ?_) (fun q282 => ?_)
      · have q281 : 2147483648 ≠ 2147483648 := q281
        exfalso; omega
      have q282 : ¬ (2147483648 ≠ 2147483648) := q282
      refine x_const (np := 82) (x := 9223372039002259456) (a := 2147483648) (by decide +kernel) (by decide) (by decide) ?_
      have b283 := jB (e := 0) 0 hJ rg_78_0_0_1 (by first | decide | omega) (by first | decide | omega)
      have q284 : h275 78 0 = h260 78 0 := by rw [← e277]; exact x_up_i (by first | decide | omega)
      have q285 : h260 78 0 = h189 78 0 := jK 0 f262 rg_78_0_0_1 (by first | decide | omega) (by first | decide | omega) (by decide)
      have q286 : h189 78 0 = h129 78 0 := jK 0 f191 rg_78_0_0_1 (by first | decide | omega) (by first | decide | omega) (by decide)
      have q287 : h129 78 0 = h114 78 0 := by rw [← e131]; exact x_up_i (by first | decide | omega)
      have q288 : h114 78 0 = h71 78 0 := jK 0 f116 rg_78_0_0_1 (by first | decide | omega) (by first | decide | omega) (by decide)
      have q289 : h71 78 0 = h35 78 0 := jK 0 f73 rg_78_0_0_1 (by first | decide | omega) (by first | decide | omega) (by decide)
      have q290 : h35 78 0 = h19 78 0 := by rw [← e37]; exact x_up_i (by first | decide | omega)
      have q291 : h19 78 0 = h 78 0 := jK 0 f21 rg_78_0_0_1 (by first | decide | omega) (by first | decide | omega) (by decide)
      have q292 : h275 78 1 = h260 78 1 := by rw [← e277]; exact x_up_i (by first | decide | omega)
      have q293 : h260 78 1 = h189 78 1 := jK 0 f262 rg_78_1_0_1 (by first | decide | omega) (by first | decide | omega) (by decide)
      have q294 : h189 78 1 = h129 78 1 := jK 0 f191 rg_78_1_0_1 (by first | decide | omega) (by first | decide | omega) (by decide)
      have q295 : h129 78 1 = h114 78 1 := by rw [← e131]; exact x_up_i (by first | decide | omega)
      have q296 : h114 78 1 = h71 78 1 := jK 0 f116 rg_78_1_0_1 (by first | decide | omega) (by first | decide | omega) (by decide)
      have q297 : h71 78 1 = h35 78 1 := jK 0 f73 rg_78_1_0_1 (by first | decide | omega) (by first | decide | omega) (by decide)
      have q298 : h35 78 1 = h19 78 1 := by rw [← e37]; exact x_up_i (by first | decide | omega)
      have q299 : h19 78 1 = h 78 1 := jK 0 f21 rg_78_1_0_1 (by first | decide | omega) (by first | decide | omega) (by decide)
      have b300 := jB (e := 2) 0 hJ rg_78_2_0_1 (by first | decide | omega) (by first | decide | omega)
      have q301 : h275 78 2 = h260 78 2 := by rw [← e277]; exact x_up_i (by first | decide | omega)
      have q302 : h260 78 2 = h189 78 2 := jK 0 f262 rg_78_2_0_1 (by first | decide | omega) (by first | decide | omega) (by decide)
      have q303 : h189 78 2 = h129 78 2 := jK 0 f191 rg_78_2_0_1 (by first | decide | omega) (by first | decide | omega) (by decide)
      have q304 : h129 78 2 = h114 78 2 := by rw [← e131]; exact x_up_i (by first | decide | omega)
      have q305 : h114 78 2 = h71 78 2 := jK 0 f116 rg_78_2_0_1 (by first | decide | omega) (by first | decide | omega) (by decide)
      have q306 : h71 78 2 = h35 78 2 := jK 0 f73 rg_78_2_0_1 (by first | decide | omega) (by first | decide | omega) (by decide)
      have q307 : h35 78 2 = h19 78 2 := by rw [← e37]; exact x_up_i (by first | decide | omega)
      have q308 : h19 78 2 = h 78 2 := jK 0 f21 rg_78_2_0_1 (by first | decide | omega) (by first | decide | omega) (by decide)
      have q309 : h275 78 3 = h260 78 3 := by rw [← e277]; exact x_up_i (by first | decide | omega)
      have q310 : h260 78 3 = h189 78 3 := jK 0 f262 rg_78_3_0_1 (by first | decide | omega) (by first | decide | omega) (by decide)
      have q311 : h189 78 3 = h129 78 3 := jK 0 f191 rg_78_3_0_1 (by first | decide | omega) (by first | decide | omega) (by decide)
      have q312 : h129 78 3 = h114 78 3 := by rw [← e131]; exact x_up_i (by first | decide | omega)
      have q313 : h114 78 3 = h71 78 3 := jK 0 f116 rg_78_3_0_1 (by first | decide | omega) (by first | decide | omega) (by decide)
      have q314 : h71 78 3 = h35 78 3 := jK 0 f73 rg_78_3_0_1 (by first | decide | omega) (by first | decide | omega) (by decide)
      have q315 : h35 78 3 = h19 78 3 := by rw [← e37]; exact x_up_i (by first | decide | omega)
      have q316 : h19 78 3 = h 78 3 := jK 0 f21 rg_78_3_0_1 (by first | decide | omega) (by first | decide | omega) (by decide)
      have b317 := jB (e := 4) 0 hJ rg_78_4_0_1 (by first | decide | omega) (by first | decide | omega)
      have q318 : h275 78 4 = h260 78 4 := by rw [← e277]; exact x_up_i (by first | decide | omega)
      have q319 : h260 78 4 = h189 78 4 := jK 0 f262 rg_78_4_0_1 (by first | decide | omega) (by first | decide | omega) (by decide)
      have q320 : h189 78 4 = h129 78 4 := jK 0 f191 rg_78_4_0_1 (by first | decide | omega) (by first | decide | omega) (by decide)
      have q321 : h129 78 4 = h114 78 4 := by rw [← e131]; exact x_up_i (by first | decide | omega)
      have q322 : h114 78 4 = h71 78 4 := jK 0 f116 rg_78_4_0_1 (by first | decide | omega) (by first | decide | omega) (by decide)
      have q323 : h71 78 4 = h35 78 4 := jK 0 f73 rg_78_4_0_1 (by first | decide | omega) (by first | decide | omega) (by decide)
      have q324 : h35 78 4 = h19 78 4 := by rw [← e37]; exact x_up_i (by first | decide | omega)
      have q325 : h19 78 4 = h 78 4 := jK 0 f21 rg_78_4_0_1 (by first | decide | omega) (by first | decide | omega) (by decide)
      have b326 := jB (e := 5) 0 hJ rg_78_5_0_1 (by first | decide | omega) (by first | decide | omega)
      have q327 : h275 78 5 = h260 78 5 := by rw [← e277]; exact x_up_i (by first | decide | omega)
      have q328 : h260 78 5 = h189 78 5 := jK 0 f262 rg_78_5_0_1 (by first | decide | omega) (by first | decide | omega) (by decide)
      have q329 : h189 78 5 = h129 78 5 := jK 0 f191 rg_78_5_0_1 (by first | decide | omega) (by first | decide | omega) (by decide)
      have q330 : h129 78 5 = h114 78 5 := by rw [← e131]; exact x_up_i (by first | decide | omega)
      have q331 : h114 78 5 = h71 78 5 := jK 0 f116 rg_78_5_0_1 (by first | decide | omega) (by first | decide | omega) (by decide)
      have q332 : h71 78 5 = h35 78 5 := jK 0 f73 rg_78_5_0_1 (by first | decide | omega) (by first | decide | omega) (by decide)
      have q333 : h35 78 5 = h19 78 5 := by rw [← e37]; exact x_up_i (by first | decide | omega)
      have q334 : h19 78 5 = h 78 5 := jK 0 f21 rg_78_5_0_1 (by first | decide | omega) (by first | decide | omega) (by decide)
      have q335 : h35 75 7 = h19 75 7 := by rw [← e37]; exact x_up_k (by decide)
      obtain ⟨w336, e337⟩ := Tw.yes c77 (by first | decide | omega)
      have q338 : h129 75 7 = h114 75 7 := by rw [← e131]; exact x_up_k (by decide)
      obtain ⟨w339, e340⟩ := Tw.yes c195 (by first | decide | omega)
      have q341 : h35 75 7 = h19 75 7 := by rw [← e37]; exact x_up_k (by decide)
      obtain ⟨w342, e343⟩ := Tw.yes c77 (by first | decide | omega)
      have q344 : h129 75 7 = h114 75 7 := by rw [← e131]; exact x_up_k (by decide)
      obtain ⟨w345, e346⟩ := Tw.yes c195 (by first | decide | omega)
      have q347 : h275 75 9 = h260 75 9 := by rw [← e277]; exact x_up_k (by decide)
      have b348 := jB (e := 9) 0 j261 rg_75_9_0_1 (by first | decide | omega) (by first | decide | omega)
      refine x_retI (np := 83) (x := 0) (by decide +kernel) (by decide) (Or.inr ⟨by decide +kernel, by first | decide | omega, by first | decide | omega⟩) ⟨_, rfl, (by decide), ?_⟩
      exact ⟨j276, f278, (by first | decide | omega), (fun z => by first | decide | omega), (fun z => by first | decide | omega), (fun z => by first | decide | omega), (fun z => by first | decide | omega), (fun z => by first | decide | omega), (fun z => by first | decide | omega), (fun z => absurd z (by first | decide | omega)), (Or.inr ⟨by first | decide | omega, (nm9.y c28 (by first | decide | omega) (by first | decide | omega) rfl (by first | decide | omega) rfl (wd9.y w336 (congrArg (sk tB tN) (show h35 75 7 = h19 75 7 by first | decide | omega)) e337 rfl (nm9.y c123 (by first | decide | omega) (by first | decide | omega) rfl (by first | decide | omega) rfl (wd9.y w339 (congrArg (sk tB tN) (show h129 75 7 = h114 75 7 by first | decide | omega)) e340 rfl (nm9.f c269 (by first | decide | omega) (by first | decide | omega) rfl (by first | decide | omega) (by first | decide | omega))))))⟩), (fun _ => Or.inr ⟨by first | decide | omega, (mF.y c28 (by first | decide | omega) (by first | decide | omega) rfl (by first | decide | omega) rfl (wF.y w342 (congrArg (sk tB tN) (show h35 75 7 = h19 75 7 by first | decide | omega)) e343 rfl (mF.y c123 (by first | decide | omega) (by first | decide | omega) rfl (by first | decide | omega) rfl (wF.y w345 (congrArg (sk tB tN) (show h129 75 7 = h114 75 7 by first | decide | omega)) e346 rfl (mF.no c269 (by first | decide | omega) (by first | decide | omega) rfl (by first | decide | omega) (Eq.trans (show h275 75 9 = h260 75 9 by first | decide | omega) c270))))))⟩)⟩
    have q280 : ¬ (v256 < 2147483648) := q280
    have b349 := c265 (by first | decide | omega)
    have b350 := c266 (by first | decide | omega)
    have b351 := c267 (by first | decide | omega)
    refine x_const (np := 12) (x := 9223372043297226753) (a := 2147483649) (by decide +kernel) (by decide) (by decide) ?_
    refine x_goto (np := 15) (x := 16) (by decide +kernel) ?_
    refine x_retI (np := 17) (x := 0) (by decide +kernel) (by decide) (Or.inr ⟨by decide +kernel, by first | decide | omega, by first | decide | omega⟩) ⟨_, rfl, (by decide), ?_⟩
    refine x_retI (np := 13) (x := 0) (by decide +kernel) (by decide) (Or.inr ⟨by decide +kernel, by first | decide | omega, by first | decide | omega⟩) ⟨_, rfl, (by decide), ?_⟩
    refine x_ifz (k := 1) (tg := 83) (np := 81) (by decide +kernel) (by decide) (by decide) (fun q352 => ?_) (fun q353 => ?_)
    · have q352 : 2147483649 ≠ 2147483648 := q352
      refine x_aload (np := 84) (x := 0) (by decide +kernel) rfl (x_nc_le (by decide)) ?_
      have q354 : h275 75 3 = 78 := by have z := jB (e := 3) 0 j276 rg_75_3_0_1 (by decide) (by decide); omega
      refine x_getR (np := 87) (x := 707) (f := 3) (q := 78) (by decide +kernel) (by decide) (by decide +kernel) q354 ?_
      refine x_iload (np := 88) (x := 1) (by decide +kernel) rfl (by first | decide | omega) ?_
      refine x_const (np := 89) (x := 9223372051887161347) (a := 2147483651) (by decide +kernel) (by decide) (by decide) ?_
      refine x_iadd (np := 90) (x := 0) (v := (2147483811 + 4 * u8)) (by decide +kernel) (by first | decide | omega) (by decide) (by first | decide | omega) (by first | decide | omega) ?_
      refine x_const (np := 91) (x := 9223372034707292159) (a := 2147483647) (by decide +kernel) (by decide) (by decide) ?_
      refine x_ast (np := 92) (x := 0) (kd := 1) (n := 290) (i := (163 + 4 * u8)) (by decide +kernel) (Or.inl rfl) (by decide +kernel) (by first | decide | omega) (by first | decide | omega) (by decide) (by decide) (fun z => absurd z (by decide)) ?_
      have j356 := jU (e := (163 + 4 * u8)) (v := 2147483647) u8 j276 rg_78_163_4_10 (by first | decide | omega) (by first | decide | omega) (by first | decide | omega)
      have f358 := jF (e := (163 + 4 * u8)) (v := 2147483647) u8 f278 rg_78_163_4_10 (by first | decide | omega) (by first | decide | omega) (by decide)
      generalize e357 : x_up h275 78 (163 + 4 * u8) 2147483647 = h355 at j356 f358 ⊢
      refine x_aload (np := 93) (x := 0) (by decide +kernel) rfl (x_nc_le (by decide)) ?_
      have q359 : h355 75 3 = 78 := by have z := jB (e := 3) 0 j356 rg_75_3_0_1 (by decide) (by decide); omega
      refine x_getR (np := 96) (x := 707) (f := 3) (q := 78) (by decide +kernel) (by decide) (by decide +kernel) q359 ?_
      refine x_const (np := 97) (x := 9223372051887161347) (a := 2147483651) (by decide +kernel) (by decide) (by decide) ?_
      refine x_dup2 (np := 98) (x := 0) (by decide +kernel) (by have z := (iw_c_lt (a := 2147483651) (by decide)).1; omega) (by have z := x_nc_le (k := 78) (by decide); unfold x_r; omega) ?_
      have q360 : h355 78 3 = h275 78 3 := by rw [← e357]; exact x_up_i (by first | decide | omega)
      have q361 : h275 78 3 = h260 78 3 := by rw [← e277]; exact x_up_i (by first | decide | omega)
      have q362 : h260 78 3 = h189 78 3 := jK 0 f262 rg_78_3_0_1 (by first | decide | omega) (by first | decide | omega) (by decide)
      have q363 : h189 78 3 = h129 78 3 := jK 0 f191 rg_78_3_0_1 (by first | decide | omega) (by first | decide | omega) (by decide)
      have q364 : h129 78 3 = h114 78 3 := by rw [← e131]; exact x_up_i (by first | decide | omega)
      have q365 : h114 78 3 = h71 78 3 := jK 0 f116 rg_78_3_0_1 (by first | decide | omega) (by first | decide | omega) (by decide)
      have q366 : h71 78 3 = h35 78 3 := jK 0 f73 rg_78_3_0_1 (by first | decide | omega) (by first | decide | omega) (by decide)
      have q367 : h35 78 3 = h19 78 3 := by rw [← e37]; exact x_up_i (by first | decide | omega)
      have q368 : h19 78 3 = h 78 3 := jK 0 f21 rg_78_3_0_1 (by first | decide | omega) (by first | decide | omega) (by decide)
      refine x_aldC (np := 99) (x := 0) (n := 290) (i := 3) (q := (h 78 3)) (by decide +kernel) (by decide +kernel) (by first | decide | omega) (by first | decide | omega) (by decide) ((((((((q360.trans q361).trans q362).trans q363).trans q364).trans q365).trans q366).trans q367).trans q368) (fun l369 => ?_)
      refine x_const (np := 100) (x := 9223372043297226753) (a := 2147483649) (by decide +kernel) (by decide) (by decide) ?_
      refine x_iadd (np := 101) (x := 0) (v := (1 + (h 78 3))) (by decide +kernel) l3 (by decide) (by first | decide | omega) (by first | decide | omega) ?_
      refine x_ast (np := 102) (x := 0) (kd := 1) (n := 290) (i := 3) (by decide +kernel) (Or.inl rfl) (by decide +kernel) (by first | decide | omega) (by first | decide | omega) (by decide) (by first | decide | omega) (fun z => absurd z (by decide)) ?_
      have j371 := jU (e := 3) (v := (1 + (h 78 3))) 0 j356 rg_78_3_0_1 (by first | decide | omega) (by first | decide | omega) (by first | decide | omega)
      have f373 := jF (e := 3) (v := (1 + (h 78 3))) 0 f358 rg_78_3_0_1 (by first | decide | omega) (by first | decide | omega) (by decide)
      generalize e372 : x_up h355 78 3 (1 + (h 78 3)) = h370 at j371 f373 ⊢
      refine x_const (np := 103) (x := 9223372043297226753) (a := 2147483649) (by decide +kernel) (by decide) (by decide) ?_
      have b374 := jB (e := 0) 0 hJ rg_78_0_0_1 (by first | decide | omega) (by first | decide | omega)
      have q375 : h370 78 0 = h355 78 0 := by rw [← e372]; exact x_up_i (by first | decide | omega)
      have q376 : h355 78 0 = h275 78 0 := by rw [← e357]; exact x_up_i (by first | decide | omega)
      have q377 : h275 78 0 = h260 78 0 := by rw [← e277]; exact x_up_i (by first | decide | omega)
      have q378 : h260 78 0 = h189 78 0 := jK 0 f262 rg_78_0_0_1 (by first | decide | omega) (by first | decide | omega) (by decide)
      have q379 : h189 78 0 = h129 78 0 := jK 0 f191 rg_78_0_0_1 (by first | decide | omega) (by first | decide | omega) (by decide)
      have q380 : h129 78 0 = h114 78 0 := by rw [← e131]; exact x_up_i (by first | decide | omega)
      have q381 : h114 78 0 = h71 78 0 := jK 0 f116 rg_78_0_0_1 (by first | decide | omega) (by first | decide | omega) (by decide)
      have q382 : h71 78 0 = h35 78 0 := jK 0 f73 rg_78_0_0_1 (by first | decide | omega) (by first | decide | omega) (by decide)
      have q383 : h35 78 0 = h19 78 0 := by rw [← e37]; exact x_up_i (by first | decide | omega)
      have q384 : h19 78 0 = h 78 0 := jK 0 f21 rg_78_0_0_1 (by first | decide | omega) (by first | decide | omega) (by decide)
      have q385 : h370 78 1 = h355 78 1 := by rw [← e372]; exact x_up_i (by first | decide | omega)
      have q386 : h355 78 1 = h275 78 1 := by rw [← e357]; exact x_up_i (by first | decide | omega)
      have q387 : h275 78 1 = h260 78 1 := by rw [← e277]; exact x_up_i (by first | decide | omega)
      have q388 : h260 78 1 = h189 78 1 := jK 0 f262 rg_78_1_0_1 (by first | decide | omega) (by first | decide | omega) (by decide)
      have q389 : h189 78 1 = h129 78 1 := jK 0 f191 rg_78_1_0_1 (by first | decide | omega) (by first | decide | omega) (by decide)
      have q390 : h129 78 1 = h114 78 1 := by rw [← e131]; exact x_up_i (by first | decide | omega)
      have q391 : h114 78 1 = h71 78 1 := jK 0 f116 rg_78_1_0_1 (by first | decide | omega) (by first | decide | omega) (by decide)
      have q392 : h71 78 1 = h35 78 1 := jK 0 f73 rg_78_1_0_1 (by first | decide | omega) (by first | decide | omega) (by decide)
      have q393 : h35 78 1 = h19 78 1 := by rw [← e37]; exact x_up_i (by first | decide | omega)
      have q394 : h19 78 1 = h 78 1 := jK 0 f21 rg_78_1_0_1 (by first | decide | omega) (by first | decide | omega) (by decide)
      have b395 := jB (e := 2) 0 hJ rg_78_2_0_1 (by first | decide | omega) (by first | decide | omega)
      have q396 : h370 78 2 = h355 78 2 := by rw [← e372]; exact x_up_i (by first | decide | omega)
      have q397 : h355 78 2 = h275 78 2 := by rw [← e357]; exact x_up_i (by first | decide | omega)
      have q398 : h275 78 2 = h260 78 2 := by rw [← e277]; exact x_up_i (by first | decide | omega)
      have q399 : h260 78 2 = h189 78 2 := jK 0 f262 rg_78_2_0_1 (by first | decide | omega) (by first | decide | omega) (by decide)
      have q400 : h189 78 2 = h129 78 2 := jK 0 f191 rg_78_2_0_1 (by first | decide | omega) (by first | decide | omega) (by decide)
      have q401 : h129 78 2 = h114 78 2 := by rw [← e131]; exact x_up_i (by first | decide | omega)
      have q402 : h114 78 2 = h71 78 2 := jK 0 f116 rg_78_2_0_1 (by first | decide | omega) (by first | decide | omega) (by decide)
      have q403 : h71 78 2 = h35 78 2 := jK 0 f73 rg_78_2_0_1 (by first | decide | omega) (by first | decide | omega) (by decide)
      have q404 : h35 78 2 = h19 78 2 := by rw [← e37]; exact x_up_i (by first | decide | omega)
      have q405 : h19 78 2 = h 78 2 := jK 0 f21 rg_78_2_0_1 (by first | decide | omega) (by first | decide | omega) (by decide)
      have q406 : h370 78 3 = (1 + (h 78 3)) := by rw [← e372]; exact x_up_at
      have b407 := jB (e := 4) 0 hJ rg_78_4_0_1 (by first | decide | omega) (by first | decide | omega)
      have q408 : h370 78 4 = h355 78 4 := by rw [← e372]; exact x_up_i (by first | decide | omega)
      have q409 : h355 78 4 = h275 78 4 := by rw [← e357]; exact x_up_i (by first | decide | omega)
      have q410 : h275 78 4 = h260 78 4 := by rw [← e277]; exact x_up_i (by first | decide | omega)
      have q411 : h260 78 4 = h189 78 4 := jK 0 f262 rg_78_4_0_1 (by first | decide | omega) (by first | decide | omega) (by decide)
      have q412 : h189 78 4 = h129 78 4 := jK 0 f191 rg_78_4_0_1 (by first | decide | omega) (by first | decide | omega) (by decide)
      have q413 : h129 78 4 = h114 78 4 := by rw [← e131]; exact x_up_i (by first | decide | omega)
      have q414 : h114 78 4 = h71 78 4 := jK 0 f116 rg_78_4_0_1 (by first | decide | omega) (by first | decide | omega) (by decide)
      have q415 : h71 78 4 = h35 78 4 := jK 0 f73 rg_78_4_0_1 (by first | decide | omega) (by first | decide | omega) (by decide)
      have q416 : h35 78 4 = h19 78 4 := by rw [← e37]; exact x_up_i (by first | decide | omega)
      have q417 : h19 78 4 = h 78 4 := jK 0 f21 rg_78_4_0_1 (by first | decide | omega) (by first | decide | omega) (by decide)
      have b418 := jB (e := 5) 0 hJ rg_78_5_0_1 (by first | decide | omega) (by first | decide | omega)
      have q419 : h370 78 5 = h355 78 5 := by rw [← e372]; exact x_up_i (by first | decide | omega)
      have q420 : h355 78 5 = h275 78 5 := by rw [← e357]; exact x_up_i (by first | decide | omega)
      have q421 : h275 78 5 = h260 78 5 := by rw [← e277]; exact x_up_i (by first | decide | omega)
      have q422 : h260 78 5 = h189 78 5 := jK 0 f262 rg_78_5_0_1 (by first | decide | omega) (by first | decide | omega) (by decide)
      have q423 : h189 78 5 = h129 78 5 := jK 0 f191 rg_78_5_0_1 (by first | decide | omega) (by first | decide | omega) (by decide)
      have q424 : h129 78 5 = h114 78 5 := by rw [← e131]; exact x_up_i (by first | decide | omega)
      have q425 : h114 78 5 = h71 78 5 := jK 0 f116 rg_78_5_0_1 (by first | decide | omega) (by first | decide | omega) (by decide)
      have q426 : h71 78 5 = h35 78 5 := jK 0 f73 rg_78_5_0_1 (by first | decide | omega) (by first | decide | omega) (by decide)
      have q427 : h35 78 5 = h19 78 5 := by rw [← e37]; exact x_up_i (by first | decide | omega)
      have q428 : h19 78 5 = h 78 5 := jK 0 f21 rg_78_5_0_1 (by first | decide | omega) (by first | decide | omega) (by decide)
      have m438 := Cl.fr hC f21 (by decide)
      have m437 : Cl h35 := by rw [← e37]; exact Cl.upR (e := (160 + 4 * u8)) (v := v16) u8 m438 rg_76_160_4_10 (by first | decide | omega) (by first | decide | omega) (by first | decide | omega)
      have m436 := Cl.fr m437 f73 (by decide)
      have m435 := Cl.fr m436 f116 (by decide)
      have m434 : Cl h129 := by rw [← e131]; exact Cl.upR (e := (161 + 4 * u8)) (v := v110) u8 m435 rg_76_161_4_10 (by first | decide | omega) (by first | decide | omega) (by first | decide | omega)
      have m433 := Cl.fr m434 f191 (by decide)
      have m432 := Cl.fr m433 f262 (by decide)
      have m431 : Cl h275 := by rw [← e277]; exact Cl.upR (e := (162 + 4 * u8)) (v := v256) u8 m432 rg_76_162_4_10 (by first | decide | omega) (by first | decide | omega) (by first | decide | omega)
      have m430 : Cl h355 := by rw [← e357]; exact Cl.upR (e := (163 + 4 * u8)) (v := 2147483647) u8 m431 rg_76_163_4_10 (by first | decide | omega) (by first | decide | omega) (by first | decide | omega)
      have m429 : Cl h370 := by rw [← e372]; exact Cl.upR (e := 3) (v := (1 + (h 78 3))) 0 m430 rg_76_3_0_1 (by first | decide | omega) (by first | decide | omega) (by first | decide | omega)
      have q439 : h35 75 7 = h19 75 7 := by rw [← e37]; exact x_up_k (by decide)
      obtain ⟨w440, e441⟩ := Tw.yes c77 (by first | decide | omega)
      have q442 : h129 75 7 = h114 75 7 := by rw [← e131]; exact x_up_k (by decide)
      obtain ⟨w443, e444⟩ := Tw.yes c195 (by first | decide | omega)
      have q445 : h370 75 7 = h355 75 7 := by rw [← e372]; exact x_up_k (by decide)
      have q446 : h355 75 7 = h275 75 7 := by rw [← e357]; exact x_up_k (by decide)
      have q447 : h275 75 7 = h260 75 7 := by rw [← e277]; exact x_up_k (by decide)
      refine x_retI (np := 104) (x := 0) (by decide +kernel) (by decide) (Or.inr ⟨by decide +kernel, by first | decide | omega, by first | decide | omega⟩) ⟨_, rfl, (by decide), ?_⟩
      exact ⟨j371, f373, (by first | decide | omega), (fun z => by first | decide | omega), (fun z => by first | decide | omega), (fun z => by first | decide | omega), (fun z => by first | decide | omega), (fun z => by first | decide | omega), (fun z => by first | decide | omega), (fun _ => m429), (Or.inr ⟨by first | decide | omega, (nm9.y c28 (by first | decide | omega) (by first | decide | omega) rfl (by first | decide | omega) rfl (wd9.y w440 (congrArg (sk tB tN) (show h35 75 7 = h19 75 7 by first | decide | omega)) e441 rfl (nm9.y c123 (by first | decide | omega) (by first | decide | omega) rfl (by first | decide | omega) rfl (wd9.y w443 (congrArg (sk tB tN) (show h129 75 7 = h114 75 7 by first | decide | omega)) e444 rfl (nm9.y c269 (by first | decide | omega) (by first | decide | omega) rfl (by first | decide | omega) rfl (fin9.mk (by first | decide | omega) (congrArg (sk tB tN) (show h260 75 7 = h370 75 7 by first | decide | omega))))))))⟩), (fun z => absurd z (by first | decide | omega))⟩
    have q353 : ¬ (2147483649 ≠ 2147483648) := q353
    exfalso; omega
  have q5 : ¬ ((h 78 3) ≠ 2147483658) := q5
  refine x_const (np := 12) (x := 9223372039002259456) (a := 2147483648) (by decide +kernel) (by decide) (by decide) ?_
  have b448 := jB (e := 0) 0 hJ rg_78_0_0_1 (by first | decide | omega) (by first | decide | omega)
  have b449 := jB (e := 2) 0 hJ rg_78_2_0_1 (by first | decide | omega) (by first | decide | omega)
  have b450 := jB (e := 4) 0 hJ rg_78_4_0_1 (by first | decide | omega) (by first | decide | omega)
  have b451 := jB (e := 5) 0 hJ rg_78_5_0_1 (by first | decide | omega) (by first | decide | omega)
  have b452 := jB (e := 0) 0 hJ rg_76_0_0_1 (by first | decide | omega) (by first | decide | omega)
  refine x_retI (np := 13) (x := 0) (by decide +kernel) (by decide) (Or.inr ⟨by decide +kernel, by first | decide | omega, by first | decide | omega⟩) ⟨_, rfl, (by decide), ?_⟩
  exact ⟨hJ, hF, (by first | decide | omega), (fun z => by first | decide | omega), (fun z => by first | decide | omega), (fun z => by first | decide | omega), (fun z => by first | decide | omega), (fun z => by first | decide | omega), (fun z => by first | decide | omega), (fun z => absurd z (by first | decide | omega)), (Or.inl ⟨by first | decide | omega, by first | decide | omega⟩), (fun _ => Or.inl ⟨by first | decide | omega, rfl⟩)⟩
set_option maxHeartbeats 0 in
/-- LentNamesModel.readCourt()Z -/
theorem c182_75 {sc : Nat × Nat} {d  : Nat} {h : xh} {tB : Nat → Nat} {tN : Nat} (hJ : J h) (hC : Cl h) (hT : Tq tB tN h) : X sc 182 (d + 6) (xI fun r h' => J h' ∧ Fr 273678337 h h' ∧ (2147483648 ≤ r ∧ r ≤ 2147483649) ∧ (r = 2147483649 → h' 78 0 = h 78 0) ∧ (r = 2147483649 → h' 78 1 = h 78 1) ∧ (r = 2147483649 → h' 78 2 = h 78 2) ∧ (r = 2147483649 → h' 78 3 = h 78 3) ∧ (r = 2147483649 → h' 78 4 = h 78 4) ∧ (r = 2147483649 → h' 78 5 = h 78 5) ∧ (r = 2147483649 → Cl h') ∧ court9 tB tN (sk tB tN (h 75 7)) (rs r (sk tB tN (h' 75 7))) ∧ (r = 2147483648 → courtF tB tN (sk tB tN (h 75 7)) (h' 75 9))) 0 0 0 [x_r 75, 147573952589676412928] [] h := by
  have hF := Fr.refl 273678337 h
  refine x_aload (np := 1) (x := 0) (by decide +kernel) rfl (x_nc_le (by decide)) ?_
  refine x_ldcB (i := 2) (idx := 147) (tx := "day") (by rw [tb_y182]; exact List.mem_of_getElem? (i := 37) rfl) (by decide) (by rw [tb_b182]; decide +kernel) ?_
  refine x_cI (t := 6) (mj := 172) (n := 2) (rc := 12) (ml := 2) (nr := 0) (np := 6) (as := [x_r 75, x_b (2 + 1)]) (rest := []) (lo1 := [x_r 75, x_b (2 + 1)]) (by decide +kernel) (by decide) (by decide +kernel) (x_rb_of (by decide +kernel)) rfl rfl (x_wr (by decide) (x_wB (by decide) x_wn)) x_wn (by decide) rfl (c172_75_S0 hJ  (by decide) hT) (fun v1 h4 l2 q3 => ?_)
  obtain ⟨j5, f6, b7, c8, c9, c10, c11⟩ := q3
  have f12 := Fr.trans hF f6 (by decide)
  have b13 := jB (e := 7) 0 hJ rg_75_7_0_1 (by first | decide | omega) (by first | decide | omega)
  have b14 := jB (e := 7) 0 j5 rg_75_7_0_1 (by first | decide | omega) (by first | decide | omega)
  refine x_ifz (k := 0) (tg := 19) (np := 9) (by decide +kernel) (by decide) l2 (fun q15 => ?_) (fun q16 => ?_)
  · have q15 : v1 = 2147483648 := q15
    refine x_const (np := 20) (x := 9223372034707292159) (a := 2147483647) (by decide +kernel) (by decide) (by decide) ?_
    refine x_istore (np := 21) (x := 1) (lo' := [x_r 75, iv_c 2147483647]) (by decide +kernel) (by decide) (Nat.le_of_ble_eq_true rfl) rfl ?_
    refine x_iload (np := 22) (x := 1) (by decide +kernel) rfl (by decide) ?_
    refine x_ifz (k := 3) (tg := 27) (np := 25) (by decide +kernel) (by decide) (by decide) (fun q17 => ?_) (fun q18 => ?_)
    · have q17 : 2147483648 ≤ 2147483647 := q17
      exfalso; omega
    have q18 : ¬ (2147483648 ≤ 2147483647) := q18
    refine x_const (np := 26) (x := 9223372039002259456) (a := 2147483648) (by decide +kernel) (by decide) (by decide) ?_
    have b19 := jB (e := 0) 0 hJ rg_78_0_0_1 (by first | decide | omega) (by first | decide | omega)
    have q20 : h4 78 0 = h 78 0 := jK 0 f6 rg_78_0_0_1 (by first | decide | omega) (by first | decide | omega) (by decide)
    have q21 : h4 78 1 = h 78 1 := jK 0 f6 rg_78_1_0_1 (by first | decide | omega) (by first | decide | omega) (by decide)
    have b22 := jB (e := 2) 0 hJ rg_78_2_0_1 (by first | decide | omega) (by first | decide | omega)
    have q23 : h4 78 2 = h 78 2 := jK 0 f6 rg_78_2_0_1 (by first | decide | omega) (by first | decide | omega) (by decide)
    have b24 := jB (e := 3) 0 hJ rg_78_3_0_1 (by first | decide | omega) (by first | decide | omega)
    have q25 : h4 78 3 = h 78 3 := jK 0 f6 rg_78_3_0_1 (by first | decide | omega) (by first | decide | omega) (by decide)
    have b26 := jB (e := 4) 0 hJ rg_78_4_0_1 (by first | decide | omega) (by first | decide | omega)
    have q27 : h4 78 4 = h 78 4 := jK 0 f6 rg_78_4_0_1 (by first | decide | omega) (by first | decide | omega) (by decide)
    have b28 := jB (e := 5) 0 hJ rg_78_5_0_1 (by first | decide | omega) (by first | decide | omega)
    have q29 : h4 78 5 = h 78 5 := jK 0 f6 rg_78_5_0_1 (by first | decide | omega) (by first | decide | omega) (by decide)
    have b30 := jB (e := 0) 0 hJ rg_76_0_0_1 (by first | decide | omega) (by first | decide | omega)
    refine x_retI (np := 27) (x := 0) (by decide +kernel) (by decide) (Or.inr ⟨by decide +kernel, by first | decide | omega, by first | decide | omega⟩) ⟨_, rfl, (by decide), ?_⟩
    exact ⟨j5, f12, (by first | decide | omega), (fun z => by first | decide | omega), (fun z => by first | decide | omega), (fun z => by first | decide | omega), (fun z => by first | decide | omega), (fun z => by first | decide | omega), (fun z => by first | decide | omega), (fun z => absurd z (by first | decide | omega)), (wd9.f (Tw.no c10 (by first | decide | omega)) rfl (by first | decide | omega)), (fun _ => (wF.no (Tw.no c10 (by first | decide | omega)) rfl c11))⟩
  have q16 : ¬ (v1 = 2147483648) := q16
  have b31 := c9 (by first | decide | omega)
  refine x_aload (np := 10) (x := 0) (by decide +kernel) rfl (x_nc_le (by decide)) ?_
  refine x_const (np := 11) (x := 9223372039002259456) (a := 2147483648) (by decide +kernel) (by decide) (by decide) ?_
  refine x_const (np := 13) (x := 9223372086246899723) (a := 2147483659) (by decide +kernel) (by decide) (by decide) ?_
  have m35 := Tq.fr hT f6 (by decide) (by decide)
  refine x_cI (t := 6) (mj := 174) (n := 3) (rc := 12) (ml := 4) (nr := 0) (np := 16) (as := [x_r 75, iv_c 2147483648, iv_c 2147483659]) (rest := []) (lo1 := [x_r 75, iv_c 2147483648, iv_c 2147483659, 147573952589676412928]) (by decide +kernel) (by decide) (by decide +kernel) (x_rb_of (by decide +kernel)) rfl rfl (x_wr (by decide) (x_wi (by decide) (x_wi (by decide) x_wn))) x_wn (by decide) rfl (c174_75 j5  (by first | decide | omega) (by first | decide | omega) m35) (fun v32 h36 l33 q34 => ?_)
  obtain ⟨j37, f38, b39, c40, c41, c42, c43, c44, c45, c46⟩ := q34
  have f47 := Fr.trans f12 f38 (by decide)
  have b48 := jB (e := 7) 0 j37 rg_75_7_0_1 (by first | decide | omega) (by first | decide | omega)
  have b49 := c44 (by first | decide | omega)
  refine x_goto (np := 19) (x := 20) (by decide +kernel) ?_
  refine x_istore (np := 21) (x := 1) (lo' := [x_r 75, iv_c v32]) (by decide +kernel) l33 (Nat.le_of_ble_eq_true rfl) rfl ?_
  refine x_iload (np := 22) (x := 1) (by decide +kernel) rfl l33 ?_
  refine x_ifz (k := 3) (tg := 27) (np := 25) (by decide +kernel) (by decide) l33 (fun q50 => ?_) (fun q51 => ?_)
  · have q50 : 2147483648 ≤ v32 := q50
    have b52 := c41 (by first | decide | omega)
    have b53 := c42 (by first | decide | omega)
    have b54 := c43 (by first | decide | omega)
    refine x_aload (np := 28) (x := 0) (by decide +kernel) rfl (x_nc_le (by decide)) ?_
    have q55 : h36 75 3 = 78 := by have z := jB (e := 3) 0 j37 rg_75_3_0_1 (by decide) (by decide); omega
    refine x_getR (np := 31) (x := 707) (f := 3) (q := 78) (by decide +kernel) (by decide) (by decide +kernel) q55 ?_
    refine x_const (np := 33) (x := 9223372069067030535) (a := 2147483655) (by decide +kernel) (by decide) (by decide) ?_
    refine x_dup2 (np := 34) (x := 0) (by decide +kernel) (by have z := (iw_c_lt (a := 2147483655) (by decide)).1; omega) (by have z := x_nc_le (k := 78) (by decide); unfold x_r; omega) ?_
    have q56 : h36 78 7 = h4 78 7 := jK 0 f38 rg_78_7_0_1 (by first | decide | omega) (by first | decide | omega) (by decide)
    have q57 : h4 78 7 = h 78 7 := jK 0 f6 rg_78_7_0_1 (by first | decide | omega) (by first | decide | omega) (by decide)
    refine x_aldC (np := 35) (x := 0) (n := 290) (i := 7) (q := (h 78 7)) (by decide +kernel) (by decide +kernel) (by first | decide | omega) (by first | decide | omega) (by decide) (q56.trans q57) (fun l58 => ?_)
    refine x_const (np := 36) (x := 9223372043297226753) (a := 2147483649) (by decide +kernel) (by decide) (by decide) ?_
    refine x_iload (np := 37) (x := 1) (by decide +kernel) rfl l33 ?_
    refine x_any (np := 38) (k9 := 3) (by decide +kernel) (by decide) (by decide) l33 (fun v59 l60 => ?_)
    refine x_any (np := 39) (k9 := 1) (by decide +kernel) (by decide) l58 l60 (fun v61 l62 => ?_)
    refine x_ast (np := 40) (x := 0) (kd := 1) (n := 290) (i := 7) (by decide +kernel) (Or.inl rfl) (by decide +kernel) (by first | decide | omega) (by first | decide | omega) (by decide) l62 (fun z => absurd z (by decide)) ?_
    have j64 := jU (e := 7) (v := v61) 0 j37 rg_78_7_0_1 (by first | decide | omega) (by first | decide | omega) (by first | decide | omega)
    have f66 := jF (e := 7) (v := v61) 0 f47 rg_78_7_0_1 (by first | decide | omega) (by first | decide | omega) (by decide)
    generalize e65 : x_up h36 78 7 v61 = h63 at j64 f66 ⊢
    refine x_const (np := 41) (x := 9223372043297226753) (a := 2147483649) (by decide +kernel) (by decide) (by decide) ?_
    have b67 := jB (e := 0) 0 hJ rg_78_0_0_1 (by first | decide | omega) (by first | decide | omega)
    have q68 : h63 78 0 = h36 78 0 := by rw [← e65]; exact x_up_i (by first | decide | omega)
    have q69 : h36 78 0 = h4 78 0 := jK 0 f38 rg_78_0_0_1 (by first | decide | omega) (by first | decide | omega) (by decide)
    have q70 : h4 78 0 = h 78 0 := jK 0 f6 rg_78_0_0_1 (by first | decide | omega) (by first | decide | omega) (by decide)
    have q71 : h63 78 1 = h36 78 1 := by rw [← e65]; exact x_up_i (by first | decide | omega)
    have q72 : h36 78 1 = h4 78 1 := jK 0 f38 rg_78_1_0_1 (by first | decide | omega) (by first | decide | omega) (by decide)
    have q73 : h4 78 1 = h 78 1 := jK 0 f6 rg_78_1_0_1 (by first | decide | omega) (by first | decide | omega) (by decide)
    have b74 := jB (e := 2) 0 hJ rg_78_2_0_1 (by first | decide | omega) (by first | decide | omega)
    have q75 : h63 78 2 = h36 78 2 := by rw [← e65]; exact x_up_i (by first | decide | omega)
    have q76 : h36 78 2 = h4 78 2 := jK 0 f38 rg_78_2_0_1 (by first | decide | omega) (by first | decide | omega) (by decide)
    have q77 : h4 78 2 = h 78 2 := jK 0 f6 rg_78_2_0_1 (by first | decide | omega) (by first | decide | omega) (by decide)
    have b78 := jB (e := 3) 0 hJ rg_78_3_0_1 (by first | decide | omega) (by first | decide | omega)
    have q79 : h63 78 3 = h36 78 3 := by rw [← e65]; exact x_up_i (by first | decide | omega)
    have q80 : h36 78 3 = h4 78 3 := jK 0 f38 rg_78_3_0_1 (by first | decide | omega) (by first | decide | omega) (by decide)
    have q81 : h4 78 3 = h 78 3 := jK 0 f6 rg_78_3_0_1 (by first | decide | omega) (by first | decide | omega) (by decide)
    have b82 := jB (e := 4) 0 hJ rg_78_4_0_1 (by first | decide | omega) (by first | decide | omega)
    have q83 : h63 78 4 = h36 78 4 := by rw [← e65]; exact x_up_i (by first | decide | omega)
    have q84 : h36 78 4 = h4 78 4 := jK 0 f38 rg_78_4_0_1 (by first | decide | omega) (by first | decide | omega) (by decide)
    have q85 : h4 78 4 = h 78 4 := jK 0 f6 rg_78_4_0_1 (by first | decide | omega) (by first | decide | omega) (by decide)
    have b86 := jB (e := 5) 0 hJ rg_78_5_0_1 (by first | decide | omega) (by first | decide | omega)
    have q87 : h63 78 5 = h36 78 5 := by rw [← e65]; exact x_up_i (by first | decide | omega)
    have q88 : h36 78 5 = h4 78 5 := jK 0 f38 rg_78_5_0_1 (by first | decide | omega) (by first | decide | omega) (by decide)
    have q89 : h4 78 5 = h 78 5 := jK 0 f6 rg_78_5_0_1 (by first | decide | omega) (by first | decide | omega) (by decide)
    have m92 := Cl.fr hC f6 (by decide)
    have m91 := Cl.fr m92 f38 (by decide)
    have m90 : Cl h63 := by rw [← e65]; exact Cl.upR (e := 7) (v := v61) 0 m91 rg_76_7_0_1 (by first | decide | omega) (by first | decide | omega) (by first | decide | omega)
    have b93 := jB (e := 0) 0 hJ rg_76_0_0_1 (by first | decide | omega) (by first | decide | omega)
    obtain ⟨w94, e95⟩ := Tw.yes c10 (by first | decide | omega)
    have q96 : h63 75 7 = h36 75 7 := by rw [← e65]; exact x_up_k (by decide)
    refine x_retI (np := 42) (x := 0) (by decide +kernel) (by decide) (Or.inr ⟨by decide +kernel, by first | decide | omega, by first | decide | omega⟩) ⟨_, rfl, (by decide), ?_⟩
    exact ⟨j64, f66, (by first | decide | omega), (fun z => by first | decide | omega), (fun z => by first | decide | omega), (fun z => by first | decide | omega), (fun z => by first | decide | omega), (fun z => by first | decide | omega), (fun z => by first | decide | omega), (fun _ => m90), (wd9.y w94 rfl e95 rfl (nm9.y c45 (by first | decide | omega) (by first | decide | omega) rfl (by first | decide | omega) rfl (fin9.mk (by first | decide | omega) (congrArg (sk tB tN) (show h36 75 7 = h63 75 7 by first | decide | omega))))), (fun z => absurd z (by first | decide | omega))⟩
  have q51 : ¬ (2147483648 ≤ v32) := q51
  refine x_const (np := 26) (x := 9223372039002259456) (a := 2147483648) (by decide +kernel) (by decide) (by decide) ?_
  have b97 := jB (e := 0) 0 hJ rg_78_0_0_1 (by first | decide | omega) (by first | decide | omega)
  have q98 : h36 78 0 = h4 78 0 := jK 0 f38 rg_78_0_0_1 (by first | decide | omega) (by first | decide | omega) (by decide)
  have q99 : h4 78 0 = h 78 0 := jK 0 f6 rg_78_0_0_1 (by first | decide | omega) (by first | decide | omega) (by decide)
  have q100 : h36 78 1 = h4 78 1 := jK 0 f38 rg_78_1_0_1 (by first | decide | omega) (by first | decide | omega) (by decide)
  have q101 : h4 78 1 = h 78 1 := jK 0 f6 rg_78_1_0_1 (by first | decide | omega) (by first | decide | omega) (by decide)
  have b102 := jB (e := 2) 0 hJ rg_78_2_0_1 (by first | decide | omega) (by first | decide | omega)
  have q103 : h36 78 2 = h4 78 2 := jK 0 f38 rg_78_2_0_1 (by first | decide | omega) (by first | decide | omega) (by decide)
  have q104 : h4 78 2 = h 78 2 := jK 0 f6 rg_78_2_0_1 (by first | decide | omega) (by first | decide | omega) (by decide)
  have b105 := jB (e := 3) 0 hJ rg_78_3_0_1 (by first | decide | omega) (by first | decide | omega)
  have q106 : h36 78 3 = h4 78 3 := jK 0 f38 rg_78_3_0_1 (by first | decide | omega) (by first | decide | omega) (by decide)
  have q107 : h4 78 3 = h 78 3 := jK 0 f6 rg_78_3_0_1 (by first | decide | omega) (by first | decide | omega) (by decide)
  have b108 := jB (e := 4) 0 hJ rg_78_4_0_1 (by first | decide | omega) (by first | decide | omega)
  have q109 : h36 78 4 = h4 78 4 := jK 0 f38 rg_78_4_0_1 (by first | decide | omega) (by first | decide | omega) (by decide)
  have q110 : h4 78 4 = h 78 4 := jK 0 f6 rg_78_4_0_1 (by first | decide | omega) (by first | decide | omega) (by decide)
  have b111 := jB (e := 5) 0 hJ rg_78_5_0_1 (by first | decide | omega) (by first | decide | omega)
  have q112 : h36 78 5 = h4 78 5 := jK 0 f38 rg_78_5_0_1 (by first | decide | omega) (by first | decide | omega) (by decide)
  have q113 : h4 78 5 = h 78 5 := jK 0 f6 rg_78_5_0_1 (by first | decide | omega) (by first | decide | omega) (by decide)
  have b114 := jB (e := 0) 0 hJ rg_76_0_0_1 (by first | decide | omega) (by first | decide | omega)
  obtain ⟨w115, e116⟩ := Tw.yes c10 (by first | decide | omega)
  obtain ⟨w117, e118⟩ := Tw.yes c10 (by first | decide | omega)
  refine x_retI (np := 27) (x := 0) (by decide +kernel) (by decide) (Or.inr ⟨by decide +kernel, by first | decide | omega, by first | decide | omega⟩) ⟨_, rfl, (by decide), ?_⟩
  exact ⟨j37, f47, (by first | decide | omega), (fun z => by first | decide | omega), (fun z => by first | decide | omega), (fun z => by first | decide | omega), (fun z => by first | decide | omega), (fun z => by first | decide | omega), (fun z => by first | decide | omega), (fun z => absurd z (by first | decide | omega)), (wd9.y w115 rfl e116 rfl (nm9.f c45 (by first | decide | omega) (by first | decide | omega) rfl (by first | decide | omega) (by first | decide | omega))), (fun _ => (wF.y w117 rfl e118 rfl (mF.no c45 (by first | decide | omega) (by first | decide | omega) rfl (by first | decide | omega) c46)))⟩
set_option maxHeartbeats 0 in
/-- LentNamesModel.readDies()Z -/
theorem c181_75 {sc : Nat × Nat} {d  : Nat} {h : xh} {tB : Nat → Nat} {tN : Nat} (hJ : J h) (hC : Cl h) (hT : Tq tB tN h) : X sc 181 (d + 6) (xI fun r h' => J h' ∧ Fr 273678337 h h' ∧ (2147483648 ≤ r ∧ r ≤ 2147483649) ∧ (r = 2147483649 → h' 78 0 = h 78 0) ∧ (r = 2147483649 → h' 78 1 = h 78 1) ∧ (r = 2147483649 → h' 78 2 = h 78 2) ∧ (r = 2147483649 → h' 78 3 = h 78 3) ∧ (r = 2147483649 → h' 78 4 = h 78 4) ∧ (r = 2147483649 → h' 78 5 = h 78 5) ∧ (r = 2147483649 → Cl h') ∧ dies9 tB tN (h 76 0) (sk tB tN (h 75 7)) (rs r (sk tB tN (h' 75 7))) ∧ (r = 2147483648 → diesF tB tN (h 76 0) (sk tB tN (h 75 7)) (h' 75 9))) 0 0 0 [x_r 75, 147573952589676412928, 147573952589676412928] [] h := by
  have hF := Fr.refl 273678337 h
  refine x_aload (np := 1) (x := 0) (by decide +kernel) rfl (x_nc_le (by decide)) ?_
  refine x_const (np := 2) (x := 9223372039002259456) (a := 2147483648) (by decide +kernel) (by decide) (by decide) ?_
  refine x_aload (np := 3) (x := 0) (by decide +kernel) rfl (x_nc_le (by decide)) ?_
  refine x_nI (t := 6) (mj := 157) (n := 1) (rc := 12) (ml := 1) (nr := 2) (np := 6) (as := [x_r 75]) (rest := [iv_c 2147483648, x_r 75]) (lo1 := [x_r 75]) (by decide +kernel) (by decide) (by decide +kernel) (x_rb_of (by decide +kernel)) rfl rfl (x_wr (by decide) x_wn) (x_wi (by decide) (x_wr (by decide) x_wn)) (by decide) rfl ?_
  refine x_aload (np := 1) (x := 0) (by decide +kernel) rfl (x_nc_le (by decide)) ?_
  have q1 : h 75 1 = 76 := by have z := jB (e := 1) 0 hJ rg_75_1_0_1 (by decide) (by decide); omega
  refine x_getR (np := 4) (x := 705) (f := 1) (q := 76) (by decide +kernel) (by decide) (by decide +kernel) q1 ?_
  refine x_const (np := 5) (x := 9223372039002259456) (a := 2147483648) (by decide +kernel) (by decide) (by decide) ?_
  have b2 := jB (e := 0) 0 hJ rg_76_0_0_1 (by first | decide | omega) (by first | decide | omega)
  refine x_aldC (np := 6) (x := 0) (n := 1952) (i := 0) (q := (h 76 0)) (by decide +kernel) (by decide +kernel) (by first | decide | omega) (by first | decide | omega) (by decide) rfl (fun l3 => ?_)
  refine x_retI (np := 7) (x := 0) (by decide +kernel) l3 (Or.inl (by decide +kernel)) ⟨_, rfl, l3, ?_⟩
  refine x_const (np := 7) (x := 9223372043297226753) (a := 2147483649) (by decide +kernel) (by decide) (by decide) ?_
  obtain ⟨v4, q5⟩ : ∃ z, z + 2147483649 = (h 76 0) + 2147483648 := ⟨(h 76 0) + 2147483648 - 2147483649, by first | decide | omega⟩
  refine x_isub (np := 8) (x := 0) (v := v4) (by decide +kernel) l3 (by decide) (by first | decide | omega) (by first | decide | omega) ?_
  refine x_cI (t := 6) (mj := 174) (n := 3) (rc := 12) (ml := 4) (nr := 0) (np := 11) (as := [x_r 75, iv_c 2147483648, iv_c v4]) (rest := []) (lo1 := [x_r 75, iv_c 2147483648, iv_c v4, 147573952589676412928]) (by decide +kernel) (by decide) (by decide +kernel) (x_rb_of (by decide +kernel)) rfl rfl (x_wr (by decide) (x_wi (by decide) (x_wi (by first | decide | omega) x_wn))) x_wn (by decide) rfl (c174_75 hJ  (by first | decide | omega) (by first | decide | omega) hT) (fun v6 h9 l7 q8 => ?_)
  obtain ⟨j10, f11, b12, c13, c14, c15, c16, c17, c18, c19⟩ := q8
  have f20 := Fr.trans hF f11 (by decide)
  have b21 := jB (e := 7) 0 hJ rg_75_7_0_1 (by first | decide | omega) (by first | decide | omega)
  have b22 := jB (e := 7) 0 j10 rg_75_7_0_1 (by first | decide | omega) (by first | decide | omega)
  have b23 := c17 (by first | decide | omega)
  refine x_istore (np := 12) (x := 1) (lo' := [x_r 75, iv_c v6, 147573952589676412928]) (by decide +kernel) l7 (Nat.le_of_ble_eq_true rfl) rfl ?_
  refine x_iload (np := 13) (x := 1) (by decide +kernel) rfl l7 ?_
  refine x_ifz (k := 2) (tg := 35) (np := 16) (by decide +kernel) (by decide) l7 (fun q24 => ?_) (fun q25 => ?_)
  · have q24 : v6 < 2147483648 := q24
    refine x_const (np := 36) (x := 9223372034707292159) (a := 2147483647) (by decide +kernel) (by decide) (by decide) ?_
    refine x_istore (np := 37) (x := 2) (lo' := [x_r 75, iv_c v6, iv_c 2147483647]) (by decide +kernel) (by decide) (Nat.le_of_ble_eq_true rfl) rfl ?_
    refine x_iload (np := 38) (x := 2) (by decide +kernel) rfl (by decide) ?_
    refine x_ifz (k := 3) (tg := 43) (np := 41) (by decide +kernel) (by decide) (by decide) (fun q26 => ?_) (fun q27 => ?_)
    · have q26 : 2147483648 ≤ 2147483647 := q26
      exfalso; omega
    have q27 : ¬ (2147483648 ≤ 2147483647) := q27
    refine x_const (np := 42) (x := 9223372039002259456) (a := 2147483648) (by decide +kernel) (by decide) (by decide) ?_
    have b28 := jB (e := 0) 0 hJ rg_78_0_0_1 (by first | decide | omega) (by first | decide | omega)
    have q29 : h9 78 0 = h 78 0 := jK 0 f11 rg_78_0_0_1 (by first | decide | omega) (by first | decide | omega) (by decide)
    have q30 : h9 78 1 = h 78 1 := jK 0 f11 rg_78_1_0_1 (by first | decide | omega) (by first | decide | omega) (by decide)
    have b31 := jB (e := 2) 0 hJ rg_78_2_0_1 (by first | decide | omega) (by first | decide | omega)
    have q32 : h9 78 2 = h 78 2 := jK 0 f11 rg_78_2_0_1 (by first | decide | omega) (by first | decide | omega) (by decide)
    have b33 := jB (e := 3) 0 hJ rg_78_3_0_1 (by first | decide | omega) (by first | decide | omega)
    have q34 : h9 78 3 = h 78 3 := jK 0 f11 rg_78_3_0_1 (by first | decide | omega) (by first | decide | omega) (by decide)
    have b35 := jB (e := 4) 0 hJ rg_78_4_0_1 (by first | decide | omega) (by first | decide | omega)
    have q36 : h9 78 4 = h 78 4 := jK 0 f11 rg_78_4_0_1 (by first | decide | omega) (by first | decide | omega) (by decide)
    have b37 := jB (e := 5) 0 hJ rg_78_5_0_1 (by first | decide | omega) (by first | decide | omega)
    have q38 : h9 78 5 = h 78 5 := jK 0 f11 rg_78_5_0_1 (by first | decide | omega) (by first | decide | omega) (by decide)
    refine x_retI (np := 43) (x := 0) (by decide +kernel) (by decide) (Or.inr ⟨by decide +kernel, by first | decide | omega, by first | decide | omega⟩) ⟨_, rfl, (by decide), ?_⟩
    exact ⟨j10, f20, (by first | decide | omega), (fun z => by first | decide | omega), (fun z => by first | decide | omega), (fun z => by first | decide | omega), (fun z => by first | decide | omega), (fun z => by first | decide | omega), (fun z => by first | decide | omega), (fun z => absurd z (by first | decide | omega)), (nm9.f c18 (by first | decide | omega) (by first | decide | omega) rfl (by first | decide | omega) (by first | decide | omega)), (fun _ => (mF.no c18 (by first | decide | omega) (by first | decide | omega) rfl (by first | decide | omega) c19))⟩
  have q25 : ¬ (v6 < 2147483648) := q25
  have b39 := c14 (by first | decide | omega)
  have b40 := c15 (by first | decide | omega)
  have b41 := c16 (by first | decide | omega)
  refine x_aload (np := 17) (x := 0) (by decide +kernel) rfl (x_nc_le (by decide)) ?_
  refine x_ldcB (i := 2) (idx := 147) (tx := "day") (by rw [tb_y181]; exact List.mem_of_getElem? (i := 37) rfl) (by decide) (by rw [tb_b181]; decide +kernel) ?_
  have m45 := Tq.fr hT f11 (by decide) (by decide)
  refine x_cI (t := 6) (mj := 172) (n := 2) (rc := 12) (ml := 2) (nr := 0) (np := 22) (as := [x_r 75, x_b (2 + 1)]) (rest := []) (lo1 := [x_r 75, x_b (2 + 1)]) (by decide +kernel) (by decide) (by decide +kernel) (x_rb_of (by decide +kernel)) rfl rfl (x_wr (by decide) (x_wB (by decide) x_wn)) x_wn (by decide) rfl (c172_75_S0 j10  (by decide) m45) (fun v42 h46 l43 q44 => ?_)
  obtain ⟨j47, f48, b49, c50, c51, c52, c53⟩ := q44
  have f54 := Fr.trans f20 f48 (by decide)
  have b55 := jB (e := 7) 0 j47 rg_75_7_0_1 (by first | decide | omega) (by first | decide | omega)
  refine x_ifz (k := 0) (tg := 35) (np := 25) (by decide +kernel) (by decide) l43 (fun q56 => ?_) (fun q57 => ?_)
  · have q56 : v42 = 2147483648 := q56
    refine x_const (np := 36) (x := 9223372034707292159) (a := 2147483647) (by decide +kernel) (by decide) (by decide) ?_
    refine x_istore (np := 37) (x := 2) (lo' := [x_r 75, iv_c v6, iv_c 2147483647]) (by decide +kernel) (by decide) (Nat.le_of_ble_eq_true rfl) rfl ?_
    refine x_iload (np := 38) (x := 2) (by decide +kernel) rfl (by decide) ?_
    refine x_ifz (k := 3) (tg := 43) (np := 41) (by decide +kernel) (by decide) (by decide) (fun q58 => ?_) (fun q59 => ?_)
    · have q58 : 2147483648 ≤ 2147483647 := q58
      exfalso; omega
    have q59 : ¬ (2147483648 ≤ 2147483647) := q59
    refine x_const (np := 42) (x := 9223372039002259456) (a := 2147483648) (by decide +kernel) (by decide) (by decide) ?_
    have b60 := jB (e := 0) 0 hJ rg_78_0_0_1 (by first | decide | omega) (by first | decide | omega)
    have q61 : h46 78 0 = h9 78 0 := jK 0 f48 rg_78_0_0_1 (by first | decide | omega) (by first | decide | omega) (by decide)
    have q62 : h9 78 0 = h 78 0 := jK 0 f11 rg_78_0_0_1 (by first | decide | omega) (by first | decide | omega) (by decide)
    have q63 : h46 78 1 = h9 78 1 := jK 0 f48 rg_78_1_0_1 (by first | decide | omega) (by first | decide | omega) (by decide)
    have q64 : h9 78 1 = h 78 1 := jK 0 f11 rg_78_1_0_1 (by first | decide | omega) (by first | decide | omega) (by decide)
    have b65 := jB (e := 2) 0 hJ rg_78_2_0_1 (by first | decide | omega) (by first | decide | omega)
    have q66 : h46 78 2 = h9 78 2 := jK 0 f48 rg_78_2_0_1 (by first | decide | omega) (by first | decide | omega) (by decide)
    have q67 : h9 78 2 = h 78 2 := jK 0 f11 rg_78_2_0_1 (by first | decide | omega) (by first | decide | omega) (by decide)
    have b68 := jB (e := 3) 0 hJ rg_78_3_0_1 (by first | decide | omega) (by first | decide | omega)
    have q69 : h46 78 3 = h9 78 3 := jK 0 f48 rg_78_3_0_1 (by first | decide | omega) (by first | decide | omega) (by decide)
    have q70 : h9 78 3 = h 78 3 := jK 0 f11 rg_78_3_0_1 (by first | decide | omega) (by first | decide | omega) (by decide)
    have b71 := jB (e := 4) 0 hJ rg_78_4_0_1 (by first | decide | omega) (by first | decide | omega)
    have q72 : h46 78 4 = h9 78 4 := jK 0 f48 rg_78_4_0_1 (by first | decide | omega) (by first | decide | omega) (by decide)
    have q73 : h9 78 4 = h 78 4 := jK 0 f11 rg_78_4_0_1 (by first | decide | omega) (by first | decide | omega) (by decide)
    have b74 := jB (e := 5) 0 hJ rg_78_5_0_1 (by first | decide | omega) (by first | decide | omega)
    have q75 : h46 78 5 = h9 78 5 := jK 0 f48 rg_78_5_0_1 (by first | decide | omega) (by first | decide | omega) (by decide)
    have q76 : h9 78 5 = h 78 5 := jK 0 f11 rg_78_5_0_1 (by first | decide | omega) (by first | decide | omega) (by decide)
    refine x_retI (np := 43) (x := 0) (by decide +kernel) (by decide) (Or.inr ⟨by decide +kernel, by first | decide | omega, by first | decide | omega⟩) ⟨_, rfl, (by decide), ?_⟩
    exact ⟨j47, f54, (by first | decide | omega), (fun z => by first | decide | omega), (fun z => by first | decide | omega), (fun z => by first | decide | omega), (fun z => by first | decide | omega), (fun z => by first | decide | omega), (fun z => by first | decide | omega), (fun z => absurd z (by first | decide | omega)), (nm9.y c18 (by first | decide | omega) (by first | decide | omega) rfl (by first | decide | omega) rfl (wd9.f (Tw.no c52 (by first | decide | omega)) rfl (by first | decide | omega))), (fun _ => (mF.y c18 (by first | decide | omega) (by first | decide | omega) rfl (by first | decide | omega) rfl (wF.no (Tw.no c52 (by first | decide | omega)) rfl c53)))⟩
  have q57 : ¬ (v42 = 2147483648) := q57
  have b77 := c51 (by first | decide | omega)
  refine x_aload (np := 26) (x := 0) (by decide +kernel) rfl (x_nc_le (by decide)) ?_
  refine x_const (np := 27) (x := 9223372039002259456) (a := 2147483648) (by decide +kernel) (by decide) (by decide) ?_
  refine x_const (np := 29) (x := 9223372086246899723) (a := 2147483659) (by decide +kernel) (by decide) (by decide) ?_
  have m81 := Tq.fr m45 f48 (by decide) (by decide)
  refine x_cI (t := 6) (mj := 174) (n := 3) (rc := 12) (ml := 4) (nr := 0) (np := 32) (as := [x_r 75, iv_c 2147483648, iv_c 2147483659]) (rest := []) (lo1 := [x_r 75, iv_c 2147483648, iv_c 2147483659, 147573952589676412928]) (by decide +kernel) (by decide) (by decide +kernel) (x_rb_of (by decide +kernel)) rfl rfl (x_wr (by decide) (x_wi (by decide) (x_wi (by decide) x_wn))) x_wn (by decide) rfl (c174_75 j47  (by first | decide | omega) (by first | decide | omega) m81) (fun v78 h82 l79 q80 => ?_)
  obtain ⟨j83, f84, b85, c86, c87, c88, c89, c90, c91, c92⟩ := q80
  have f93 := Fr.trans f54 f84 (by decide)
  have b94 := jB (e := 7) 0 j83 rg_75_7_0_1 (by first | decide | omega) (by first | decide | omega)
  have b95 := c90 (by first | decide | omega)
  refine x_goto (np := 35) (x := 36) (by decide +kernel) ?_
  refine x_istore (np := 37) (x := 2) (lo' := [x_r 75, iv_c v6, iv_c v78]) (by decide +kernel) l79 (Nat.le_of_ble_eq_true rfl) rfl ?_
  refine x_iload (np := 38) (x := 2) (by decide +kernel) rfl l79 ?_
  refine x_ifz (k := 3) (tg := 43) (np := 41) (by decide +kernel) (by decide) l79 (fun q96 => ?_) (fun q97 => ?_)
  · have q96 : 2147483648 ≤ v78 := q96
    have b98 := c87 (by first | decide | omega)
    have b99 := c88 (by first | decide | omega)
    have b100 := c89 (by first | decide | omega)
    refine x_aload (np := 44) (x := 0) (by decide +kernel) rfl (x_nc_le (by decide)) ?_
    have q101 : h82 75 3 = 78 := by have z := jB (e := 3) 0 j83 rg_75_3_0_1 (by decide) (by decide); omega
    refine x_getR (np := 47) (x := 707) (f := 3) (q := 78) (by decide +kernel) (by decide) (by decide +kernel) q101 ?_
    refine x_const (np := 49) (x := 9223372073361997832) (a := 2147483656) (by decide +kernel) (by decide) (by decide) ?_
    refine x_iload (np := 50) (x := 1) (by decide +kernel) rfl l7 ?_
    refine x_iadd (np := 51) (x := 0) (v := (8 + v6)) (by decide +kernel) (by decide) l7 (by first | decide | omega) (by first | decide | omega) ?_
    refine x_aload (np := 52) (x := 0) (by decide +kernel) rfl (x_nc_le (by decide)) ?_
    have q102 : h82 75 3 = 78 := by have z := jB (e := 3) 0 j83 rg_75_3_0_1 (by decide) (by decide); omega
    refine x_getR (np := 55) (x := 707) (f := 3) (q := 78) (by decide +kernel) (by decide) (by decide +kernel) q102 ?_
    refine x_const (np := 57) (x := 9223372073361997832) (a := 2147483656) (by decide +kernel) (by decide) (by decide) ?_
    refine x_iload (np := 58) (x := 1) (by decide +kernel) rfl l7 ?_
    refine x_iadd (np := 59) (x := 0) (v := (8 + v6)) (by decide +kernel) (by decide) l7 (by first | decide | omega) (by first | decide | omega) ?_
    obtain ⟨u103, q104⟩ : ∃ z, v6 = 2147483648 + z := ⟨v6 - 2147483648, by first | decide | omega⟩
    have q105 : h82 78 (8 + u103) = h46 78 (8 + u103) := jK u103 f84 rg_78_8_1_6 (by first | decide | omega) (by first | decide | omega) (by decide)
    have q106 : h46 78 (8 + u103) = h9 78 (8 + u103) := jK u103 f48 rg_78_8_1_6 (by first | decide | omega) (by first | decide | omega) (by decide)
    have q107 : h9 78 (8 + u103) = h 78 (8 + u103) := jK u103 f11 rg_78_8_1_6 (by first | decide | omega) (by first | decide | omega) (by decide)
    refine x_aldC (np := 60) (x := 0) (n := 290) (i := (8 + u103)) (q := (h 78 (8 + u103))) (by decide +kernel) (by decide +kernel) (by first | decide | omega) (by first | decide | omega) (by decide) ((q105.trans q106).trans q107) (fun l108 => ?_)
    refine x_iload (np := 61) (x := 2) (by decide +kernel) rfl l79 ?_
    refine x_min (np := 64) (by decide +kernel) l108 l79 (Nat.le_trans (x_wi l79 (x_wi l108 (x_wi (by first | decide | omega) (x_wr (by decide) x_wn)))) (by decide)) ?_
    obtain ⟨v109, q110⟩ : ∃ w, w = min (h 78 (8 + u103)) v78 := ⟨_, rfl⟩
    rw [← q110]
    have b111 : v109 ≤ (h 78 (8 + u103)) ∧ v109 ≤ v78 := by first | decide | omega
    refine x_ast (np := 65) (x := 0) (kd := 1) (n := 290) (i := (8 + u103)) (by decide +kernel) (Or.inl rfl) (by decide +kernel) (by first | decide | omega) (by first | decide | omega) (by decide) (by first | decide | omega) (fun z => absurd z (by decide)) ?_
    have j113 := jU (e := (8 + u103)) (v := v109) u103 j83 rg_78_8_1_6 (by first | decide | omega) (by first | decide | omega) (by first | decide | omega)
    have f115 := jF (e := (8 + u103)) (v := v109) u103 f93 rg_78_8_1_6 (by first | decide | omega) (by first | decide | omega) (by decide)
    generalize e114 : x_up h82 78 (8 + u103) v109 = h112 at j113 f115 ⊢
    refine x_const (np := 66) (x := 9223372043297226753) (a := 2147483649) (by decide +kernel) (by decide) (by decide) ?_
    have b116 := jB (e := 0) 0 hJ rg_78_0_0_1 (by first | decide | omega) (by first | decide | omega)
    have q117 : h112 78 0 = h82 78 0 := by rw [← e114]; exact x_up_i (by first | decide | omega)
    have q118 : h82 78 0 = h46 78 0 := jK 0 f84 rg_78_0_0_1 (by first | decide | omega) (by first | decide | omega) (by decide)
    have q119 : h46 78 0 = h9 78 0 := jK 0 f48 rg_78_0_0_1 (by first | decide | omega) (by first | decide | omega) (by decide)
    have q120 : h9 78 0 = h 78 0 := jK 0 f11 rg_78_0_0_1 (by first | decide | omega) (by first | decide | omega) (by decide)
    have q121 : h112 78 1 = h82 78 1 := by rw [← e114]; exact x_up_i (by first | decide | omega)
    have q122 : h82 78 1 = h46 78 1 := jK 0 f84 rg_78_1_0_1 (by first | decide | omega) (by first | decide | omega) (by decide)
    have q123 : h46 78 1 = h9 78 1 := jK 0 f48 rg_78_1_0_1 (by first | decide | omega) (by first | decide | omega) (by decide)
    have q124 : h9 78 1 = h 78 1 := jK 0 f11 rg_78_1_0_1 (by first | decide | omega) (by first | decide | omega) (by decide)
    have b125 := jB (e := 2) 0 hJ rg_78_2_0_1 (by first | decide | omega) (by first | decide | omega)
    have q126 : h112 78 2 = h82 78 2 := by rw [← e114]; exact x_up_i (by first | decide | omega)
    have q127 : h82 78 2 = h46 78 2 := jK 0 f84 rg_78_2_0_1 (by first | decide | omega) (by first | decide | omega) (by decide)
    have q128 : h46 78 2 = h9 78 2 := jK 0 f48 rg_78_2_0_1 (by first | decide | omega) (by first | decide | omega) (by decide)
    have q129 : h9 78 2 = h 78 2 := jK 0 f11 rg_78_2_0_1 (by first | decide | omega) (by first | decide | omega) (by decide)
    have b130 := jB (e := 3) 0 hJ rg_78_3_0_1 (by first | decide | omega) (by first | decide | omega)
    have q131 : h112 78 3 = h82 78 3 := by rw [← e114]; exact x_up_i (by first | decide | omega)
    have q132 : h82 78 3 = h46 78 3 := jK 0 f84 rg_78_3_0_1 (by first | decide | omega) (by first | decide | omega) (by decide)
    have q133 : h46 78 3 = h9 78 3 := jK 0 f48 rg_78_3_0_1 (by first | decide | omega) (by first | decide | omega) (by decide)
    have q134 : h9 78 3 = h 78 3 := jK 0 f11 rg_78_3_0_1 (by first | decide | omega) (by first | decide | omega) (by decide)
    have b135 := jB (e := 4) 0 hJ rg_78_4_0_1 (by first | decide | omega) (by first | decide | omega)
    have q136 : h112 78 4 = h82 78 4 := by rw [← e114]; exact x_up_i (by first | decide | omega)
    have q137 : h82 78 4 = h46 78 4 := jK 0 f84 rg_78_4_0_1 (by first | decide | omega) (by first | decide | omega) (by decide)
    have q138 : h46 78 4 = h9 78 4 := jK 0 f48 rg_78_4_0_1 (by first | decide | omega) (by first | decide | omega) (by decide)
    have q139 : h9 78 4 = h 78 4 := jK 0 f11 rg_78_4_0_1 (by first | decide | omega) (by first | decide | omega) (by decide)
    have b140 := jB (e := 5) 0 hJ rg_78_5_0_1 (by first | decide | omega) (by first | decide | omega)
    have q141 : h112 78 5 = h82 78 5 := by rw [← e114]; exact x_up_i (by first | decide | omega)
    have q142 : h82 78 5 = h46 78 5 := jK 0 f84 rg_78_5_0_1 (by first | decide | omega) (by first | decide | omega) (by decide)
    have q143 : h46 78 5 = h9 78 5 := jK 0 f48 rg_78_5_0_1 (by first | decide | omega) (by first | decide | omega) (by decide)
    have q144 : h9 78 5 = h 78 5 := jK 0 f11 rg_78_5_0_1 (by first | decide | omega) (by first | decide | omega) (by decide)
    have m148 := Cl.fr hC f11 (by decide)
    have m147 := Cl.fr m148 f48 (by decide)
    have m146 := Cl.fr m147 f84 (by decide)
    have m145 : Cl h112 := by rw [← e114]; exact Cl.upR (e := (8 + u103)) (v := v109) u103 m146 rg_76_8_1_6 (by first | decide | omega) (by first | decide | omega) (by first | decide | omega)
    obtain ⟨w149, e150⟩ := Tw.yes c52 (by first | decide | omega)
    have q151 : h112 75 7 = h82 75 7 := by rw [← e114]; exact x_up_k (by decide)
    refine x_retI (np := 67) (x := 0) (by decide +kernel) (by decide) (Or.inr ⟨by decide +kernel, by first | decide | omega, by first | decide | omega⟩) ⟨_, rfl, (by decide), ?_⟩
    exact ⟨j113, f115, (by first | decide | omega), (fun z => by first | decide | omega), (fun z => by first | decide | omega), (fun z => by first | decide | omega), (fun z => by first | decide | omega), (fun z => by first | decide | omega), (fun z => by first | decide | omega), (fun _ => m145), (nm9.y c18 (by first | decide | omega) (by first | decide | omega) rfl (by first | decide | omega) rfl (wd9.y w149 rfl e150 rfl (nm9.y c91 (by first | decide | omega) (by first | decide | omega) rfl (by first | decide | omega) rfl (fin9.mk (by first | decide | omega) (congrArg (sk tB tN) (show h82 75 7 = h112 75 7 by first | decide | omega)))))), (fun z => absurd z (by first | decide | omega))⟩
  have q97 : ¬ (2147483648 ≤ v78) := q97
  refine x_const (np := 42) (x := 9223372039002259456) (a := 2147483648) (by decide +kernel) (by decide) (by decide) ?_
  have b152 := jB (e := 0) 0 hJ rg_78_0_0_1 (by first | decide | omega) (by first | decide | omega)
  have q153 : h82 78 0 = h46 78 0 := jK 0 f84 rg_78_0_0_1 (by first | decide | omega) (by first | decide | omega) (by decide)
  have q154 : h46 78 0 = h9 78 0 := jK 0 f48 rg_78_0_0_1 (by first | decide | omega) (by first | decide | omega) (by decide)
  have q155 : h9 78 0 = h 78 0 := jK 0 f11 rg_78_0_0_1 (by first | decide | omega) (by first | decide | omega) (by decide)
  have q156 : h82 78 1 = h46 78 1 := jK 0 f84 rg_78_1_0_1 (by first | decide | omega) (by first | decide | omega) (by decide)
  have q157 : h46 78 1 = h9 78 1 := jK 0 f48 rg_78_1_0_1 (by first | decide | omega) (by first | decide | omega) (by decide)
  have q158 : h9 78 1 = h 78 1 := jK 0 f11 rg_78_1_0_1 (by first | decide | omega) (by first | decide | omega) (by decide)
  have b159 := jB (e := 2) 0 hJ rg_78_2_0_1 (by first | decide | omega) (by first | decide | omega)
  have q160 : h82 78 2 = h46 78 2 := jK 0 f84 rg_78_2_0_1 (by first | decide | omega) (by first | decide | omega) (by decide)
  have q161 : h46 78 2 = h9 78 2 := jK 0 f48 rg_78_2_0_1 (by first | decide | omega) (by first | decide | omega) (by decide)
  have q162 : h9 78 2 = h 78 2 := jK 0 f11 rg_78_2_0_1 (by first | decide | omega) (by first | decide | omega) (by decide)
  have b163 := jB (e := 3) 0 hJ rg_78_3_0_1 (by first | decide | omega) (by first | decide | omega)
  have q164 : h82 78 3 = h46 78 3 := jK 0 f84 rg_78_3_0_1 (by first | decide | omega) (by first | decide | omega) (by decide)
  have q165 : h46 78 3 = h9 78 3 := jK 0 f48 rg_78_3_0_1 (by first | decide | omega) (by first | decide | omega) (by decide)
  have q166 : h9 78 3 = h 78 3 := jK 0 f11 rg_78_3_0_1 (by first | decide | omega) (by first | decide | omega) (by decide)
  have b167 := jB (e := 4) 0 hJ rg_78_4_0_1 (by first | decide | omega) (by first | decide | omega)
  have q168 : h82 78 4 = h46 78 4 := jK 0 f84 rg_78_4_0_1 (by first | decide | omega) (by first | decide | omega) (by decide)
  have q169 : h46 78 4 = h9 78 4 := jK 0 f48 rg_78_4_0_1 (by first | decide | omega) (by first | decide | omega) (by decide)
  have q170 : h9 78 4 = h 78 4 := jK 0 f11 rg_78_4_0_1 (by first | decide | omega) (by first | decide | omega) (by decide)
  have b171 := jB (e := 5) 0 hJ rg_78_5_0_1 (by first | decide | omega) (by first | decide | omega)
  have q172 : h82 78 5 = h46 78 5 := jK 0 f84 rg_78_5_0_1 (by first | decide | omega) (by first | decide | omega) (by decide)
  have q173 : h46 78 5 = h9 78 5 := jK 0 f48 rg_78_5_0_1 (by first | decide | omega) (by first | decide | omega) (by decide)
  have q174 : h9 78 5 = h 78 5 := jK 0 f11 rg_78_5_0_1 (by first | decide | omega) (by first | decide | omega) (by decide)
  obtain ⟨w175, e176⟩ := Tw.yes c52 (by first | decide | omega)
  obtain ⟨w177, e178⟩ := Tw.yes c52 (by first | decide | omega)
  refine x_retI (np := 43) (x := 0) (by decide +kernel) (by decide) (Or.inr ⟨by decide +kernel, by first | decide | omega, by first | decide | omega⟩) ⟨_, rfl, (by decide), ?_⟩
  exact ⟨j83, f93, (by first | decide | omega), (fun z => by first | decide | omega), (fun z => by first | decide | omega), (fun z => by first | decide | omega), (fun z => by first | decide | omega), (fun z => by first | decide | omega), (fun z => by first | decide | omega), (fun z => absurd z (by first | decide | omega)), (nm9.y c18 (by first | decide | omega) (by first | decide | omega) rfl (by first | decide | omega) rfl (wd9.y w175 rfl e176 rfl (nm9.f c91 (by first | decide | omega) (by first | decide | omega) rfl (by first | decide | omega) (by first | decide | omega)))), (fun _ => (mF.y c18 (by first | decide | omega) (by first | decide | omega) rfl (by first | decide | omega) rfl (wF.y w177 rfl e178 rfl (mF.no c91 (by first | decide | omega) (by first | decide | omega) rfl (by first | decide | omega) c92))))⟩
set_option maxHeartbeats 0 in
/-- LentNamesModel.readLate()Z -/
theorem c180_75 {sc : Nat × Nat} {d  : Nat} {h : xh} {tB : Nat → Nat} {tN : Nat} (hJ : J h) (hC : Cl h) (hT : Tq tB tN h) : X sc 180 (d + 6) (xI fun r h' => J h' ∧ Fr 273678337 h h' ∧ (2147483648 ≤ r ∧ r ≤ 2147483649) ∧ (r = 2147483649 → h' 78 0 = h 78 0) ∧ (r = 2147483649 → h' 78 1 = h 78 1) ∧ (r = 2147483649 → h' 78 2 = h 78 2) ∧ (r = 2147483649 → h' 78 3 = h 78 3) ∧ (r = 2147483649 → h' 78 4 = h 78 4) ∧ (r = 2147483649 → h' 78 5 = h 78 5) ∧ (r = 2147483649 → Cl h') ∧ late9 tB tN (h 78 2) (sk tB tN (h 75 7)) (rs r (sk tB tN (h' 75 7))) ∧ (r = 2147483648 → lateF tB tN (h 78 2) (sk tB tN (h 75 7)) (h' 75 9))) 0 0 0 [x_r 75, 147573952589676412928] [] h := by
  have hF := Fr.refl 273678337 h
  refine x_aload (np := 1) (x := 0) (by decide +kernel) rfl (x_nc_le (by decide)) ?_
  refine x_const (np := 2) (x := 9223372039002259456) (a := 2147483648) (by decide +kernel) (by decide) (by decide) ?_
  refine x_aload (np := 3) (x := 0) (by decide +kernel) rfl (x_nc_le (by decide)) ?_
  have q1 : h 75 3 = 78 := by have z := jB (e := 3) 0 hJ rg_75_3_0_1 (by decide) (by decide); omega
  refine x_getR (np := 6) (x := 707) (f := 3) (q := 78) (by decide +kernel) (by decide) (by decide +kernel) q1 ?_
  refine x_const (np := 7) (x := 9223372047592194050) (a := 2147483650) (by decide +kernel) (by decide) (by decide) ?_
  have b2 := jB (e := 2) 0 hJ rg_78_2_0_1 (by first | decide | omega) (by first | decide | omega)
  refine x_aldC (np := 8) (x := 0) (n := 290) (i := 2) (q := (h 78 2)) (by decide +kernel) (by decide +kernel) (by first | decide | omega) (by first | decide | omega) (by decide) rfl (fun l3 => ?_)
  refine x_const (np := 9) (x := 9223372043297226753) (a := 2147483649) (by decide +kernel) (by decide) (by decide) ?_
  obtain ⟨v4, q5⟩ : ∃ z, z + 2147483649 = (h 78 2) + 2147483648 := ⟨(h 78 2) + 2147483648 - 2147483649, by first | decide | omega⟩
  refine x_isub (np := 10) (x := 0) (v := v4) (by decide +kernel) l3 (by decide) (by first | decide | omega) (by first | decide | omega) ?_
  refine x_cI (t := 6) (mj := 174) (n := 3) (rc := 12) (ml := 4) (nr := 0) (np := 13) (as := [x_r 75, iv_c 2147483648, iv_c v4]) (rest := []) (lo1 := [x_r 75, iv_c 2147483648, iv_c v4, 147573952589676412928]) (by decide +kernel) (by decide) (by decide +kernel) (x_rb_of (by decide +kernel)) rfl rfl (x_wr (by decide) (x_wi (by decide) (x_wi (by first | decide | omega) x_wn))) x_wn (by decide) rfl (c174_75 hJ  (by first | decide | omega) (by first | decide | omega) hT) (fun v6 h9 l7 q8 => ?_)
  obtain ⟨j10, f11, b12, c13, c14, c15, c16, c17, c18, c19⟩ := q8
  have f20 := Fr.trans hF f11 (by decide)
  have b21 := jB (e := 7) 0 hJ rg_75_7_0_1 (by first | decide | omega) (by first | decide | omega)
  have b22 := jB (e := 7) 0 j10 rg_75_7_0_1 (by first | decide | omega) (by first | decide | omega)
  have b23 := c17 (by first | decide | omega)
  refine x_istore (np := 14) (x := 1) (lo' := [x_r 75, iv_c v6]) (by decide +kernel) l7 (Nat.le_of_ble_eq_true rfl) rfl ?_
  refine x_iload (np := 15) (x := 1) (by decide +kernel) rfl l7 ?_
  refine x_ifz (k := 2) (tg := 55) (np := 18) (by decide +kernel) (by decide) l7 (fun q24 => ?_) (fun q25 => ?_)
  · have q24 : v6 < 2147483648 := q24
    refine x_const (np := 56) (x := 9223372039002259456) (a := 2147483648) (by decide +kernel) (by decide) (by decide) ?_
    have b26 := jB (e := 0) 0 hJ rg_78_0_0_1 (by first | decide | omega) (by first | decide | omega)
    have q27 : h9 78 0 = h 78 0 := jK 0 f11 rg_78_0_0_1 (by first | decide | omega) (by first | decide | omega) (by decide)
    have q28 : h9 78 1 = h 78 1 := jK 0 f11 rg_78_1_0_1 (by first | decide | omega) (by first | decide | omega) (by decide)
    have q29 : h9 78 2 = h 78 2 := jK 0 f11 rg_78_2_0_1 (by first | decide | omega) (by first | decide | omega) (by decide)
    have b30 := jB (e := 3) 0 hJ rg_78_3_0_1 (by first | decide | omega) (by first | decide | omega)
    have q31 : h9 78 3 = h 78 3 := jK 0 f11 rg_78_3_0_1 (by first | decide | omega) (by first | decide | omega) (by decide)
    have b32 := jB (e := 4) 0 hJ rg_78_4_0_1 (by first | decide | omega) (by first | decide | omega)
    have q33 : h9 78 4 = h 78 4 := jK 0 f11 rg_78_4_0_1 (by first | decide | omega) (by first | decide | omega) (by decide)
    have b34 := jB (e := 5) 0 hJ rg_78_5_0_1 (by first | decide | omega) (by first | decide | omega)
    have q35 : h9 78 5 = h 78 5 := jK 0 f11 rg_78_5_0_1 (by first | decide | omega) (by first | decide | omega) (by decide)
    have b36 := jB (e := 0) 0 hJ rg_76_0_0_1 (by first | decide | omega) (by first | decide | omega)
    refine x_retI (np := 57) (x := 0) (by decide +kernel) (by decide) (Or.inr ⟨by decide +kernel, by first | decide | omega, by first | decide | omega⟩) ⟨_, rfl, (by decide), ?_⟩
    exact ⟨j10, f20, (by first | decide | omega), (fun z => by first | decide | omega), (fun z => by first | decide | omega), (fun z => by first | decide | omega), (fun z => by first | decide | omega), (fun z => by first | decide | omega), (fun z => by first | decide | omega), (fun z => absurd z (by first | decide | omega)), (nm9.f c18 (by first | decide | omega) (by first | decide | omega) rfl (by first | decide | omega) (by first | decide | omega)), (fun _ => (mF.no c18 (by first | decide | omega) (by first | decide | omega) rfl (by first | decide | omega) c19))⟩
  have q25 : ¬ (v6 < 2147483648) := q25
  have b37 := c14 (by first | decide | omega)
  have b38 := c15 (by first | decide | omega)
  have b39 := c16 (by first | decide | omega)
  refine x_aload (np := 19) (x := 0) (by decide +kernel) rfl (x_nc_le (by decide)) ?_
  refine x_ldcB (i := 18) (idx := 160) (tx := "by") (by rw [tb_y180]; exact List.mem_of_getElem? (i := 42) rfl) (by decide) (by rw [tb_b180]; decide +kernel) ?_
  have m43 := Tq.fr hT f11 (by decide) (by decide)
  refine x_cI (t := 6) (mj := 172) (n := 2) (rc := 12) (ml := 2) (nr := 0) (np := 24) (as := [x_r 75, x_b (18 + 1)]) (rest := []) (lo1 := [x_r 75, x_b (18 + 1)]) (by decide +kernel) (by decide) (by decide +kernel) (x_rb_of (by decide +kernel)) rfl rfl (x_wr (by decide) (x_wB (by decide) x_wn)) x_wn (by decide) rfl (c172_75_S0 j10  (by decide) m43) (fun v40 h44 l41 q42 => ?_)
  obtain ⟨j45, f46, b47, c48, c49, c50, c51⟩ := q42
  have f52 := Fr.trans f20 f46 (by decide)
  have b53 := jB (e := 7) 0 j45 rg_75_7_0_1 (by first | decide | omega) (by first | decide | omega)
  refine x_ifz (k := 0) (tg := 55) (np := 27) (by decide +kernel) (by decide) l41 (fun q54 => ?_) (fun q55 => ?_)
  · have q54 : v40 = 2147483648 := q54
    refine x_const (np := 56) (x := 9223372039002259456) (a := 2147483648) (by decide +kernel) (by decide) (by decide) ?_
    have b56 := jB (e := 0) 0 hJ rg_78_0_0_1 (by first | decide | omega) (by first | decide | omega)
    have q57 : h44 78 0 = h9 78 0 := jK 0 f46 rg_78_0_0_1 (by first | decide | omega) (by first | decide | omega) (by decide)
    have q58 : h9 78 0 = h 78 0 := jK 0 f11 rg_78_0_0_1 (by first | decide | omega) (by first | decide | omega) (by decide)
    have q59 : h44 78 1 = h9 78 1 := jK 0 f46 rg_78_1_0_1 (by first | decide | omega) (by first | decide | omega) (by decide)
    have q60 : h9 78 1 = h 78 1 := jK 0 f11 rg_78_1_0_1 (by first | decide | omega) (by first | decide | omega) (by decide)
    have q61 : h44 78 2 = h9 78 2 := jK 0 f46 rg_78_2_0_1 (by first | decide | omega) (by first | decide | omega) (by decide)
    have q62 : h9 78 2 = h 78 2 := jK 0 f11 rg_78_2_0_1 (by first | decide | omega) (by first | decide | omega) (by decide)
    have b63 := jB (e := 3) 0 hJ rg_78_3_0_1 (by first | decide | omega) (by first | decide | omega)
    have q64 : h44 78 3 = h9 78 3 := jK 0 f46 rg_78_3_0_1 (by first | decide | omega) (by first | decide | omega) (by decide)
    have q65 : h9 78 3 = h 78 3 := jK 0 f11 rg_78_3_0_1 (by first | decide | omega) (by first | decide | omega) (by decide)
    have b66 := jB (e := 4) 0 hJ rg_78_4_0_1 (by first | decide | omega) (by first | decide | omega)
    have q67 : h44 78 4 = h9 78 4 := jK 0 f46 rg_78_4_0_1 (by first | decide | omega) (by first | decide | omega) (by decide)
    have q68 : h9 78 4 = h 78 4 := jK 0 f11 rg_78_4_0_1 (by first | decide | omega) (by first | decide | omega) (by decide)
    have b69 := jB (e := 5) 0 hJ rg_78_5_0_1 (by first | decide | omega) (by first | decide | omega)
    have q70 : h44 78 5 = h9 78 5 := jK 0 f46 rg_78_5_0_1 (by first | decide | omega) (by first | decide | omega) (by decide)
    have q71 : h9 78 5 = h 78 5 := jK 0 f11 rg_78_5_0_1 (by first | decide | omega) (by first | decide | omega) (by decide)
    have b72 := jB (e := 0) 0 hJ rg_76_0_0_1 (by first | decide | omega) (by first | decide | omega)
    refine x_retI (np := 57) (x := 0) (by decide +kernel) (by decide) (Or.inr ⟨by decide +kernel, by first | decide | omega, by first | decide | omega⟩) ⟨_, rfl, (by decide), ?_⟩
    exact ⟨j45, f52, (by first | decide | omega), (fun z => by first | decide | omega), (fun z => by first | decide | omega), (fun z => by first | decide | omega), (fun z => by first | decide | omega), (fun z => by first | decide | omega), (fun z => by first | decide | omega), (fun z => absurd z (by first | decide | omega)), (nm9.y c18 (by first | decide | omega) (by first | decide | omega) rfl (by first | decide | omega) rfl (wd9.f (Tw.no c50 (by first | decide | omega)) rfl (by first | decide | omega))), (fun _ => (mF.y c18 (by first | decide | omega) (by first | decide | omega) rfl (by first | decide | omega) rfl (wF.no (Tw.no c50 (by first | decide | omega)) rfl c51)))⟩
  have q55 : ¬ (v40 = 2147483648) := q55
  have b73 := c49 (by first | decide | omega)
  refine x_aload (np := 28) (x := 0) (by decide +kernel) rfl (x_nc_le (by decide)) ?_
  refine x_const (np := 30) (x := 9223372124901605396) (a := 2147483668) (by decide +kernel) (by decide) (by decide) ?_
  refine x_const (np := 32) (x := 9223372069067030535) (a := 2147483655) (by decide +kernel) (by decide) (by decide) ?_
  refine x_iload (np := 33) (x := 1) (by decide +kernel) rfl l7 ?_
  obtain ⟨u74, q75⟩ : ∃ z, v6 = 2147483648 + z := ⟨v6 - 2147483648, by first | decide | omega⟩
  refine x_imul (np := 34) (x := 0) (i := 7) (j := u74) (v := (2147483648 + 7 * u74)) (by decide +kernel) (by first | decide | omega) (by first | decide | omega) (by first | decide | omega) (by first | decide | omega) (by decide) l7 ?_
  refine x_iadd (np := 35) (x := 0) (v := (2147483668 + 7 * u74)) (by decide +kernel) (by decide) (by first | decide | omega) (by first | decide | omega) (by first | decide | omega) ?_
  refine x_const (np := 37) (x := 9223372064772063238) (a := 2147483654) (by decide +kernel) (by decide) (by decide) ?_
  refine x_iadd (np := 38) (x := 0) (v := (2147483674 + 7 * u74)) (by decide +kernel) (by first | decide | omega) (by decide) (by first | decide | omega) (by first | decide | omega) ?_
  refine x_aload (np := 39) (x := 0) (by decide +kernel) rfl (x_nc_le (by decide)) ?_
  refine x_const (np := 40) (x := 9223372043297226753) (a := 2147483649) (by decide +kernel) (by decide) (by decide) ?_
  refine x_const (np := 42) (x := 9223372090541867020) (a := 2147483660) (by decide +kernel) (by decide) (by decide) ?_
  have m80 := Tq.fr m43 f46 (by decide) (by decide)
  refine x_cI (t := 6) (mj := 174) (n := 3) (rc := 12) (ml := 4) (nr := 2) (np := 45) (as := [x_r 75, iv_c 2147483649, iv_c 2147483660]) (rest := [iv_c (2147483674 + 7 * u74), x_r 75]) (lo1 := [x_r 75, iv_c 2147483649, iv_c 2147483660, 147573952589676412928]) (by decide +kernel) (by decide) (by decide +kernel) (x_rb_of (by decide +kernel)) rfl rfl (x_wr (by decide) (x_wi (by decide) (x_wi (by decide) x_wn))) (x_wi (by first | decide | omega) (x_wr (by decide) x_wn)) (by decide) rfl (c174_75 j45  (by first | decide | omega) (by first | decide | omega) m80) (fun v77 h81 l78 q79 => ?_)
  obtain ⟨j82, f83, b84, c85, c86, c87, c88, c89, c90, c91⟩ := q79
  have f92 := Fr.trans f52 f83 (by decide)
  have b93 := jB (e := 7) 0 j82 rg_75_7_0_1 (by first | decide | omega) (by first | decide | omega)
  have b94 := c89 (by first | decide | omega)
  refine x_nI (t := 6) (mj := 176) (n := 3) (rc := 12) (ml := 3) (nr := 0) (np := 48) (as := [x_r 75, iv_c (2147483674 + 7 * u74), iv_c v77]) (rest := []) (lo1 := [x_r 75, iv_c (2147483674 + 7 * u74), iv_c v77]) (by decide +kernel) (by decide) (by decide +kernel) (x_rb_of (by decide +kernel)) rfl rfl (x_wr (by decide) (x_wi (by first | decide | omega) (x_wi l78 x_wn))) x_wn (by decide) rfl ?_
  refine x_aload (np := 1) (x := 0) (by decide +kernel) rfl (x_nc_le (by decide)) ?_
  have q95 : h81 75 3 = 78 := by have z := jB (e := 3) 0 j82 rg_75_3_0_1 (by decide) (by decide); omega
  refine x_getR (np := 4) (x := 707) (f := 3) (q := 78) (by decide +kernel) (by decide) (by decide +kernel) q95 ?_
  refine x_iload (np := 5) (x := 1) (by decide +kernel) rfl (by first | decide | omega) ?_
  refine x_iload (np := 6) (x := 2) (by decide +kernel) rfl l78 ?_
  refine x_ast (np := 7) (x := 0) (kd := 1) (n := 290) (i := (26 + 7 * u74)) (by decide +kernel) (Or.inl rfl) (by decide +kernel) (by first | decide | omega) (by first | decide | omega) (by decide) l78 (fun z => absurd z (by decide)) ?_
  have j97 := jU (e := (26 + 7 * u74)) (v := v77) u74 j82 rg_78_26_7_20 (by first | decide | omega) (by first | decide | omega) (by first | decide | omega)
  have f99 := jF (e := (26 + 7 * u74)) (v := v77) u74 f92 rg_78_26_7_20 (by first | decide | omega) (by first | decide | omega) (by decide)
  generalize e98 : x_up h81 78 (26 + 7 * u74) v77 = h96 at j97 f99 ⊢
  refine x_iload (np := 8) (x := 2) (by decide +kernel) rfl l78 ?_
  refine x_ifz (k := 2) (tg := 15) (np := 11) (by decide +kernel) (by decide) l78 (fun q100 => ?_) (fun q101 => ?_)
  · have q100 : v77 < 2147483648 := q100
    refine x_const (np := 16) (x := 9223372039002259456) (a := 2147483648) (by decide +kernel) (by decide) (by decide) ?_
    refine x_retI (np := 17) (x := 0) (by decide +kernel) (by decide) (Or.inr ⟨by decide +kernel, by first | decide | omega, by first | decide | omega⟩) ⟨_, rfl, (by decide), ?_⟩
    refine x_ifz (k := 0) (tg := 55) (np := 51) (by decide +kernel) (by decide) (by decide) (fun q102 => ?_) (fun q103 => ?_)
    · have q102 : 2147483648 = 2147483648 := q102
      refine x_const (np := 56) (x := 9223372039002259456) (a := 2147483648) (by decide +kernel) (by decide) (by decide) ?_
      have b104 := jB (e := 0) 0 hJ rg_78_0_0_1 (by first | decide | omega) (by first | decide | omega)
      have q105 : h96 78 0 = h81 78 0 := by rw [← e98]; exact x_up_i (by first | decide | omega)
      have q106 : h81 78 0 = h44 78 0 := jK 0 f83 rg_78_0_0_1 (by first | decide | omega) (by first | decide | omega) (by decide)
      have q107 : h44 78 0 = h9 78 0 := jK 0 f46 rg_78_0_0_1 (by first | decide | omega) (by first | decide | omega) (by decide)
      have q108 : h9 78 0 = h 78 0 := jK 0 f11 rg_78_0_0_1 (by first | decide | omega) (by first | decide | omega) (by decide)
      have q109 : h96 78 1 = h81 78 1 := by rw [← e98]; exact x_up_i (by first | decide | omega)
      have q110 : h81 78 1 = h44 78 1 := jK 0 f83 rg_78_1_0_1 (by first | decide | omega) (by first | decide | omega) (by decide)
      have q111 : h44 78 1 = h9 78 1 := jK 0 f46 rg_78_1_0_1 (by first | decide | omega) (by first | decide | omega) (by decide)
      have q112 : h9 78 1 = h 78 1 := jK 0 f11 rg_78_1_0_1 (by first | decide | omega) (by first | decide | omega) (by decide)
      have q113 : h96 78 2 = h81 78 2 := by rw [← e98]; exact x_up_i (by first | decide | omega)
      have q114 : h81 78 2 = h44 78 2 := jK 0 f83 rg_78_2_0_1 (by first | decide | omega) (by first | decide | omega) (by decide)
      have q115 : h44 78 2 = h9 78 2 := jK 0 f46 rg_78_2_0_1 (by first | decide | omega) (by first | decide | omega) (by decide)
      have q116 : h9 78 2 = h 78 2 := jK 0 f11 rg_78_2_0_1 (by first | decide | omega) (by first | decide | omega) (by decide)
      have b117 := jB (e := 3) 0 hJ rg_78_3_0_1 (by first | decide | omega) (by first | decide | omega)
      have q118 : h96 78 3 = h81 78 3 := by rw [← e98]; exact x_up_i (by first | decide | omega)
      have q119 : h81 78 3 = h44 78 3 := jK 0 f83 rg_78_3_0_1 (by first | decide | omega) (by first | decide | omega) (by decide)
      have q120 : h44 78 3 = h9 78 3 := jK 0 f46 rg_78_3_0_1 (by first | decide | omega) (by first | decide | omega) (by decide)
      have q121 : h9 78 3 = h 78 3 := jK 0 f11 rg_78_3_0_1 (by first | decide | omega) (by first | decide | omega) (by decide)
      have b122 := jB (e := 4) 0 hJ rg_78_4_0_1 (by first | decide | omega) (by first | decide | omega)
      have q123 : h96 78 4 = h81 78 4 := by rw [← e98]; exact x_up_i (by first | decide | omega)
      have q124 : h81 78 4 = h44 78 4 := jK 0 f83 rg_78_4_0_1 (by first | decide | omega) (by first | decide | omega) (by decide)
      have q125 : h44 78 4 = h9 78 4 := jK 0 f46 rg_78_4_0_1 (by first | decide | omega) (by first | decide | omega) (by decide)
      have q126 : h9 78 4 = h 78 4 := jK 0 f11 rg_78_4_0_1 (by first | decide | omega) (by first | decide | omega) (by decide)
      have b127 := jB (e := 5) 0 hJ rg_78_5_0_1 (by first | decide | omega) (by first | decide | omega)
      have q128 : h96 78 5 = h81 78 5 := by rw [← e98]; exact x_up_i (by first | decide | omega)
      have q129 : h81 78 5 = h44 78 5 := jK 0 f83 rg_78_5_0_1 (by first | decide | omega) (by first | decide | omega) (by decide)
      have q130 : h44 78 5 = h9 78 5 := jK 0 f46 rg_78_5_0_1 (by first | decide | omega) (by first | decide | omega) (by decide)
      have q131 : h9 78 5 = h 78 5 := jK 0 f11 rg_78_5_0_1 (by first | decide | omega) (by first | decide | omega) (by decide)
      have b132 := jB (e := 0) 0 hJ rg_76_0_0_1 (by first | decide | omega) (by first | decide | omega)
      obtain ⟨w133, e134⟩ := Tw.yes c50 (by first | decide | omega)
      obtain ⟨w135, e136⟩ := Tw.yes c50 (by first | decide | omega)
      have q137 : h96 75 9 = h81 75 9 := by rw [← e98]; exact x_up_k (by decide)
      have b138 := jB (e := 9) 0 j82 rg_75_9_0_1 (by first | decide | omega) (by first | decide | omega)
      refine x_retI (np := 57) (x := 0) (by decide +kernel) (by decide) (Or.inr ⟨by decide +kernel, by first | decide | omega, by first | decide | omega⟩) ⟨_, rfl, (by decide), ?_⟩
      exact ⟨j97, f99, (by first | decide | omega), (fun z => by first | decide | omega), (fun z => by first | decide | omega), (fun z => by first | decide | omega), (fun z => by first | decide | omega), (fun z => by first | decide | omega), (fun z => by first | decide | omega), (fun z => absurd z (by first | decide | omega)), (nm9.y c18 (by first | decide | omega) (by first | decide | omega) rfl (by first | decide | omega) rfl (wd9.y w133 rfl e134 rfl (nm9.f c90 (by first | decide | omega) (by first | decide | omega) rfl (by first | decide | omega) (by first | decide | omega)))), (fun _ => (mF.y c18 (by first | decide | omega) (by first | decide | omega) rfl (by first | decide | omega) rfl (wF.y w135 rfl e136 rfl (mF.no c90 (by first | decide | omega) (by first | decide | omega) rfl (by first | decide | omega) (Eq.trans (show h96 75 9 = h81 75 9 by first | decide | omega) c91)))))⟩
    have q103 : ¬ (2147483648 = 2147483648) := q103
    exfalso; omega
  have q101 : ¬ (v77 < 2147483648) := q101
  have b139 := c86 (by first | decide | omega)
  have b140 := c87 (by first | decide | omega)
  have b141 := c88 (by first | decide | omega)
  refine x_const (np := 12) (x := 9223372043297226753) (a := 2147483649) (by decide +kernel) (by decide) (by decide) ?_
  refine x_goto (np := 15) (x := 16) (by decide +kernel) ?_
  refine x_retI (np := 17) (x := 0) (by decide +kernel) (by decide) (Or.inr ⟨by decide +kernel, by first | decide | omega, by first | decide | omega⟩) ⟨_, rfl, (by decide), ?_⟩
  refine x_ifz (k := 0) (tg := 55) (np := 51) (by decide +kernel) (by decide) (by decide) (fun q142 => ?_) (fun q143 => ?_)
  · have q142 : 2147483649 = 2147483648 := q142
    exfalso; omega
  have q143 : ¬ (2147483649 = 2147483648) := q143
  refine x_const (np := 52) (x := 9223372043297226753) (a := 2147483649) (by decide +kernel) (by decide) (by decide) ?_
  refine x_goto (np := 55) (x := 56) (by decide +kernel) ?_
  have b144 := jB (e := 0) 0 hJ rg_78_0_0_1 (by first | decide | omega) (by first | decide | omega)
  have q145 : h96 78 0 = h81 78 0 := by rw [← e98]; exact x_up_i (by first | decide | omega)
  have q146 : h81 78 0 = h44 78 0 := jK 0 f83 rg_78_0_0_1 (by first | decide | omega) (by first | decide | omega) (by decide)
  have q147 : h44 78 0 = h9 78 0 := jK 0 f46 rg_78_0_0_1 (by first | decide | omega) (by first | decide | omega) (by decide)
  have q148 : h9 78 0 = h 78 0 := jK 0 f11 rg_78_0_0_1 (by first | decide | omega) (by first | decide | omega) (by decide)
  have q149 : h96 78 1 = h81 78 1 := by rw [← e98]; exact x_up_i (by first | decide | omega)
  have q150 : h81 78 1 = h44 78 1 := jK 0 f83 rg_78_1_0_1 (by first | decide | omega) (by first | decide | omega) (by decide)
  have q151 : h44 78 1 = h9 78 1 := jK 0 f46 rg_78_1_0_1 (by first | decide | omega) (by first | decide | omega) (by decide)
  have q152 : h9 78 1 = h 78 1 := jK 0 f11 rg_78_1_0_1 (by first | decide | omega) (by first | decide | omega) (by decide)
  have q153 : h96 78 2 = h81 78 2 := by rw [← e98]; exact x_up_i (by first | decide | omega)
  have q154 : h81 78 2 = h44 78 2 := jK 0 f83 rg_78_2_0_1 (by first | decide | omega) (by first | decide | omega) (by decide)
  have q155 : h44 78 2 = h9 78 2 := jK 0 f46 rg_78_2_0_1 (by first | decide | omega) (by first | decide | omega) (by decide)
  have q156 : h9 78 2 = h 78 2 := jK 0 f11 rg_78_2_0_1 (by first | decide | omega) (by first | decide | omega) (by decide)
  have b157 := jB (e := 3) 0 hJ rg_78_3_0_1 (by first | decide | omega) (by first | decide | omega)
  have q158 : h96 78 3 = h81 78 3 := by rw [← e98]; exact x_up_i (by first | decide | omega)
  have q159 : h81 78 3 = h44 78 3 := jK 0 f83 rg_78_3_0_1 (by first | decide | omega) (by first | decide | omega) (by decide)
  have q160 : h44 78 3 = h9 78 3 := jK 0 f46 rg_78_3_0_1 (by first | decide | omega) (by first | decide | omega) (by decide)
  have q161 : h9 78 3 = h 78 3 := jK 0 f11 rg_78_3_0_1 (by first | decide | omega) (by first | decide | omega) (by decide)
  have b162 := jB (e := 4) 0 hJ rg_78_4_0_1 (by first | decide | omega) (by first | decide | omega)
  have q163 : h96 78 4 = h81 78 4 := by rw [← e98]; exact x_up_i (by first | decide | omega)
  have q164 : h81 78 4 = h44 78 4 := jK 0 f83 rg_78_4_0_1 (by first | decide | omega) (by first | decide | omega) (by decide)
  have q165 : h44 78 4 = h9 78 4 := jK 0 f46 rg_78_4_0_1 (by first | decide | omega) (by first | decide | omega) (by decide)
  have q166 : h9 78 4 = h 78 4 := jK 0 f11 rg_78_4_0_1 (by first | decide | omega) (by first | decide | omega) (by decide)
  have b167 := jB (e := 5) 0 hJ rg_78_5_0_1 (by first | decide | omega) (by first | decide | omega)
  have q168 : h96 78 5 = h81 78 5 := by rw [← e98]; exact x_up_i (by first | decide | omega)
  have q169 : h81 78 5 = h44 78 5 := jK 0 f83 rg_78_5_0_1 (by first | decide | omega) (by first | decide | omega) (by decide)
  have q170 : h44 78 5 = h9 78 5 := jK 0 f46 rg_78_5_0_1 (by first | decide | omega) (by first | decide | omega) (by decide)
  have q171 : h9 78 5 = h 78 5 := jK 0 f11 rg_78_5_0_1 (by first | decide | omega) (by first | decide | omega) (by decide)
  have m175 := Cl.fr hC f11 (by decide)
  have m174 := Cl.fr m175 f46 (by decide)
  have m173 := Cl.fr m174 f83 (by decide)
  have m172 : Cl h96 := by rw [← e98]; exact Cl.upR (e := (26 + 7 * u74)) (v := v77) u74 m173 rg_76_26_7_20 (by first | decide | omega) (by first | decide | omega) (by first | decide | omega)
  have b176 := jB (e := 0) 0 hJ rg_76_0_0_1 (by first | decide | omega) (by first | decide | omega)
  obtain ⟨w177, e178⟩ := Tw.yes c50 (by first | decide | omega)
  have q179 : h96 75 7 = h81 75 7 := by rw [← e98]; exact x_up_k (by decide)
  refine x_retI (np := 57) (x := 0) (by decide +kernel) (by decide) (Or.inr ⟨by decide +kernel, by first | decide | omega, by first | decide | omega⟩) ⟨_, rfl, (by decide), ?_⟩
  exact ⟨j97, f99, (by first | decide | omega), (fun z => by first | decide | omega), (fun z => by first | decide | omega), (fun z => by first | decide | omega), (fun z => by first | decide | omega), (fun z => by first | decide | omega), (fun z => by first | decide | omega), (fun _ => m172), (nm9.y c18 (by first | decide | omega) (by first | decide | omega) rfl (by first | decide | omega) rfl (wd9.y w177 rfl e178 rfl (nm9.y c90 (by first | decide | omega) (by first | decide | omega) rfl (by first | decide | omega) rfl (fin9.mk (by first | decide | omega) (congrArg (sk tB tN) (show h81 75 7 = h96 75 7 by first | decide | omega)))))), (fun z => absurd z (by first | decide | omega))⟩
set_option maxHeartbeats 0 in
/-- LentNamesModel.readLend()Z -/
theorem c179_75 {sc : Nat × Nat} {d  : Nat} {h : xh} {tB : Nat → Nat} {tN : Nat} (hJ : J h) (hC : Cl h) (hT : Tq tB tN h) : X sc 179 (d + 6) (xI fun r h' => J h' ∧ Fr 273678337 h h' ∧ (2147483648 ≤ r ∧ r ≤ 2147483649) ∧ (r = 2147483649 → h' 78 0 = h 78 0) ∧ (r = 2147483649 → h' 78 1 = h 78 1) ∧ (r = 2147483649 → h' 78 2 = h 78 2 + 1) ∧ (r = 2147483649 → h' 78 3 = h 78 3) ∧ (r = 2147483649 → h' 78 4 = h 78 4) ∧ (r = 2147483649 → h' 78 5 = h 78 5) ∧ (r = 2147483649 → Cl h') ∧ ((h 78 2 = 2147483668 ∧ r = 2147483648) ∨ (h 78 2 ≠ 2147483668 ∧ loan9 tB tN (h 76 0) (sk tB tN (h 75 7)) (rs r (sk tB tN (h' 75 7))))) ∧ (r = 2147483648 → (h 78 2 = 2147483668 ∧ h' 75 9 = h 75 9) ∨ (h 78 2 ≠ 2147483668 ∧ loanF tB tN (h 76 0) (sk tB tN (h 75 7)) (h' 75 9)))) 0 0 0 [x_r 75, 147573952589676412928] [] h := by
  have hF := Fr.refl 273678337 h
  refine x_aload (np := 1) (x := 0) (by decide +kernel) rfl (x_nc_le (by decide)) ?_
  have q1 : h 75 3 = 78 := by have z := jB (e := 3) 0 hJ rg_75_3_0_1 (by decide) (by decide); omega
  refine x_getR (np := 4) (x := 707) (f := 3) (q := 78) (by decide +kernel) (by decide) (by decide +kernel) q1 ?_
  refine x_const (np := 5) (x := 9223372047592194050) (a := 2147483650) (by decide +kernel) (by decide) (by decide) ?_
  have b2 := jB (e := 2) 0 hJ rg_78_2_0_1 (by first | decide | omega) (by first | decide | omega)
  refine x_aldC (np := 6) (x := 0) (n := 290) (i := 2) (q := (h 78 2)) (by decide +kernel) (by decide +kernel) (by first | decide | omega) (by first | decide | omega) (by decide) rfl (fun l3 => ?_)
  refine x_const (np := 8) (x := 9223372124901605396) (a := 2147483668) (by decide +kernel) (by decide) (by decide) ?_
  refine x_icmp (k := 1) (tg := 13) (np := 11) (by decide +kernel) (by decide) l3 (by decide) (fun q4 => ?_) (fun q5 => ?_)
  · have q4 : (h 78 2) ≠ 2147483668 := q4
    refine x_const (np := 15) (x := 9223372124901605396) (a := 2147483668) (by decide +kernel) (by decide) (by decide) ?_
    refine x_const (np := 17) (x := 9223372069067030535) (a := 2147483655) (by decide +kernel) (by decide) (by decide) ?_
    refine x_aload (np := 18) (x := 0) (by decide +kernel) rfl (x_nc_le (by decide)) ?_
    have q6 : h 75 3 = 78 := by have z := jB (e := 3) 0 hJ rg_75_3_0_1 (by decide) (by decide); omega
    refine x_getR (np := 21) (x := 707) (f := 3) (q := 78) (by decide +kernel) (by decide) (by decide +kernel) q6 ?_
    refine x_const (np := 22) (x := 9223372047592194050) (a := 2147483650) (by decide +kernel) (by decide) (by decide) ?_
    refine x_aldC (np := 23) (x := 0) (n := 290) (i := 2) (q := (h 78 2)) (by decide +kernel) (by decide +kernel) (by first | decide | omega) (by first | decide | omega) (by decide) rfl (fun l7 => ?_)
    obtain ⟨u8, q9⟩ : ∃ z, (h 78 2) = 2147483648 + z := ⟨(h 78 2) - 2147483648, by first | decide | omega⟩
    refine x_imul (np := 24) (x := 0) (i := 7) (j := u8) (v := (2147483648 + 7 * u8)) (by decide +kernel) (by first | decide | omega) (by first | decide | omega) (by first | decide | omega) (by first | decide | omega) (by decide) l3 ?_
    refine x_iadd (np := 25) (x := 0) (v := (2147483668 + 7 * u8)) (by decide +kernel) (by decide) (by first | decide | omega) (by first | decide | omega) (by first | decide | omega) ?_
    refine x_istore (np := 26) (x := 1) (lo' := [x_r 75, iv_c (2147483668 + 7 * u8)]) (by decide +kernel) (by first | decide | omega) (Nat.le_of_ble_eq_true rfl) rfl ?_
    refine x_aload (np := 27) (x := 0) (by decide +kernel) rfl (x_nc_le (by decide)) ?_
    refine x_iload (np := 28) (x := 1) (by decide +kernel) rfl (by first | decide | omega) ?_
    refine x_nI (t := 6) (mj := 177) (n := 2) (rc := 12) (ml := 2) (nr := 0) (np := 31) (as := [x_r 75, iv_c (2147483668 + 7 * u8)]) (rest := []) (lo1 := [x_r 75, iv_c (2147483668 + 7 * u8)]) (by decide +kernel) (by decide) (by decide +kernel) (x_rb_of (by decide +kernel)) rfl rfl (x_wr (by decide) (x_wi (by first | decide | omega) x_wn)) x_wn (by decide) rfl ?_
    refine x_aload (np := 1) (x := 0) (by decide +kernel) rfl (x_nc_le (by decide)) ?_
    refine x_iload (np := 2) (x := 1) (by decide +kernel) rfl (by first | decide | omega) ?_
    refine x_aload (np := 3) (x := 0) (by decide +kernel) rfl (x_nc_le (by decide)) ?_
    refine x_const (np := 4) (x := 9223372039002259456) (a := 2147483648) (by decide +kernel) (by decide) (by decide) ?_
    refine x_aload (np := 5) (x := 0) (by decide +kernel) rfl (x_nc_le (by decide)) ?_
    refine x_nI (t := 6) (mj := 157) (n := 1) (rc := 12) (ml := 1) (nr := 4) (np := 8) (as := [x_r 75]) (rest := [iv_c 2147483648, x_r 75, iv_c (2147483668 + 7 * u8), x_r 75]) (lo1 := [x_r 75]) (by decide +kernel) (by decide) (by decide +kernel) (x_rb_of (by decide +kernel)) rfl rfl (x_wr (by decide) x_wn) (x_wi (by decide) (x_wr (by decide) (x_wi (by first | decide | omega) (x_wr (by decide) x_wn)))) (by decide) rfl ?_
    refine x_aload (np := 1) (x := 0) (by decide +kernel) rfl (x_nc_le (by decide)) ?_
    have q11 : h 75 1 = 76 := by have z := jB (e := 1) 0 hJ rg_75_1_0_1 (by decide) (by decide); omega
    refine x_getR (np := 4) (x := 705) (f := 1) (q := 76) (by decide +kernel) (by decide) (by decide +kernel) q11 ?_
    refine x_const (np := 5) (x := 9223372039002259456) (a := 2147483648) (by decide +kernel) (by decide) (by decide) ?_
    have b12 := jB (e := 0) 0 hJ rg_76_0_0_1 (by first | decide | omega) (by first | decide | omega)
    refine x_aldC (np := 6) (x := 0) (n := 1952) (i := 0) (q := (h 76 0)) (by decide +kernel) (by decide +kernel) (by first | decide | omega) (by first | decide | omega) (by decide) rfl (fun l13 => ?_)
    refine x_retI (np := 7) (x := 0) (by decide +kernel) l13 (Or.inl (by decide +kernel)) ⟨_, rfl, l13, ?_⟩
    refine x_const (np := 9) (x := 9223372043297226753) (a := 2147483649) (by decide +kernel) (by decide) (by decide) ?_
    obtain ⟨v14, q15⟩ : ∃ z, z + 2147483649 = (h 76 0) + 2147483648 := ⟨(h 76 0) + 2147483648 - 2147483649, by first | decide | omega⟩
    refine x_isub (np := 10) (x := 0) (v := v14) (by decide +kernel) l13 (by decide) (by first | decide | omega) (by first | decide | omega) ?_
    refine x_cI (t := 6) (mj := 174) (n := 3) (rc := 12) (ml := 4) (nr := 2) (np := 13) (as := [x_r 75, iv_c 2147483648, iv_c v14]) (rest := [iv_c (2147483668 + 7 * u8), x_r 75]) (lo1 := [x_r 75, iv_c 2147483648, iv_c v14, 147573952589676412928]) (by decide +kernel) (by decide) (by decide +kernel) (x_rb_of (by decide +kernel)) rfl rfl (x_wr (by decide) (x_wi (by decide) (x_wi (by first | decide | omega) x_wn))) (x_wi (by first | decide | omega) (x_wr (by decide) x_wn)) (by decide) rfl (c174_75 hJ  (by first | decide | omega) (by first | decide | omega) hT) (fun v16 h19 l17 q18 => ?_)
    obtain ⟨j20, f21, b22, c23, c24, c25, c26, c27, c28, c29⟩ := q18
    have f30 := Fr.trans hF f21 (by decide)
    have b31 := jB (e := 7) 0 hJ rg_75_7_0_1 (by first | decide | omega) (by first | decide | omega)
    have b32 := jB (e := 7) 0 j20 rg_75_7_0_1 (by first | decide | omega) (by first | decide | omega)
    have b33 := c27 (by first | decide | omega)
    refine x_nI (t := 6) (mj := 176) (n := 3) (rc := 12) (ml := 3) (nr := 0) (np := 16) (as := [x_r 75, iv_c (2147483668 + 7 * u8), iv_c v16]) (rest := []) (lo1 := [x_r 75, iv_c (2147483668 + 7 * u8), iv_c v16]) (by decide +kernel) (by decide) (by decide +kernel) (x_rb_of (by decide +kernel)) rfl rfl (x_wr (by decide) (x_wi (by first | decide | omega) (x_wi l17 x_wn))) x_wn (by decide) rfl ?_
    refine x_aload (np := 1) (x := 0) (by decide +kernel) rfl (x_nc_le (by decide)) ?_
    have q34 : h19 75 3 = 78 := by have z := jB (e := 3) 0 j20 rg_75_3_0_1 (by decide) (by decide); omega
    refine x_getR (np := 4) (x := 707) (f := 3) (q := 78) (by decide +kernel) (by decide) (by decide +kernel) q34 ?_
    refine x_iload (np := 5) (x := 1) (by decide +kernel) rfl (by first | decide | omega) ?_
    refine x_iload (np := 6) (x := 2) (by decide +kernel) rfl l17 ?_
    refine x_ast (np := 7) (x := 0) (kd := 1) (n := 290) (i := (20 + 7 * u8)) (by decide +kernel) (Or.inl rfl) (by decide +kernel) (by first | decide | omega) (by first | decide | omega) (by decide) l17 (fun z => absurd z (by decide)) ?_
    have j36 := jU (e := (20 + 7 * u8)) (v := v16) u8 j20 rg_78_20_7_20 (by first | decide | omega) (by first | decide | omega) (by first | decide | omega)
    have f38 := jF (e := (20 + 7 * u8)) (v := v16) u8 f30 rg_78_20_7_20 (by first | decide | omega) (by first | decide | omega) (by decide)
    generalize e37 : x_up h19 78 (20 + 7 * u8) v16 = h35 at j36 f38 ⊢
    refine x_iload (np := 8) (x := 2) (by decide +kernel) rfl l17 ?_
    refine x_ifz (k := 2) (tg := 15) (np := 11) (by decide +kernel) (by decide) l17 (fun q39 => ?_) (fun q40 => ?_)
    · have q39 : v16 < 2147483648 := q39
      refine x_const (np := 16) (x := 9223372039002259456) (a := 2147483648) (by decide +kernel) (by decide) (by decide) ?_
      refine x_retI (np := 17) (x := 0) (by decide +kernel) (by decide) (Or.inr ⟨by decide +kernel, by first | decide | omega, by first | decide | omega⟩) ⟨_, rfl, (by decide), ?_⟩
      refine x_retI (np := 17) (x := 0) (by decide +kernel) (by decide) (Or.inr ⟨by decide +kernel, by first | decide | omega, by first | decide | omega⟩) ⟨_, rfl, (by decide), ?_⟩
      refine x_ifz (k := 0) (tg := 99) (np := 34) (by decide +kernel) (by decide) (by decide) (fun q41 => ?_) (fun q42 => ?_)
      · have q41 : 2147483648 = 2147483648 := q41
        refine x_const (np := 100) (x := 9223372039002259456) (a := 2147483648) (by decide +kernel) (by decide) (by decide) ?_
        have b43 := jB (e := 0) 0 hJ rg_78_0_0_1 (by first | decide | omega) (by first | decide | omega)
        have q44 : h35 78 0 = h19 78 0 := by rw [← e37]; exact x_up_i (by first | decide | omega)
        have q45 : h19 78 0 = h 78 0 := jK 0 f21 rg_78_0_0_1 (by first | decide | omega) (by first | decide | omega) (by decide)
        have q46 : h35 78 1 = h19 78 1 := by rw [← e37]; exact x_up_i (by first | decide | omega)
        have q47 : h19 78 1 = h 78 1 := jK 0 f21 rg_78_1_0_1 (by first | decide | omega) (by first | decide | omega) (by decide)
        have q48 : h35 78 2 = h19 78 2 := by rw [← e37]; exact x_up_i (by first | decide | omega)
        have q49 : h19 78 2 = h 78 2 := jK 0 f21 rg_78_2_0_1 (by first | decide | omega) (by first | decide | omega) (by decide)
        have b50 := jB (e := 3) 0 hJ rg_78_3_0_1 (by first | decide | omega) (by first | decide | omega)
        have q51 : h35 78 3 = h19 78 3 := by rw [← e37]; exact x_up_i (by first | decide | omega)
        have q52 : h19 78 3 = h 78 3 := jK 0 f21 rg_78_3_0_1 (by first | decide | omega) (by first | decide | omega) (by decide)
        have b53 := jB (e := 4) 0 hJ rg_78_4_0_1 (by first | decide | omega) (by first | decide | omega)
        have q54 : h35 78 4 = h19 78 4 := by rw [← e37]; exact x_up_i (by first | decide | omega)
        have q55 : h19 78 4 = h 78 4 := jK 0 f21 rg_78_4_0_1 (by first | decide | omega) (by first | decide | omega) (by decide)
        have b56 := jB (e := 5) 0 hJ rg_78_5_0_1 (by first | decide | omega) (by first | decide | omega)
        have q57 : h35 78 5 = h19 78 5 := by rw [← e37]; exact x_up_i (by first | decide | omega)
        have q58 : h19 78 5 = h 78 5 := jK 0 f21 rg_78_5_0_1 (by first | decide | omega) (by first | decide | omega) (by decide)
        have q59 : h35 75 9 = h19 75 9 := by rw [← e37]; exact x_up_k (by decide)
        have b60 := jB (e := 9) 0 j20 rg_75_9_0_1 (by first | decide | omega) (by first | decide | omega)
        refine x_retI (np := 101) (x := 0) (by decide +kernel) (by decide) (Or.inr ⟨by decide +kernel, by first | decide | omega, by first | decide | omega⟩) ⟨_, rfl, (by decide), ?_⟩
        exact ⟨j36, f38, (by first | decide | omega), (fun z => by first | decide | omega), (fun z => by first | decide | omega), (fun z => by first | decide | omega), (fun z => by first | decide | omega), (fun z => by first | decide | omega), (fun z => by first | decide | omega), (fun z => absurd z (by first | decide | omega)), (Or.inr ⟨by first | decide | omega, (nm9.f c28 (by first | decide | omega) (by first | decide | omega) rfl (by first | decide | omega) (by first | decide | omega))⟩), (fun _ => Or.inr ⟨by first | decide | omega, (mF.no c28 (by first | decide | omega) (by first | decide | omega) rfl (by first | decide | omega) (Eq.trans (show h35 75 9 = h19 75 9 by first | decide | omega) c29))⟩)⟩
      have q42 : ¬ (2147483648 = 2147483648) := q42
      exfalso; omega
    have q40 : ¬ (v16 < 2147483648) := q40
    have b61 := c24 (by first | decide | omega)
    have b62 := c25 (by first | decide | omega)
    have b63 := c26 (by first | decide | omega)
    refine x_const (np := 12) (x := 9223372043297226753) (a := 2147483649) (by decide +kernel) (by decide) (by decide) ?_
    refine x_goto (np := 15) (x := 16) (by decide +kernel) ?_
    refine x_retI (np := 17) (x := 0) (by decide +kernel) (by decide) (Or.inr ⟨by decide +kernel, by first | decide | omega, by first | decide | omega⟩) ⟨_, rfl, (by decide), ?_⟩
    refine x_retI (np := 17) (x := 0) (by decide +kernel) (by decide) (Or.inr ⟨by decide +kernel, by first | decide | omega, by first | decide | omega⟩) ⟨_, rfl, (by decide), ?_⟩
    refine x_ifz (k := 0) (tg := 99) (np := 34) (by decide +kernel) (by decide) (by decide) (fun q64 => ?_) (fun q65 => ?_)
    · have q64 : 2147483649 = 2147483648 := q64
      exfalso; omega
    have q65 : ¬ (2147483649 = 2147483648) := q65
    refine x_aload (np := 35) (x := 0) (by decide +kernel) rfl (x_nc_le (by decide)) ?_
    refine x_ldcB (i := 1) (idx := 142) (tx := "to") (by rw [tb_y179]; exact List.mem_of_getElem? (i := 36) rfl) (by decide) (by rw [tb_b179]; decide +kernel) ?_
    have m70 := Tq.fr hT f21 (by decide) (by decide)
    have m69 : Tq tB tN h35 := by rw [← e37]; exact Tq.oth m70 (by decide) (fun z => absurd z.1 (by decide))
    refine x_cI (t := 6) (mj := 172) (n := 2) (rc := 12) (ml := 2) (nr := 0) (np := 40) (as := [x_r 75, x_b (1 + 1)]) (rest := []) (lo1 := [x_r 75, x_b (1 + 1)]) (by decide +kernel) (by decide) (by decide +kernel) (x_rb_of (by decide +kernel)) rfl rfl (x_wr (by decide) (x_wB (by decide) x_wn)) x_wn (by decide) rfl (c172_75_S0 j36  (by decide) m69) (fun v66 h71 l67 q68 => ?_)
    obtain ⟨j72, f73, b74, c75, c76, c77, c78⟩ := q68
    have f79 := Fr.trans f38 f73 (by decide)
    have q80 : h35 75 7 = h19 75 7 := by rw [← e37]; exact x_up_k (by decide)
    have b81 := jB (e := 7) 0 j72 rg_75_7_0_1 (by first | decide | omega) (by first | decide | omega)
    have q82 : h35 75 7 = h19 75 7 := by rw [← e37]; exact x_up_k (by decide)
    refine x_ifz (k := 0) (tg := 99) (np := 43) (by decide +kernel) (by decide) l67 (fun q83 => ?_) (fun q84 => ?_)
    · have q83 : v66 = 2147483648 := q83
      refine x_const (np := 100) (x := 9223372039002259456) (a := 2147483648) (by decide +kernel) (by decide) (by decide) ?_
      have b85 := jB (e := 0) 0 hJ rg_78_0_0_1 (by first | decide | omega) (by first | decide | omega)
      have q86 : h71 78 0 = h35 78 0 := jK 0 f73 rg_78_0_0_1 (by first | decide | omega) (by first | decide | omega) (by decide)
      have q87 : h35 78 0 = h19 78 0 := by rw [← e37]; exact x_up_i (by first | decide | omega)
      have q88 : h19 78 0 = h 78 0 := jK 0 f21 rg_78_0_0_1 (by first | decide | omega) (by first | decide | omega) (by decide)
      have q89 : h71 78 1 = h35 78 1 := jK 0 f73 rg_78_1_0_1 (by first | decide | omega) (by first | decide | omega) (by decide)
      have q90 : h35 78 1 = h19 78 1 := by rw [← e37]; exact x_up_i (by first | decide | omega)
      have q91 : h19 78 1 = h 78 1 := jK 0 f21 rg_78_1_0_1 (by first | decide | omega) (by first | decide | omega) (by decide)
      have q92 : h71 78 2 = h35 78 2 := jK 0 f73 rg_78_2_0_1 (by first | decide | omega) (by first | decide | omega) (by decide)
      have q93 : h35 78 2 = h19 78 2 := by rw [← e37]; exact x_up_i (by first | decide | omega)
      have q94 : h19 78 2 = h 78 2 := jK 0 f21 rg_78_2_0_1 (by first | decide | omega) (by first | decide | omega) (by decide)
      have b95 := jB (e := 3) 0 hJ rg_78_3_0_1 (by first | decide | omega) (by first | decide | omega)
      have q96 : h71 78 3 = h35 78 3 := jK 0 f73 rg_78_3_0_1 (by first | decide | omega) (by first | decide | omega) (by decide)
      have q97 : h35 78 3 = h19 78 3 := by rw [← e37]; exact x_up_i (by first | decide | omega)
      have q98 : h19 78 3 = h 78 3 := jK 0 f21 rg_78_3_0_1 (by first | decide | omega) (by first | decide | omega) (by decide)
      have b99 := jB (e := 4) 0 hJ rg_78_4_0_1 (by first | decide | omega) (by first | decide | omega)
      have q100 : h71 78 4 = h35 78 4 := jK 0 f73 rg_78_4_0_1 (by first | decide | omega) (by first | decide | omega) (by decide)
      have q101 : h35 78 4 = h19 78 4 := by rw [← e37]; exact x_up_i (by first | decide | omega)
      have q102 : h19 78 4 = h 78 4 := jK 0 f21 rg_78_4_0_1 (by first | decide | omega) (by first | decide | omega) (by decide)
      have b103 := jB (e := 5) 0 hJ rg_78_5_0_1 (by first | decide | omega) (by first | decide | omega)
      have q104 : h71 78 5 = h35 78 5 := jK 0 f73 rg_78_5_0_1 (by first | decide | omega) (by first | decide | omega) (by decide)
      have q105 : h35 78 5 = h19 78 5 := by rw [← e37]; exact x_up_i (by first | decide | omega)
      have q106 : h19 78 5 = h 78 5 := jK 0 f21 rg_78_5_0_1 (by first | decide | omega) (by first | decide | omega) (by decide)
      have q107 : h35 75 7 = h19 75 7 := by rw [← e37]; exact x_up_k (by decide)
      have q108 : h35 75 7 = h19 75 7 := by rw [← e37]; exact x_up_k (by decide)
      refine x_retI (np := 101) (x := 0) (by decide +kernel) (by decide) (Or.inr ⟨by decide +kernel, by first | decide | omega, by first | decide | omega⟩) ⟨_, rfl, (by decide), ?_⟩
      exact ⟨j72, f79, (by first | decide | omega), (fun z => by first | decide | omega), (fun z => by first | decide | omega), (fun z => by first | decide | omega), (fun z => by first | decide | omega), (fun z => by first | decide | omega), (fun z => by first | decide | omega), (fun z => absurd z (by first | decide | omega)), (Or.inr ⟨by first | decide | omega, (nm9.y c28 (by first | decide | omega) (by first | decide | omega) rfl (by first | decide | omega) rfl (wd9.f (Tw.no c77 (by first | decide | omega)) (congrArg (sk tB tN) (show h35 75 7 = h19 75 7 by first | decide | omega)) (by first | decide | omega)))⟩), (fun _ => Or.inr ⟨by first | decide | omega, (mF.y c28 (by first | decide | omega) (by first | decide | omega) rfl (by first | decide | omega) rfl (wF.no (Tw.no c77 (by first | decide | omega)) (congrArg (sk tB tN) (show h35 75 7 = h19 75 7 by first | decide | omega)) c78))⟩)⟩
    have q84 : ¬ (v66 = 2147483648) := q84
    have b109 := c76 (by first | decide | omega)
    refine x_aload (np := 44) (x := 0) (by decide +kernel) rfl (x_nc_le (by decide)) ?_
    refine x_iload (np := 45) (x := 1) (by decide +kernel) rfl (by first | decide | omega) ?_
    refine x_const (np := 46) (x := 9223372043297226753) (a := 2147483649) (by decide +kernel) (by decide) (by decide) ?_
    refine x_iadd (np := 47) (x := 0) (v := (2147483669 + 7 * u8)) (by decide +kernel) (by first | decide | omega) (by decide) (by first | decide | omega) (by first | decide | omega) ?_
    refine x_nI (t := 6) (mj := 177) (n := 2) (rc := 12) (ml := 2) (nr := 0) (np := 50) (as := [x_r 75, iv_c (2147483669 + 7 * u8)]) (rest := []) (lo1 := [x_r 75, iv_c (2147483669 + 7 * u8)]) (by decide +kernel) (by decide) (by decide +kernel) (x_rb_of (by decide +kernel)) rfl rfl (x_wr (by decide) (x_wi (by first | decide | omega) x_wn)) x_wn (by decide) rfl ?_
    refine x_aload (np := 1) (x := 0) (by decide +kernel) rfl (x_nc_le (by decide)) ?_
    refine x_iload (np := 2) (x := 1) (by decide +kernel) rfl (by first | decide | omega) ?_
    refine x_aload (np := 3) (x := 0) (by decide +kernel) rfl (x_nc_le (by decide)) ?_
    refine x_const (np := 4) (x := 9223372039002259456) (a := 2147483648) (by decide +kernel) (by decide) (by decide) ?_
    refine x_aload (np := 5) (x := 0) (by decide +kernel) rfl (x_nc_le (by decide)) ?_
    refine x_nI (t := 6) (mj := 157) (n := 1) (rc := 12) (ml := 1) (nr := 4) (np := 8) (as := [x_r 75]) (rest := [iv_c 2147483648, x_r 75, iv_c (2147483669 + 7 * u8), x_r 75]) (lo1 := [x_r 75]) (by decide +kernel) (by decide) (by decide +kernel) (x_rb_of (by decide +kernel)) rfl rfl (x_wr (by decide) x_wn) (x_wi (by decide) (x_wr (by decide) (x_wi (by first | decide | omega) (x_wr (by decide) x_wn)))) (by decide) rfl ?_
    refine x_aload (np := 1) (x := 0) (by decide +kernel) rfl (x_nc_le (by decide)) ?_
    have q110 : h71 75 1 = 76 := by have z := jB (e := 1) 0 j72 rg_75_1_0_1 (by decide) (by decide); omega
    refine x_getR (np := 4) (x := 705) (f := 1) (q := 76) (by decide +kernel) (by decide) (by decide +kernel) q110 ?_
    refine x_const (np := 5) (x := 9223372039002259456) (a := 2147483648) (by decide +kernel) (by decide) (by decide) ?_
    have q111 : h71 76 0 = h35 76 0 := jK 0 f73 rg_76_0_0_1 (by first | decide | omega) (by first | decide | omega) (by decide)
    have q112 : h35 76 0 = h19 76 0 := by rw [← e37]; exact x_up_k (by decide)
    have q113 : h19 76 0 = h 76 0 := jK 0 f21 rg_76_0_0_1 (by first | decide | omega) (by first | decide | omega) (by decide)
    refine x_aldC (np := 6) (x := 0) (n := 1952) (i := 0) (q := (h 76 0)) (by decide +kernel) (by decide +kernel) (by first | decide | omega) (by first | decide | omega) (by decide) ((q111.trans q112).trans q113) (fun l114 => ?_)
    refine x_retI (np := 7) (x := 0) (by decide +kernel) l13 (Or.inl (by decide +kernel)) ⟨_, rfl, l13, ?_⟩
    refine x_const (np := 9) (x := 9223372043297226753) (a := 2147483649) (by decide +kernel) (by decide) (by decide) ?_
    obtain ⟨v115, q116⟩ : ∃ z, z + 2147483649 = (h 76 0) + 2147483648 := ⟨(h 76 0) + 2147483648 - 2147483649, by first | decide | omega⟩
    refine x_isub (np := 10) (x := 0) (v := v115) (by decide +kernel) l13 (by decide) (by first | decide | omega) (by first | decide | omega) ?_
    have m120 := Tq.fr m69 f73 (by decide) (by decide)
    refine x_cI (t := 6) (mj := 174) (n := 3) (rc := 12) (ml := 4) (nr := 2) (np := 13) (as := [x_r 75, iv_c 2147483648, iv_c v115]) (rest := [iv_c (2147483669 + 7 * u8), x_r 75]) (lo1 := [x_r 75, iv_c 2147483648, iv_c v115, 147573952589676412928]) (by decide +kernel) (by decide) (by decide +kernel) (x_rb_of (by decide +kernel)) rfl rfl (x_wr (by decide) (x_wi (by decide) (x_wi (by first | decide | omega) x_wn))) (x_wi (by first | decide | omega) (x_wr (by decide) x_wn)) (by decide) rfl (c174_75 j72  (by first | decide | omega) (by first | decide | omega) m120) (fun v117 h121 l118 q119 => ?_)
    obtain ⟨j122, f123, b124, c125, c126, c127, c128, c129, c130, c131⟩ := q119
    have f132 := Fr.trans f79 f123 (by decide)
    have b133 := jB (e := 7) 0 j122 rg_75_7_0_1 (by first | decide | omega) (by first | decide | omega)
    have b134 := c129 (by first | decide | omega)
    refine x_nI (t := 6) (mj := 176) (n := 3) (rc := 12) (ml := 3) (nr := 0) (np := 16) (as := [x_r 75, iv_c (2147483669 + 7 * u8), iv_c v117]) (rest := []) (lo1 := [x_r 75, iv_c (2147483669 + 7 * u8), iv_c v117]) (by decide +kernel) (by decide) (by decide +kernel) (x_rb_of (by decide +kernel)) rfl rfl (x_wr (by decide) (x_wi (by first | decide | omega) (x_wi l118 x_wn))) x_wn (by decide) rfl ?_
    refine x_aload (np := 1) (x := 0) (by decide +kernel) rfl (x_nc_le (by decide)) ?_
    have q135 : h121 75 3 = 78 := by have z := jB (e := 3) 0 j122 rg_75_3_0_1 (by decide) (by decide); omega
    refine x_getR (np := 4) (x := 707) (f := 3) (q := 78) (by decide +kernel) (by decide) (by decide +kernel) q135 ?_
    refine x_iload (np := 5) (x := 1) (by decide +kernel) rfl (by first | decide | omega) ?_
    refine x_iload (np := 6) (x := 2) (by decide +kernel) rfl l118 ?_
    refine x_ast (np := 7) (x := 0) (kd := 1) (n := 290) (i := (21 + 7 * u8)) (by decide +kernel) (Or.inl rfl) (by decide +kernel) (by first | decide | omega) (by first | decide | omega) (by decide) l118 (fun z => absurd z (by decide)) ?_
    have j137 := jU (e := (21 + 7 * u8)) (v := v117) u8 j122 rg_78_21_7_20 (by first | decide | omega) (by first | decide | omega) (by first | decide | omega)
    have f139 := jF (e := (21 + 7 * u8)) (v := v117) u8 f132 rg_78_21_7_20 (by first | decide | omega) (by first | decide | omega) (by decide)
    generalize e138 : x_up h121 78 (21 + 7 * u8) v117 = h136 at j137 f139 ⊢
    refine x_iload (np := 8) (x := 2) (by decide +kernel) rfl l118 ?_
    refine x_ifz (k := 2) (tg := 15) (np := 11) (by decide +kernel) (by decide) l118 (fun q140 => ?_) (fun q141 => ?_)
    · have q140 : v117 < 2147483648 := q140
      refine x_const (np := 16) (x := 9223372039002259456) (a := 2147483648) (by decide +kernel) (by decide) (by decide) ?_
      refine x_retI (np := 17) (x := 0) (by decide +kernel) (by decide) (Or.inr ⟨by decide +kernel, by first | decide | omega, by first | decide | omega⟩) ⟨_, rfl, (by decide), ?_⟩
      refine x_retI (np := 17) (x := 0) (by decide +kernel) (by decide) (Or.inr ⟨by decide +kernel, by first | decide | omega, by first | decide | omega⟩) ⟨_, rfl, (by decide), ?_⟩
      refine x_ifz (k := 0) (tg := 99) (np := 53) (by decide +kernel) (by decide) (by decide) (fun q142 => ?_) (fun q143 => ?_)
      · have q142 : 2147483648 = 2147483648 := q142
        refine x_const (np := 100) (x := 9223372039002259456) (a := 2147483648) (by decide +kernel) (by decide) (by decide) ?_
        have b144 := jB (e := 0) 0 hJ rg_78_0_0_1 (by first | decide | omega) (by first | decide | omega)
        have q145 : h136 78 0 = h121 78 0 := by rw [← e138]; exact x_up_i (by first | decide | omega)
        have q146 : h121 78 0 = h71 78 0 := jK 0 f123 rg_78_0_0_1 (by first | decide | omega) (by first | decide | omega) (by decide)
        have q147 : h71 78 0 = h35 78 0 := jK 0 f73 rg_78_0_0_1 (by first | decide | omega) (by first | decide | omega) (by decide)
        have q148 : h35 78 0 = h19 78 0 := by rw [← e37]; exact x_up_i (by first | decide | omega)
        have q149 : h19 78 0 = h 78 0 := jK 0 f21 rg_78_0_0_1 (by first | decide | omega) (by first | decide | omega) (by decide)
        have q150 : h136 78 1 = h121 78 1 := by rw [← e138]; exact x_up_i (by first | decide | omega)
        have q151 : h121 78 1 = h71 78 1 := jK 0 f123 rg_78_1_0_1 (by first | decide | omega) (by first | decide | omega) (by decide)
        have q152 : h71 78 1 = h35 78 1 := jK 0 f73 rg_78_1_0_1 (by first | decide | omega) (by first | decide | omega) (by decide)
        have q153 : h35 78 1 = h19 78 1 := by rw [← e37]; exact x_up_i (by first | decide | omega)
        have q154 : h19 78 1 = h 78 1 := jK 0 f21 rg_78_1_0_1 (by first | decide | omega) (by first | decide | omega) (by decide)
        have q155 : h136 78 2 = h121 78 2 := by rw [← e138]; exact x_up_i (by first | decide | omega)
        have q156 : h121 78 2 = h71 78 2 := jK 0 f123 rg_78_2_0_1 (by first | decide | omega) (by first | decide | omega) (by decide)
        have q157 : h71 78 2 = h35 78 2 := jK 0 f73 rg_78_2_0_1 (by first | decide | omega) (by first | decide | omega) (by decide)
        have q158 : h35 78 2 = h19 78 2 := by rw [← e37]; exact x_up_i (by first | decide | omega)
        have q159 : h19 78 2 = h 78 2 := jK 0 f21 rg_78_2_0_1 (by first | decide | omega) (by first | decide | omega) (by decide)
        have b160 := jB (e := 3) 0 hJ rg_78_3_0_1 (by first | decide | omega) (by first | decide | omega)
        have q161 : h136 78 3 = h121 78 3 := by rw [← e138]; exact x_up_i (by first | decide | omega)
        have q162 : h121 78 3 = h71 78 3 := jK 0 f123 rg_78_3_0_1 (by first | decide | omega) (by first | decide | omega) (by decide)
        have q163 : h71 78 3 = h35 78 3 := jK 0 f73 rg_78_3_0_1 (by first | decide | omega) (by first | decide | omega) (by decide)
        have q164 : h35 78 3 = h19 78 3 := by rw [← e37]; exact x_up_i (by first | decide | omega)
        have q165 : h19 78 3 = h 78 3 := jK 0 f21 rg_78_3_0_1 (by first | decide | omega) (by first | decide | omega) (by decide)
        have b166 := jB (e := 4) 0 hJ rg_78_4_0_1 (by first | decide | omega) (by first | decide | omega)
        have q167 : h136 78 4 = h121 78 4 := by rw [← e138]; exact x_up_i (by first | decide | omega)
        have q168 : h121 78 4 = h71 78 4 := jK 0 f123 rg_78_4_0_1 (by first | decide | omega) (by first | decide | omega) (by decide)
        have q169 : h71 78 4 = h35 78 4 := jK 0 f73 rg_78_4_0_1 (by first | decide | omega) (by first | decide | omega) (by decide)
        have q170 : h35 78 4 = h19 78 4 := by rw [← e37]; exact x_up_i (by first | decide | omega)
        have q171 : h19 78 4 = h 78 4 := jK 0 f21 rg_78_4_0_1 (by first | decide | omega) (by first | decide | omega) (by decide)
        have b172 := jB (e := 5) 0 hJ rg_78_5_0_1 (by first | decide | omega) (by first | decide | omega)
        have q173 : h136 78 5 = h121 78 5 := by rw [← e138]; exact x_up_i (by first | decide | omega)
        have q174 : h121 78 5 = h71 78 5 := jK 0 f123 rg_78_5_0_1 (by first | decide | omega) (by first | decide | omega) (by decide)
        have q175 : h71 78 5 = h35 78 5 := jK 0 f73 rg_78_5_0_1 (by first | decide | omega) (by first | decide | omega) (by decide)
        have q176 : h35 78 5 = h19 78 5 := by rw [← e37]; exact x_up_i (by first | decide | omega)
        have q177 : h19 78 5 = h 78 5 := jK 0 f21 rg_78_5_0_1 (by first | decide | omega) (by first | decide | omega) (by decide)
        have q178 : h35 75 7 = h19 75 7 := by rw [← e37]; exact x_up_k (by decide)
        obtain ⟨w179, e180⟩ := Tw.yes c77 (by first | decide | omega)
        have q181 : h35 75 7 = h19 75 7 := by rw [← e37]; exact x_up_k (by decide)
        obtain ⟨w182, e183⟩ := Tw.yes c77 (by first | decide | omega)
        have q184 : h136 75 9 = h121 75 9 := by rw [← e138]; exact x_up_k (by decide)
        have b185 := jB (e := 9) 0 j122 rg_75_9_0_1 (by first | decide | omega) (by first | decide | omega)
        refine x_retI (np := 101) (x := 0) (by decide +kernel) (by decide) (Or.inr ⟨by decide +kernel, by first | decide | omega, by first | decide | omega⟩) ⟨_, rfl, (by decide), ?_⟩
        exact ⟨j137, f139, (by first | decide | omega), (fun z => by first | decide | omega), (fun z => by first | decide | omega), (fun z => by first | decide | omega), (fun z => by first | decide | omega), (fun z => by first | decide | omega), (fun z => by first | decide | omega), (fun z => absurd z (by first | decide | omega)), (Or.inr ⟨by first | decide | omega, (nm9.y c28 (by first | decide | omega) (by first | decide | omega) rfl (by first | decide | omega) rfl (wd9.y w179 (congrArg (sk tB tN) (show h35 75 7 = h19 75 7 by first | decide | omega)) e180 rfl (nm9.f c130 (by first | decide | omega) (by first | decide | omega) rfl (by first | decide | omega) (by first | decide | omega))))⟩), (fun _ => Or.inr ⟨by first | decide | omega, (mF.y c28 (by first | decide | omega) (by first | decide | omega) rfl (by first | decide | omega) rfl (wF.y w182 (congrArg (sk tB tN) (show h35 75 7 = h19 75 7 by first | decide | omega)) e183 rfl (mF.no c130 (by first | decide | omega) (by first | decide | omega) rfl (by first | decide | omega) (Eq.trans (show h136 75 9 = h121 75 9 by first | decide | omega) c131))))⟩)⟩
      have q143 : ¬ (2147483648 = 2147483648) := q143
      exfalso; omega
    have q141 : ¬ (v117 < 2147483648) := q141
    have b186 := c126 (by first | decide | omega)
    have b187 := c127 (by first | decide | omega)
    have b188 := c128 (by first | decide | omega)
    refine x_const (np := 12) (x := 9223372043297226753) (a := 2147483649) (by decide +kernel) (by decide) (by decide) ?_
    refine x_goto (np := 15) (x := 16) (by decide +kernel) ?_
    refine x_retI (np := 17) (x := 0) (by decide +kernel) (by decide) (Or.inr ⟨by decide +kernel, by first | decide | omega, by first | decide | omega⟩) ⟨_, rfl, (by decide), ?_⟩
    refine x_retI (np := 17) (x := 0) (by decide +kernel) (by decide) (Or.inr ⟨by decide +kernel, by first | decide | omega, by first | decide | omega⟩) ⟨_, rfl, (by decide), ?_⟩
    refine x_ifz (k := 0) (tg := 99) (np := 53) (by decide +kernel) (by decide) (by decide) (fun q189 => ?_) (fun q190 => ?_)
    · have q189 : 2147483649 = 2147483648 := q189
      exfalso; omega
    have q190 : ¬ (2147483649 = 2147483648) := q190
    refine x_aload (np := 54) (x := 0) (by decide +kernel) rfl (x_nc_le (by decide)) ?_
    refine x_ldcB (i := 2) (idx := 147) (tx := "day") (by rw [tb_y179]; exact List.mem_of_getElem? (i := 37) rfl) (by decide) (by rw [tb_b179]; decide +kernel) ?_
    have m195 := Tq.fr m120 f123 (by decide) (by decide)
    have m194 : Tq tB tN h136 := by rw [← e138]; exact Tq.oth m195 (by decide) (fun z => absurd z.1 (by decide))
    refine x_cI (t := 6) (mj := 172) (n := 2) (rc := 12) (ml := 2) (nr := 0) (np := 59) (as := [x_r 75, x_b (2 + 1)]) (rest := []) (lo1 := [x_r 75, x_b (2 + 1)]) (by decide +kernel) (by decide) (by decide +kernel) (x_rb_of (by decide +kernel)) rfl rfl (x_wr (by decide) (x_wB (by decide) x_wn)) x_wn (by decide) rfl (c172_75_S0 j137  (by decide) m194) (fun v191 h196 l192 q193 => ?_)
    obtain ⟨j197, f198, b199, c200, c201, c202, c203⟩ := q193
    have f204 := Fr.trans f139 f198 (by decide)
    have q205 : h136 75 7 = h121 75 7 := by rw [← e138]; exact x_up_k (by decide)
    have b206 := jB (e := 7) 0 j197 rg_75_7_0_1 (by first | decide | omega) (by first | decide | omega)
    have q207 : h136 75 7 = h121 75 7 := by rw [← e138]; exact x_up_k (by decide)
    refine x_ifz (k := 0) (tg := 99) (np := 62) (by decide +kernel) (by decide) l192 (fun q208 => ?_) (fun q209 => ?_)
    · have q208 : v191 = 2147483648 := q208
      refine x_const (np := 100) (x := 9223372039002259456) (a := 2147483648) (by decide +kernel) (by decide) (by decide) ?_
      have b210 := jB (e := 0) 0 hJ rg_78_0_0_1 (by first | decide | omega) (by first | decide | omega)
      have q211 : h196 78 0 = h136 78 0 := jK 0 f198 rg_78_0_0_1 (by first | decide | omega) (by first | decide | omega) (by decide)
      have q212 : h136 78 0 = h121 78 0 := by rw [← e138]; exact x_up_i (by first | decide | omega)
      have q213 : h121 78 0 = h71 78 0 := jK 0 f123 rg_78_0_0_1 (by first | decide | omega) (by first | decide | omega) (by decide)
      have q214 : h71 78 0 = h35 78 0 := jK 0 f73 rg_78_0_0_1 (by first | decide | omega) (by first | decide | omega) (by decide)
      have q215 : h35 78 0 = h19 78 0 := by rw [← e37]; exact x_up_i (by first | decide | omega)
      have q216 : h19 78 0 = h 78 0 := jK 0 f21 rg_78_0_0_1 (by first | decide | omega) (by first | decide | omega) (by decide)
      have q217 : h196 78 1 = h136 78 1 := jK 0 f198 rg_78_1_0_1 (by first | decide | omega) (by first | decide | omega) (by decide)
      have q218 : h136 78 1 = h121 78 1 := by rw [← e138]; exact x_up_i (by first | decide | omega)
      have q219 : h121 78 1 = h71 78 1 := jK 0 f123 rg_78_1_0_1 (by first | decide | omega) (by first | decide | omega) (by decide)
      have q220 : h71 78 1 = h35 78 1 := jK 0 f73 rg_78_1_0_1 (by first | decide | omega) (by first | decide | omega) (by decide)
      have q221 : h35 78 1 = h19 78 1 := by rw [← e37]; exact x_up_i (by first | decide | omega)
      have q222 : h19 78 1 = h 78 1 := jK 0 f21 rg_78_1_0_1 (by first | decide | omega) (by first | decide | omega) (by decide)
      have q223 : h196 78 2 = h136 78 2 := jK 0 f198 rg_78_2_0_1 (by first | decide | omega) (by first | decide | omega) (by decide)
      have q224 : h136 78 2 = h121 78 2 := by rw [← e138]; exact x_up_i (by first | decide | omega)
      have q225 : h121 78 2 = h71 78 2 := jK 0 f123 rg_78_2_0_1 (by first | decide | omega) (by first | decide | omega) (by decide)
      have q226 : h71 78 2 = h35 78 2 := jK 0 f73 rg_78_2_0_1 (by first | decide | omega) (by first | decide | omega) (by decide)
      have q227 : h35 78 2 = h19 78 2 := by rw [← e37]; exact x_up_i (by first | decide | omega)
      have q228 : h19 78 2 = h 78 2 := jK 0 f21 rg_78_2_0_1 (by first | decide | omega) (by first | decide | omega) (by decide)
      have b229 := jB (e := 3) 0 hJ rg_78_3_0_1 (by first | decide | omega) (by first | decide | omega)
      have q230 : h196 78 3 = h136 78 3 := jK 0 f198 rg_78_3_0_1 (by first | decide | omega) (by first | decide | omega) (by decide)
      have q231 : h136 78 3 = h121 78 3 := by rw [← e138]; exact x_up_i (by first | decide | omega)
      have q232 : h121 78 3 = h71 78 3 := jK 0 f123 rg_78_3_0_1 (by first | decide | omega) (by first | decide | omega) (by decide)
      have q233 : h71 78 3 = h35 78 3 := jK 0 f73 rg_78_3_0_1 (by first | decide | omega) (by first | decide | omega) (by decide)
      have q234 : h35 78 3 = h19 78 3 := by rw [← e37]; exact x_up_i (by first | decide | omega)
      have q235 : h19 78 3 = h 78 3 := jK 0 f21 rg_78_3_0_1 (by first | decide | omega) (by first | decide | omega) (by decide)
      have b236 := jB (e := 4) 0 hJ rg_78_4_0_1 (by first | decide | omega) (by first | decide | omega)
      have q237 : h196 78 4 = h136 78 4 := jK 0 f198 rg_78_4_0_1 (by first | decide | omega) (by first | decide | omega) (by decide)
      have q238 : h136 78 4 = h121 78 4 := by rw [← e138]; exact x_up_i (by first | decide | omega)
      have q239 : h121 78 4 = h71 78 4 := jK 0 f123 rg_78_4_0_1 (by first | decide | omega) (by first | decide | omega) (by decide)
      have q240 : h71 78 4 = h35 78 4 := jK 0 f73 rg_78_4_0_1 (by first | decide | omega) (by first | decide | omega) (by decide)
      have q241 : h35 78 4 = h19 78 4 := by rw [← e37]; exact x_up_i (by first | decide | omega)
      have q242 : h19 78 4 = h 78 4 := jK 0 f21 rg_78_4_0_1 (by first | decide | omega) (by first | decide | omega) (by decide)
      have b243 := jB (e := 5) 0 hJ rg_78_5_0_1 (by first | decide | omega) (by first | decide | omega)
      have q244 : h196 78 5 = h136 78 5 := jK 0 f198 rg_78_5_0_1 (by first | decide | omega) (by first | decide | omega) (by decide)
      have q245 : h136 78 5 = h121 78 5 := by rw [← e138]; exact x_up_i (by first | decide | omega)
      have q246 : h121 78 5 = h71 78 5 := jK 0 f123 rg_78_5_0_1 (by first | decide | omega) (by first | decide | omega) (by decide)
      have q247 : h71 78 5 = h35 78 5 := jK 0 f73 rg_78_5_0_1 (by first | decide | omega) (by first | decide | omega) (by decide)
      have q248 : h35 78 5 = h19 78 5 := by rw [← e37]; exact x_up_i (by first | decide | omega)
      have q249 : h19 78 5 = h 78 5 := jK 0 f21 rg_78_5_0_1 (by first | decide | omega) (by first | decide | omega) (by decide)
      have q250 : h35 75 7 = h19 75 7 := by rw [← e37]; exact x_up_k (by decide)
      obtain ⟨w251, e252⟩ := Tw.yes c77 (by first | decide | omega)
      have q253 : h136 75 7 = h121 75 7 := by rw [← e138]; exact x_up_k (by decide)
      have q254 : h35 75 7 = h19 75 7 := by rw [← e37]; exact x_up_k (by decide)
      obtain ⟨w255, e256⟩ := Tw.yes c77 (by first | decide | omega)
      have q257 : h136 75 7 = h121 75 7 := by rw [← e138]; exact x_up_k (by decide)
      refine x_retI (np := 101) (x := 0) (by decide +kernel) (by decide) (Or.inr ⟨by decide +kernel, by first | decide | omega, by first | decide | omega⟩) ⟨_, rfl, (by decide), ?_⟩
      exact ⟨j197, f204, (by first | decide | omega), (fun z => by first | decide | omega), (fun z => by first | decide | omega), (fun z => by first | decide | omega), (fun z => by first | decide | omega), (fun z => by first | decide | omega), (fun z => by first | decide | omega), (fun z => absurd z (by first | decide | omega)), (Or.inr ⟨by first | decide | omega, (nm9.y c28 (by first | decide | omega) (by first | decide | omega) rfl (by first | decide | omega) rfl (wd9.y w251 (congrArg (sk tB tN) (show h35 75 7 = h19 75 7 by first | decide | omega)) e252 rfl (nm9.y c130 (by first | decide | omega) (by first | decide | omega) rfl (by first | decide | omega) rfl (wd9.f (Tw.no c202 (by first | decide | omega)) (congrArg (sk tB tN) (show h136 75 7 = h121 75 7 by first | decide | omega)) (by first | decide | omega)))))⟩), (fun _ => Or.inr ⟨by first | decide | omega, (mF.y c28 (by first | decide | omega) (by first | decide | omega) rfl (by first | decide | omega) rfl (wF.y w255 (congrArg (sk tB tN) (show h35 75 7 = h19 75 7 by first | decide | omega)) e256 rfl (mF.y c130 (by first | decide | omega) (by first | decide | omega) rfl (by first | decide | omega) rfl (wF.no (Tw.no c202 (by first | decide | omega)) (congrArg (sk tB tN) (show h136 75 7 = h121 75 7 by first | decide | omega)) c203))))⟩)⟩
    have q209 : ¬ (v191 = 2147483648) := q209
    have b258 := c201 (by first | decide | omega)
    refine x_aload (np := 63) (x := 0) (by decide +kernel) rfl (x_nc_le (by decide)) ?_
    refine x_iload (np := 64) (x := 1) (by decide +kernel) rfl (by first | decide | omega) ?_
    refine x_const (np := 65) (x := 9223372047592194050) (a := 2147483650) (by decide +kernel) (by decide) (by decide) ?_
    refine x_iadd (np := 66) (x := 0) (v := (2147483670 + 7 * u8)) (by decide +kernel) (by first | decide | omega) (by decide) (by first | decide | omega) (by first | decide | omega) ?_
    refine x_const (np := 67) (x := 9223372039002259456) (a := 2147483648) (by decide +kernel) (by decide) (by decide) ?_
    refine x_nI (t := 6) (mj := 178) (n := 3) (rc := 12) (ml := 3) (nr := 0) (np := 70) (as := [x_r 75, iv_c (2147483670 + 7 * u8), iv_c 2147483648]) (rest := []) (lo1 := [x_r 75, iv_c (2147483670 + 7 * u8), iv_c 2147483648]) (by decide +kernel) (by decide) (by decide +kernel) (x_rb_of (by decide +kernel)) rfl rfl (x_wr (by decide) (x_wi (by first | decide | omega) (x_wi (by decide) x_wn))) x_wn (by decide) rfl ?_
    refine x_aload (np := 1) (x := 0) (by decide +kernel) rfl (x_nc_le (by decide)) ?_
    refine x_iload (np := 2) (x := 1) (by decide +kernel) rfl (by first | decide | omega) ?_
    refine x_aload (np := 3) (x := 0) (by decide +kernel) rfl (x_nc_le (by decide)) ?_
    refine x_iload (np := 4) (x := 2) (by decide +kernel) rfl (by decide) ?_
    refine x_const (np := 6) (x := 9223372086246899723) (a := 2147483659) (by decide +kernel) (by decide) (by decide) ?_
    have m262 := Tq.fr m194 f198 (by decide) (by decide)
    refine x_cI (t := 6) (mj := 174) (n := 3) (rc := 12) (ml := 4) (nr := 2) (np := 9) (as := [x_r 75, iv_c 2147483648, iv_c 2147483659]) (rest := [iv_c (2147483670 + 7 * u8), x_r 75]) (lo1 := [x_r 75, iv_c 2147483648, iv_c 2147483659, 147573952589676412928]) (by decide +kernel) (by decide) (by decide +kernel) (x_rb_of (by decide +kernel)) rfl rfl (x_wr (by decide) (x_wi (by decide) (x_wi (by decide) x_wn))) (x_wi (by first | decide | omega) (x_wr (by decide) x_wn)) (by decide) rfl (c174_75 j197  (by first | decide | omega) (by first | decide | omega) m262) (fun v259 h263 l260 q261 => ?_)
    obtain ⟨j264, f265, b266, c267, c268, c269, c270, c271, c272, c273⟩ := q261
    have f274 := Fr.trans f204 f265 (by decide)
    have b275 := jB (e := 7) 0 j264 rg_75_7_0_1 (by first | decide | omega) (by first | decide | omega)
    have b276 := c271 (by first | decide | omega)
    refine x_nI (t := 6) (mj := 176) (n := 3) (rc := 12) (ml := 3) (nr := 0) (np := 12) (as := [x_r 75, iv_c (2147483670 + 7 * u8), iv_c v259]) (rest := []) (lo1 := [x_r 75, iv_c (2147483670 + 7 * u8), iv_c v259]) (by decide +kernel) (by decide) (by decide +kernel) (x_rb_of (by decide +kernel)) rfl rfl (x_wr (by decide) (x_wi (by first | decide | omega) (x_wi l260 x_wn))) x_wn (by decide) rfl ?_
    refine x_aload (np := 1) (x := 0) (by decide +kernel) rfl (x_nc_le (by decide)) ?_
    have q277 : h263 75 3 = 78 := by have z := jB (e := 3) 0 j264 rg_75_3_0_1 (by decide) (by decide); omega
    refine x_getR (np := 4) (x := 707) (f := 3) (q := 78) (by decide +kernel) (by decide) (by decide +kernel) q277 ?_
    refine x_iload (np := 5) (x := 1) (by decide +kernel) rfl (by first | decide | omega) ?_
    refine x_iload (np := 6) (x := 2) (by decide +kernel) rfl l260 ?_
    refine x_ast (np := 7) (x := 0) (kd := 1) (n := 290) (i := (22 + 7 * u8)) (by decide +kernel) (Or.inl rfl) (by decide +kernel) (by first | decide | omega) (by first | decide | omega) (by decide) l260 (fun z => absurd z (by decide)) ?_
    have j279 := jU (e := (22 + 7 * u8)) (v := v259) u8 j264 rg_78_22_7_20 (by first | decide | omega) (by first | decide | omega) (by first | decide | omega)
    have f281 := jF (e := (22 + 7 * u8)) (v := v259) u8 f274 rg_78_22_7_20 (by first | decide | omega) (by first | decide | omega) (by decide)
    generalize e280 : x_up h263 78 (22 + 7 * u8) v259 = h278 at j279 f281 ⊢
    refine x_iload (np := 8) (x := 2) (by decide +kernel) rfl l260 ?_
    refine x_ifz (k := 2) (tg := 15) (np := 11) (by decide +kernel) (by decide) l260 (fun q282 => ?_) (fun q283 => ?_)
    · have q282 : v259 < 2147483648 := q282
      refine x_const (np := 16) (x := 9223372039002259456) (a := 2147483648) (by decide +kernel) (by decide) (by decide) ?_
      refine x_retI (np := 17) (x := 0) (by decide +kernel) (by decide) (Or.inr ⟨by decide +kernel, by first | decide | omega, by first | decide | omega⟩) ⟨_, rfl, (by decide), ?_⟩
      refine x_retI (np := 13) (x := 0) (by decide +kernel) (by decide) (Or.inr ⟨by decide +kernel, by first | decide | omega, by first | decide | omega⟩) ⟨_, rfl, (by decide), ?_⟩
      refine x_ifz (k := 0) (tg := 99) (np := 73) (by decide +kernel) (by decide) (by decide) (fun q284 => ?_) (fun q285 => ?_)
      · have q284 : 2147483648 = 2147483648 := q284
        refine x_const (np := 100) (x := 9223372039002259456) (a := 2147483648) (by decide +kernel) (by decide) (by decide) ?_
        have b286 := jB (e := 0) 0 hJ rg_78_0_0_1 (by first | decide | omega) (by first | decide | omega)
        have q287 : h278 78 0 = h263 78 0 := by rw [← e280]; exact x_up_i (by first | decide | omega)
        have q288 : h263 78 0 = h196 78 0 := jK 0 f265 rg_78_0_0_1 (by first | decide | omega) (by first | decide | omega) (by decide)
        have q289 : h196 78 0 = h136 78 0 := jK 0 f198 rg_78_0_0_1 (by first | decide | omega) (by first | decide | omega) (by decide)
        have q290 : h136 78 0 = h121 78 0 := by rw [← e138]; exact x_up_i (by first | decide | omega)
        have q291 : h121 78 0 = h71 78 0 := jK 0 f123 rg_78_0_0_1 (by first | decide | omega) (by first | decide | omega) (by decide)
        have q292 : h71 78 0 = h35 78 0 := jK 0 f73 rg_78_0_0_1 (by first | decide | omega) (by first | decide | omega) (by decide)
        have q293 : h35 78 0 = h19 78 0 := by rw [← e37]; exact x_up_i (by first | decide | omega)
        have q294 : h19 78 0 = h 78 0 := jK 0 f21 rg_78_0_0_1 (by first | decide | omega) (by first | decide | omega) (by decide)
        have q295 : h278 78 1 = h263 78 1 := by rw [← e280]; exact x_up_i (by first | decide | omega)
        have q296 : h263 78 1 = h196 78 1 := jK 0 f265 rg_78_1_0_1 (by first | decide | omega) (by first | decide | omega) (by decide)
        have q297 : h196 78 1 = h136 78 1 := jK 0 f198 rg_78_1_0_1 (by first | decide | omega) (by first | decide | omega) (by decide)
        have q298 : h136 78 1 = h121 78 1 := by rw [← e138]; exact x_up_i (by first | decide | omega)
        have q299 : h121 78 1 = h71 78 1 := jK 0 f123 rg_78_1_0_1 (by first | decide | omega) (by first | decide | omega) (by decide)
        have q300 : h71 78 1 = h35 78 1 := jK 0 f73 rg_78_1_0_1 (by first | decide | omega) (by first | decide | omega) (by decide)
        have q301 : h35 78 1 = h19 78 1 := by rw [← e37]; exact x_up_i (by first | decide | omega)
        have q302 : h19 78 1 = h 78 1 := jK 0 f21 rg_78_1_0_1 (by first | decide | omega) (by first | decide | omega) (by decide)
        have q303 : h278 78 2 = h263 78 2 := by rw [← e280]; exact x_up_i (by first | decide | omega)
        have q304 : h263 78 2 = h196 78 2 := jK 0 f265 rg_78_2_0_1 (by first | decide | omega) (by first | decide | omega) (by decide)
        have q305 : h196 78 2 = h136 78 2 := jK 0 f198 rg_78_2_0_1 (by first | decide | omega) (by first | decide | omega) (by decide)
        have q306 : h136 78 2 = h121 78 2 := by rw [← e138]; exact x_up_i (by first | decide | omega)
        have q307 : h121 78 2 = h71 78 2 := jK 0 f123 rg_78_2_0_1 (by first | decide | omega) (by first | decide | omega) (by decide)
        have q308 : h71 78 2 = h35 78 2 := jK 0 f73 rg_78_2_0_1 (by first | decide | omega) (by first | decide | omega) (by decide)
        have q309 : h35 78 2 = h19 78 2 := by rw [← e37]; exact x_up_i (by first | decide | omega)
        have q310 : h19 78 2 = h 78 2 := jK 0 f21 rg_78_2_0_1 (by first | decide | omega) (by first | decide | omega) (by decide)
        have b311 := jB (e := 3) 0 hJ rg_78_3_0_1 (by first | decide | omega) (by first | decide | omega)
        have q312 : h278 78 3 = h263 78 3 := by rw [← e280]; exact x_up_i (by first | decide | omega)
        have q313 : h263 78 3 = h196 78 3 := jK 0 f265 rg_78_3_0_1 (by first | decide | omega) (by first | decide | omega) (by decide)
        have q314 : h196 78 3 = h136 78 3 := jK 0 f198 rg_78_3_0_1 (by first | decide | omega) (by first | decide | omega) (by decide)
        have q315 : h136 78 3 = h121 78 3 := by rw [← e138]; exact x_up_i (by first | decide | omega)
        have q316 : h121 78 3 = h71 78 3 := jK 0 f123 rg_78_3_0_1 (by first | decide | omega) (by first | decide | omega) (by decide)
        have q317 : h71 78 3 = h35 78 3 := jK 0 f73 rg_78_3_0_1 (by first | decide | omega) (by first | decide | omega) (by decide)
        have q318 : h35 78 3 = h19 78 3 := by rw [← e37]; exact x_up_i (by first | decide | omega)
        have q319 : h19 78 3 = h 78 3 := jK 0 f21 rg_78_3_0_1 (by first | decide | omega) (by first | decide | omega) (by decide)
        have b320 := jB (e := 4) 0 hJ rg_78_4_0_1 (by first | decide | omega) (by first | decide | omega)
        have q321 : h278 78 4 = h263 78 4 := by rw [← e280]; exact x_up_i (by first | decide | omega)
        have q322 : h263 78 4 = h196 78 4 := jK 0 f265 rg_78_4_0_1 (by first | decide | omega) (by first | decide | omega) (by decide)
        have q323 : h196 78 4 = h136 78 4 := jK 0 f198 rg_78_4_0_1 (by first | decide | omega) (by first | decide | omega) (by decide)
        have q324 : h136 78 4 = h121 78 4 := by rw [← e138]; exact x_up_i (by first | decide | omega)
        have q325 : h121 78 4 = h71 78 4 := jK 0 f123 rg_78_4_0_1 (by first | decide | omega) (by first | decide | omega) (by decide)
        have q326 : h71 78 4 = h35 78 4 := jK 0 f73 rg_78_4_0_1 (by first | decide | omega) (by first | decide | omega) (by decide)
        have q327 : h35 78 4 = h19 78 4 := by rw [← e37]; exact x_up_i (by first | decide | omega)
        have q328 : h19 78 4 = h 78 4 := jK 0 f21 rg_78_4_0_1 (by first | decide | omega) (by first | decide | omega) (by decide)
        have b329 := jB (e := 5) 0 hJ rg_78_5_0_1 (by first | decide | omega) (by first | decide | omega)
        have q330 : h278 78 5 = h263 78 5 := by rw [← e280]; exact x_up_i (by first | decide | omega)
        have q331 : h263 78 5 = h196 78 5 := jK 0 f265 rg_78_5_0_1 (by first | decide | omega) (by first | decide | omega) (by decide)
        have q332 : h196 78 5 = h136 78 5 := jK 0 f198 rg_78_5_0_1 (by first | decide | omega) (by first | decide | omega) (by decide)
        have q333 : h136 78 5 = h121 78 5 := by rw [← e138]; exact x_up_i (by first | decide | omega)
        have q334 : h121 78 5 = h71 78 5 := jK 0 f123 rg_78_5_0_1 (by first | decide | omega) (by first | decide | omega) (by decide)
        have q335 : h71 78 5 = h35 78 5 := jK 0 f73 rg_78_5_0_1 (by first | decide | omega) (by first | decide | omega) (by decide)
        have q336 : h35 78 5 = h19 78 5 := by rw [← e37]; exact x_up_i (by first | decide | omega)
        have q337 : h19 78 5 = h 78 5 := jK 0 f21 rg_78_5_0_1 (by first | decide | omega) (by first | decide | omega) (by decide)
        have q338 : h35 75 7 = h19 75 7 := by rw [← e37]; exact x_up_k (by decide)
        obtain ⟨w339, e340⟩ := Tw.yes c77 (by first | decide | omega)
        have q341 : h136 75 7 = h121 75 7 := by rw [← e138]; exact x_up_k (by decide)
        obtain ⟨w342, e343⟩ := Tw.yes c202 (by first | decide | omega)
        have q344 : h35 75 7 = h19 75 7 := by rw [← e37]; exact x_up_k (by decide)
        obtain ⟨w345, e346⟩ := Tw.yes c77 (by first | decide | omega)
        have q347 : h136 75 7 = h121 75 7 := by rw [← e138]; exact x_up_k (by decide)
        obtain ⟨w348, e349⟩ := Tw.yes c202 (by first | decide | omega)
        have q350 : h278 75 9 = h263 75 9 := by rw [← e280]; exact x_up_k (by decide)
        have b351 := jB (e := 9) 0 j264 rg_75_9_0_1 (by first | decide | omega) (by first | decide | omega)
        refine x_retI (np := 101) (x := 0) (by decide +kernel) (by decide) (Or.inr ⟨by decide +kernel, by first | decide | omega, by first | decide | omega⟩) ⟨_, rfl, (by decide), ?_⟩
        exact ⟨j279, f281, (by first | decide | omega), (fun z => by first | decide | omega), (fun z => by first | decide | omega), (fun z => by first | decide | omega), (fun z => by first | decide | omega), (fun z => by first | decide | omega), (fun z => by first | decide | omega), (fun z => absurd z (by first | decide | omega)), (Or.inr ⟨by first | decide | omega, (nm9.y c28 (by first | decide | omega) (by first | decide | omega) rfl (by first | decide | omega) rfl (wd9.y w339 (congrArg (sk tB tN) (show h35 75 7 = h19 75 7 by first | decide | omega)) e340 rfl (nm9.y c130 (by first | decide | omega) (by first | decide | omega) rfl (by first | decide | omega) rfl (wd9.y w342 (congrArg (sk tB tN) (show h136 75 7 = h121 75 7 by first | decide | omega)) e343 rfl (nm9.f c272 (by first | decide | omega) (by first | decide | omega) rfl (by first | decide | omega) (by first | decide | omega))))))⟩), (fun _ => Or.inr ⟨by first | decide | omega, (mF.y c28 (by first | decide | omega) (by first | decide | omega) rfl (by first | decide | omega) rfl (wF.y w345 (congrArg (sk tB tN) (show h35 75 7 = h19 75 7 by first | decide | omega)) e346 rfl (mF.y c130 (by first | decide | omega) (by first | decide | omega) rfl (by first | decide | omega) rfl (wF.y w348 (congrArg (sk tB tN) (show h136 75 7 = h121 75 7 by first | decide | omega)) e349 rfl (mF.no c272 (by first | decide | omega) (by first | decide | omega) rfl (by first | decide | omega) (Eq.trans (show h278 75 9 = h263 75 9 by first | decide | omega) c273))))))⟩)⟩
      have q285 : ¬ (2147483648 = 2147483648) := q285
      exfalso; omega
    have q283 : ¬ (v259 < 2147483648) := q283
    have b352 := c268 (by first | decide | omega)
    have b353 := c269 (by first | decide | omega)
    have b354 := c270 (by first | decide | omega)
    refine x_const (np := 12) (x := 9223372043297226753) (a := 2147483649) (by decide +kernel) (by decide) (by decide) ?_
    refine x_goto (np := 15) (x := 16) (by decide +kernel) ?_
    refine x_retI (np := 17) (x := 0) (by decide +kernel) (by decide) (Or.inr ⟨by decide +kernel, by first | decide | omega, by first | decide | omega⟩) ⟨_, rfl, (by decide), ?_⟩
    refine x_retI (np := 13) (x := 0) (by decide +kernel) (by decide) (Or.inr ⟨by decide +kernel, by first | decide | omega, by first | decide | omega⟩) ⟨_, rfl, (by decide), ?_⟩
    refine x_ifz (k := 0) (tg := 99) (np := 73) (by decide +kernel) (by decide) (by decide) (fun q355 => ?_) (fun q356 => ?_)
    · have q355 : 2147483649 = 2147483648 := q355
      exfalso; omega
    have q356 : ¬ (2147483649 = 2147483648) := q356
    refine x_aload (np := 74) (x := 0) (by decide +kernel) rfl (x_nc_le (by decide)) ?_
    refine x_ldcB (i := 3) (idx := 151) (tx := "for") (by rw [tb_y179]; exact List.mem_of_getElem? (i := 38) rfl) (by decide) (by rw [tb_b179]; decide +kernel) ?_
    have m361 := Tq.fr m262 f265 (by decide) (by decide)
    have m360 : Tq tB tN h278 := by rw [← e280]; exact Tq.oth m361 (by decide) (fun z => absurd z.1 (by decide))
    refine x_cI (t := 6) (mj := 172) (n := 2) (rc := 12) (ml := 2) (nr := 0) (np := 79) (as := [x_r 75, x_b (3 + 1)]) (rest := []) (lo1 := [x_r 75, x_b (3 + 1)]) (by decide +kernel) (by decide) (by decide +kernel) (x_rb_of (by decide +kernel)) rfl rfl (x_wr (by decide) (x_wB (by decide) x_wn)) x_wn (by decide) rfl (c172_75_S0 j279  (by decide) m360) (fun v357 h362 l358 q359 => ?_)
    obtain ⟨j363, f364, b365, c366, c367, c368, c369⟩ := q359
    have f370 := Fr.trans f281 f364 (by decide)
    have q371 : h278 75 7 = h263 75 7 := by rw [← e280]; exact x_up_k (by decide)
    have b372 := jB (e := 7) 0 j363 rg_75_7_0_1 (by first | decide | omega) (by first | decide | omega)
    have q373 : h278 75 7 = h263 75 7 := by rw [← e280]; exact x_up_k (by decide)
    refine x_ifz (k := 0) (tg := 99) (np := 82) (by decide +kernel) (by decide) l358 (fun q374 => ?_) (fun q375 => ?_)
    · have q374 : v357 = 2147483648 := q374
      refine x_const (np := 100) (x := 9223372039002259456) (a := 2147483648) (by decide +kernel) (by decide) (by decide) ?_
      have b376 := jB (e := 0) 0 hJ rg_78_0_0_1 (by first | decide | omega) (by first | decide | omega)
      have q377 : h362 78 0 = h278 78 0 := jK 0 f364 rg_78_0_0_1 (by first | decide | omega) (by first | decide | omega) (by decide)
      have q378 : h278 78 0 = h263 78 0 := by rw [← e280]; exact x_up_i (by first | decide | omega)
      have q379 : h263 78 0 = h196 78 0 := jK 0 f265 rg_78_0_0_1 (by first | decide | omega) (by first | decide | omega) (by decide)
      have q380 : h196 78 0 = h136 78 0 := jK 0 f198 rg_78_0_0_1 (by first | decide | omega) (by first | decide | omega) (by decide)
      have q381 : h136 78 0 = h121 78 0 := by rw [← e138]; exact x_up_i (by first | decide | omega)
      have q382 : h121 78 0 = h71 78 0 := jK 0 f123 rg_78_0_0_1 (by first | decide | omega) (by first | decide | omega) (by decide)
      have q383 : h71 78 0 = h35 78 0 := jK 0 f73 rg_78_0_0_1 (by first | decide | omega) (by first | decide | omega) (by decide)
      have q384 : h35 78 0 = h19 78 0 := by rw [← e37]; exact x_up_i (by first | decide | omega)
      have q385 : h19 78 0 = h 78 0 := jK 0 f21 rg_78_0_0_1 (by first | decide | omega) (by first | decide | omega) (by decide)
      have q386 : h362 78 1 = h278 78 1 := jK 0 f364 rg_78_1_0_1 (by first | decide | omega) (by first | decide | omega) (by decide)
      have q387 : h278 78 1 = h263 78 1 := by rw [← e280]; exact x_up_i (by first | decide | omega)
      have q388 : h263 78 1 = h196 78 1 := jK 0 f265 rg_78_1_0_1 (by first | decide | omega) (by first | decide | omega) (by decide)
      have q389 : h196 78 1 = h136 78 1 := jK 0 f198 rg_78_1_0_1 (by first | decide | omega) (by first | decide | omega) (by decide)
      have q390 : h136 78 1 = h121 78 1 := by rw [← e138]; exact x_up_i (by first | decide | omega)
      have q391 : h121 78 1 = h71 78 1 := jK 0 f123 rg_78_1_0_1 (by first | decide | omega) (by first | decide | omega) (by decide)
      have q392 : h71 78 1 = h35 78 1 := jK 0 f73 rg_78_1_0_1 (by first | decide | omega) (by first | decide | omega) (by decide)
      have q393 : h35 78 1 = h19 78 1 := by rw [← e37]; exact x_up_i (by first | decide | omega)
      have q394 : h19 78 1 = h 78 1 := jK 0 f21 rg_78_1_0_1 (by first | decide | omega) (by first | decide | omega) (by decide)
      have q395 : h362 78 2 = h278 78 2 := jK 0 f364 rg_78_2_0_1 (by first | decide | omega) (by first | decide | omega) (by decide)
      have q396 : h278 78 2 = h263 78 2 := by rw [← e280]; exact x_up_i (by first | decide | omega)
      have q397 : h263 78 2 = h196 78 2 := jK 0 f265 rg_78_2_0_1 (by first | decide | omega) (by first | decide | omega) (by decide)
      have q398 : h196 78 2 = h136 78 2 := jK 0 f198 rg_78_2_0_1 (by first | decide | omega) (by first | decide | omega) (by decide)
      have q399 : h136 78 2 = h121 78 2 := by rw [← e138]; exact x_up_i (by first | decide | omega)
      have q400 : h121 78 2 = h71 78 2 := jK 0 f123 rg_78_2_0_1 (by first | decide | omega) (by first | decide | omega) (by decide)
      have q401 : h71 78 2 = h35 78 2 := jK 0 f73 rg_78_2_0_1 (by first | decide | omega) (by first | decide | omega) (by decide)
      have q402 : h35 78 2 = h19 78 2 := by rw [← e37]; exact x_up_i (by first | decide | omega)
      have q403 : h19 78 2 = h 78 2 := jK 0 f21 rg_78_2_0_1 (by first | decide | omega) (by first | decide | omega) (by decide)
      have b404 := jB (e := 3) 0 hJ rg_78_3_0_1 (by first | decide | omega) (by first | decide | omega)
      have q405 : h362 78 3 = h278 78 3 := jK 0 f364 rg_78_3_0_1 (by first | decide | omega) (by first | decide | omega) (by decide)
      have q406 : h278 78 3 = h263 78 3 := by rw [← e280]; exact x_up_i (by first | decide | omega)
      have q407 : h263 78 3 = h196 78 3 := jK 0 f265 rg_78_3_0_1 (by first | decide | omega) (by first | decide | omega) (by decide)
      have q408 : h196 78 3 = h136 78 3 := jK 0 f198 rg_78_3_0_1 (by first | decide | omega) (by first | decide | omega) (by decide)
      have q409 : h136 78 3 = h121 78 3 := by rw [← e138]; exact x_up_i (by first | decide | omega)
      have q410 : h121 78 3 = h71 78 3 := jK 0 f123 rg_78_3_0_1 (by first | decide | omega) (by first | decide | omega) (by decide)
      have q411 : h71 78 3 = h35 78 3 := jK 0 f73 rg_78_3_0_1 (by first | decide | omega) (by first | decide | omega) (by decide)
      have q412 : h35 78 3 = h19 78 3 := by rw [← e37]; exact x_up_i (by first | decide | omega)
      have q413 : h19 78 3 = h 78 3 := jK 0 f21 rg_78_3_0_1 (by first | decide | omega) (by first | decide | omega) (by decide)
      have b414 := jB (e := 4) 0 hJ rg_78_4_0_1 (by first | decide | omega) (by first | decide | omega)
      have q415 : h362 78 4 = h278 78 4 := jK 0 f364 rg_78_4_0_1 (by first | decide | omega) (by first | decide | omega) (by decide)
      have q416 : h278 78 4 = h263 78 4 := by rw [← e280]; exact x_up_i (by first | decide | omega)
      have q417 : h263 78 4 = h196 78 4 := jK 0 f265 rg_78_4_0_1 (by first | decide | omega) (by first | decide | omega) (by decide)
      have q418 : h196 78 4 = h136 78 4 := jK 0 f198 rg_78_4_0_1 (by first | decide | omega) (by first | decide | omega) (by decide)
      have q419 : h136 78 4 = h121 78 4 := by rw [← e138]; exact x_up_i (by first | decide | omega)
      have q420 : h121 78 4 = h71 78 4 := jK 0 f123 rg_78_4_0_1 (by first | decide | omega) (by first | decide | omega) (by decide)
      have q421 : h71 78 4 = h35 78 4 := jK 0 f73 rg_78_4_0_1 (by first | decide | omega) (by first | decide | omega) (by decide)
      have q422 : h35 78 4 = h19 78 4 := by rw [← e37]; exact x_up_i (by first | decide | omega)
      have q423 : h19 78 4 = h 78 4 := jK 0 f21 rg_78_4_0_1 (by first | decide | omega) (by first | decide | omega) (by decide)
      have b424 := jB (e := 5) 0 hJ rg_78_5_0_1 (by first | decide | omega) (by first | decide | omega)
      have q425 : h362 78 5 = h278 78 5 := jK 0 f364 rg_78_5_0_1 (by first | decide | omega) (by first | decide | omega) (by decide)
      have q426 : h278 78 5 = h263 78 5 := by rw [← e280]; exact x_up_i (by first | decide | omega)
      have q427 : h263 78 5 = h196 78 5 := jK 0 f265 rg_78_5_0_1 (by first | decide | omega) (by first | decide | omega) (by decide)
      have q428 : h196 78 5 = h136 78 5 := jK 0 f198 rg_78_5_0_1 (by first | decide | omega) (by first | decide | omega) (by decide)
      have q429 : h136 78 5 = h121 78 5 := by rw [← e138]; exact x_up_i (by first | decide | omega)
      have q430 : h121 78 5 = h71 78 5 := jK 0 f123 rg_78_5_0_1 (by first | decide | omega) (by first | decide | omega) (by decide)
      have q431 : h71 78 5 = h35 78 5 := jK 0 f73 rg_78_5_0_1 (by first | decide | omega) (by first | decide | omega) (by decide)
      have q432 : h35 78 5 = h19 78 5 := by rw [← e37]; exact x_up_i (by first | decide | omega)
      have q433 : h19 78 5 = h 78 5 := jK 0 f21 rg_78_5_0_1 (by first | decide | omega) (by first | decide | omega) (by decide)
      have q434 : h35 75 7 = h19 75 7 := by rw [← e37]; exact x_up_k (by decide)
      obtain ⟨w435, e436⟩ := Tw.yes c77 (by first | decide | omega)
      have q437 : h136 75 7 = h121 75 7 := by rw [← e138]; exact x_up_k (by decide)
      obtain ⟨w438, e439⟩ := Tw.yes c202 (by first | decide | omega)
      have q440 : h278 75 7 = h263 75 7 := by rw [← e280]; exact x_up_k (by decide)
      have q441 : h35 75 7 = h19 75 7 := by rw [← e37]; exact x_up_k (by decide)
      obtain ⟨w442, e443⟩ := Tw.yes c77 (by first | decide | omega)
      have q444 : h136 75 7 = h121 75 7 := by rw [← e138]; exact x_up_k (by decide)
      obtain ⟨w445, e446⟩ := Tw.yes c202 (by first | decide | omega)
      have q447 : h278 75 7 = h263 75 7 := by rw [← e280]; exact x_up_k (by decide)
      refine x_retI (np := 101) (x := 0) (by decide +kernel) (by decide) (Or.inr ⟨by decide +kernel, by first | decide | omega, by first | decide | omega⟩) ⟨_, rfl, (by decide), ?_⟩
      exact ⟨j363, f370, (by first | decide | omega), (fun z => by first | decide | omega), (fun z => by first | decide | omega), (fun z => by first | decide | omega), (fun z => by first | decide | omega), (fun z => by first | decide | omega), (fun z => by first | decide | omega), (fun z => absurd z (by first | decide | omega)), (Or.inr ⟨by first | decide | omega, (nm9.y c28 (by first | decide | omega) (by first | decide | omega) rfl (by first | decide | omega) rfl (wd9.y w435 (congrArg (sk tB tN) (show h35 75 7 = h19 75 7 by first | decide | omega)) e436 rfl (nm9.y c130 (by first | decide | omega) (by first | decide | omega) rfl (by first | decide | omega) rfl (wd9.y w438 (congrArg (sk tB tN) (show h136 75 7 = h121 75 7 by first | decide | omega)) e439 rfl (nm9.y c272 (by first | decide | omega) (by first | decide | omega) rfl (by first | decide | omega) rfl (wd9.f (Tw.no c368 (by first | decide | omega)) (congrArg (sk tB tN) (show h278 75 7 = h263 75 7 by first | decide | omega)) (by first | decide | omega)))))))⟩), (fun _ => Or.inr ⟨by first | decide | omega, (mF.y c28 (by first | decide | omega) (by first | decide | omega) rfl (by first | decide | omega) rfl (wF.y w442 (congrArg (sk tB tN) (show h35 75 7 = h19 75 7 by first | decide | omega)) e443 rfl (mF.y c130 (by first | decide | omega) (by first | decide | omega) rfl (by first | decide | omega) rfl (wF.y w445 (congrArg (sk tB tN) (show h136 75 7 = h121 75 7 by first | decide | omega)) e446 rfl (mF.y c272 (by first | decide | omega) (by first | decide | omega) rfl (by first | decide | omega) rfl (wF.no (Tw.no c368 (by first | decide | omega)) (congrArg (sk tB tN) (show h278 75 7 = h263 75 7 by first | decide | omega)) c369))))))⟩)⟩
    have q375 : ¬ (v357 = 2147483648) := q375
    have b448 := c367 (by first | decide | omega)
    refine x_aload (np := 83) (x := 0) (by decide +kernel) rfl (x_nc_le (by decide)) ?_
    refine x_iload (np := 84) (x := 1) (by decide +kernel) rfl (by first | decide | omega) ?_
    refine x_const (np := 85) (x := 9223372051887161347) (a := 2147483651) (by decide +kernel) (by decide) (by decide) ?_
    refine x_iadd (np := 86) (x := 0) (v := (2147483671 + 7 * u8)) (by decide +kernel) (by first | decide | omega) (by decide) (by first | decide | omega) (by first | decide | omega) ?_
    refine x_aload (np := 87) (x := 0) (by decide +kernel) rfl (x_nc_le (by decide)) ?_
    refine x_const (np := 88) (x := 9223372043297226753) (a := 2147483649) (by decide +kernel) (by decide) (by decide) ?_
    refine x_const (np := 90) (x := 9223372090541867020) (a := 2147483660) (by decide +kernel) (by decide) (by decide) ?_
    have m452 := Tq.fr m360 f364 (by decide) (by decide)
    refine x_cI (t := 6) (mj := 174) (n := 3) (rc := 12) (ml := 4) (nr := 2) (np := 93) (as := [x_r 75, iv_c 2147483649, iv_c 2147483660]) (rest := [iv_c (2147483671 + 7 * u8), x_r 75]) (lo1 := [x_r 75, iv_c 2147483649, iv_c 2147483660, 147573952589676412928]) (by decide +kernel) (by decide) (by decide +kernel) (x_rb_of (by decide +kernel)) rfl rfl (x_wr (by decide) (x_wi (by decide) (x_wi (by decide) x_wn))) (x_wi (by first | decide | omega) (x_wr (by decide) x_wn)) (by decide) rfl (c174_75 j363  (by first | decide | omega) (by first | decide | omega) m452) (fun v449 h453 l450 q451 => ?_)
    obtain ⟨j454, f455, b456, c457, c458, c459, c460, c461, c462, c463⟩ := q451
    have f464 := Fr.trans f370 f455 (by decide)
    have b465 := jB (e := 7) 0 j454 rg_75_7_0_1 (by first | decide | omega) (by first | decide | omega)
    have b466 := c461 (by first | decide | omega)
    refine x_nI (t := 6) (mj := 176) (n := 3) (rc := 12) (ml := 3) (nr := 0) (np := 96) (as := [x_r 75, iv_c (2147483671 + 7 * u8), iv_c v449]) (rest := []) (lo1 := [x_r 75, iv_c (2147483671 + 7 * u8), iv_c v449]) (by decide +kernel) (by decide) (by decide +kernel) (x_rb_of (by decide +kernel)) rfl rfl (x_wr (by decide) (x_wi (by first | decide | omega) (x_wi l450 x_wn))) x_wn (by decide) rfl ?_
    refine x_aload (np := 1) (x := 0) (by decide +kernel) rfl (x_nc_le (by decide)) ?_
    have q467 : h453 75 3 = 78 := by have z := jB (e := 3) 0 j454 rg_75_3_0_1 (by decide) (by decide); omega
    refine x_getR (np := 4) (x := 707) (f := 3) (q := 78) (by decide +kernel) (by decide) (by decide +kernel) q467 ?_
    refine x_iload (np := 5) (x := 1) (by decide +kernel) rfl (by first | decide | omega) ?_
    refine x_iload (np := 6) (x := 2) (by decide +kernel) rfl l450 ?_
    refine x_ast (np := 7) (x := 0) (kd := 1) (n := 290) (i := (23 + 7 * u8)) (by decide +kernel) (Or.inl rfl) (by decide +kernel) (by first | decide | omega) (by first | decide | omega) (by decide) l450 (fun z => absurd z (by decide)) ?_
    have j469 := jU (e := (23 + 7 * u8)) (v := v449) u8 j454 rg_78_23_7_20 (by first | decide | omega) (by first | decide | omega) (by first | decide | omega)
    have f471 := jF (e := (23 + 7 * u8)) (v := v449) u8 f464 rg_78_23_7_20 (by first | decide | omega) (by first | decide | omega) (by decide)
    generalize e470 : x_up h453 78 (23 + 7 * u8) v449 = h468 at j469 f471 ⊢
    refine x_iload (np := 8) (x := 2) (by decide +kernel) rfl l450 ?_
    refine x_ifz (k := 2) (tg := 15) (np := 11) (by decide +kernel) (by decide) l450 (fun q472 => ?_) (fun q473 => ?_)
    · have q472 : v449 < 2147483648 := q472
      refine x_const (np := 16) (x := 9223372039002259456) (a := 2147483648) (by decide +kernel) (by decide) (by decide) ?_
      refine x_retI (np := 17) (x := 0) (by decide +kernel) (by decide) (Or.inr ⟨by decide +kernel, by first | decide | omega, by first | decide | omega⟩) ⟨_, rfl, (by decide), ?_⟩
      refine x_ifz (k := 1) (tg := 101) (np := 99) (by decide +kernel) (by decide) (by decide) (fun q474 => ?_) (fun q475 => ?_)
      · have q474 : 2147483648 ≠ 2147483648 := q474
        exfalso; omega
      have q475 : ¬ (2147483648 ≠ 2147483648) := q475
      refine x_const (np := 100) (x := 9223372039002259456) (a := 2147483648) (by decide +kernel) (by decide) (by decide) ?_
      have b476 := jB (e := 0) 0 hJ rg_78_0_0_1 (by first | decide | omega) (by first | decide | omega)
      have q477 : h468 78 0 = h453 78 0 := by rw [← e470]; exact x_up_i (by first | decide | omega)
      have q478 : h453 78 0 = h362 78 0 := jK 0 f455 rg_78_0_0_1 (by first | decide | omega) (by first | decide | omega) (by decide)
      have q479 : h362 78 0 = h278 78 0 := jK 0 f364 rg_78_0_0_1 (by first | decide | omega) (by first | decide | omega) (by decide)
      have q480 : h278 78 0 = h263 78 0 := by rw [← e280]; exact x_up_i (by first | decide | omega)
      have q481 : h263 78 0 = h196 78 0 := jK 0 f265 rg_78_0_0_1 (by first | decide | omega) (by first | decide | omega) (by decide)
      have q482 : h196 78 0 = h136 78 0 := jK 0 f198 rg_78_0_0_1 (by first | decide | omega) (by first | decide | omega) (by decide)
      have q483 : h136 78 0 = h121 78 0 := by rw [← e138]; exact x_up_i (by first | decide | omega)
      have q484 : h121 78 0 = h71 78 0 := jK 0 f123 rg_78_0_0_1 (by first | decide | omega) (by first | decide | omega) (by decide)
      have q485 : h71 78 0 = h35 78 0 := jK 0 f73 rg_78_0_0_1 (by first | decide | omega) (by first | decide | omega) (by decide)
      have q486 : h35 78 0 = h19 78 0 := by rw [← e37]; exact x_up_i (by first | decide | omega)
      have q487 : h19 78 0 = h 78 0 := jK 0 f21 rg_78_0_0_1 (by first | decide | omega) (by first | decide | omega) (by decide)
      have q488 : h468 78 1 = h453 78 1 := by rw [← e470]; exact x_up_i (by first | decide | omega)
      have q489 : h453 78 1 = h362 78 1 := jK 0 f455 rg_78_1_0_1 (by first | decide | omega) (by first | decide | omega) (by decide)
      have q490 : h362 78 1 = h278 78 1 := jK 0 f364 rg_78_1_0_1 (by first | decide | omega) (by first | decide | omega) (by decide)
      have q491 : h278 78 1 = h263 78 1 := by rw [← e280]; exact x_up_i (by first | decide | omega)
      have q492 : h263 78 1 = h196 78 1 := jK 0 f265 rg_78_1_0_1 (by first | decide | omega) (by first | decide | omega) (by decide)
      have q493 : h196 78 1 = h136 78 1 := jK 0 f198 rg_78_1_0_1 (by first | decide | omega) (by first | decide | omega) (by decide)
      have q494 : h136 78 1 = h121 78 1 := by rw [← e138]; exact x_up_i (by first | decide | omega)
      have q495 : h121 78 1 = h71 78 1 := jK 0 f123 rg_78_1_0_1 (by first | decide | omega) (by first | decide | omega) (by decide)
      have q496 : h71 78 1 = h35 78 1 := jK 0 f73 rg_78_1_0_1 (by first | decide | omega) (by first | decide | omega) (by decide)
      have q497 : h35 78 1 = h19 78 1 := by rw [← e37]; exact x_up_i (by first | decide | omega)
      have q498 : h19 78 1 = h 78 1 := jK 0 f21 rg_78_1_0_1 (by first | decide | omega) (by first | decide | omega) (by decide)
      have q499 : h468 78 2 = h453 78 2 := by rw [← e470]; exact x_up_i (by first | decide | omega)
      have q500 : h453 78 2 = h362 78 2 := jK 0 f455 rg_78_2_0_1 (by first | decide | omega) (by first | decide | omega) (by decide)
      have q501 : h362 78 2 = h278 78 2 := jK 0 f364 rg_78_2_0_1 (by first | decide | omega) (by first | decide | omega) (by decide)
      have q502 : h278 78 2 = h263 78 2 := by rw [← e280]; exact x_up_i (by first | decide | omega)
      have q503 : h263 78 2 = h196 78 2 := jK 0 f265 rg_78_2_0_1 (by first | decide | omega) (by first | decide | omega) (by decide)
      have q504 : h196 78 2 = h136 78 2 := jK 0 f198 rg_78_2_0_1 (by first | decide | omega) (by first | decide | omega) (by decide)
      have q505 : h136 78 2 = h121 78 2 := by rw [← e138]; exact x_up_i (by first | decide | omega)
      have q506 : h121 78 2 = h71 78 2 := jK 0 f123 rg_78_2_0_1 (by first | decide | omega) (by first | decide | omega) (by decide)
      have q507 : h71 78 2 = h35 78 2 := jK 0 f73 rg_78_2_0_1 (by first | decide | omega) (by first | decide | omega) (by decide)
      have q508 : h35 78 2 = h19 78 2 := by rw [← e37]; exact x_up_i (by first | decide | omega)
      have q509 : h19 78 2 = h 78 2 := jK 0 f21 rg_78_2_0_1 (by first | decide | omega) (by first | decide | omega) (by decide)
      have b510 := jB (e := 3) 0 hJ rg_78_3_0_1 (by first | decide | omega) (by first | decide | omega)
      have q511 : h468 78 3 = h453 78 3 := by rw [← e470]; exact x_up_i (by first | decide | omega)
      have q512 : h453 78 3 = h362 78 3 := jK 0 f455 rg_78_3_0_1 (by first | decide | omega) (by first | decide | omega) (by decide)
      have q513 : h362 78 3 = h278 78 3 := jK 0 f364 rg_78_3_0_1 (by first | decide | omega) (by first | decide | omega) (by decide)
      have q514 : h278 78 3 = h263 78 3 := by rw [← e280]; exact x_up_i (by first | decide | omega)
      have q515 : h263 78 3 = h196 78 3 := jK 0 f265 rg_78_3_0_1 (by first | decide | omega) (by first | decide | omega) (by decide)
      have q516 : h196 78 3 = h136 78 3 := jK 0 f198 rg_78_3_0_1 (by first | decide | omega) (by first | decide | omega) (by decide)
      have q517 : h136 78 3 = h121 78 3 := by rw [← e138]; exact x_up_i (by first | decide | omega)
      have q518 : h121 78 3 = h71 78 3 := jK 0 f123 rg_78_3_0_1 (by first | decide | omega) (by first | decide | omega) (by decide)
      have q519 : h71 78 3 = h35 78 3 := jK 0 f73 rg_78_3_0_1 (by first | decide | omega) (by first | decide | omega) (by decide)
      have q520 : h35 78 3 = h19 78 3 := by rw [← e37]; exact x_up_i (by first | decide | omega)
      have q521 : h19 78 3 = h 78 3 := jK 0 f21 rg_78_3_0_1 (by first | decide | omega) (by first | decide | omega) (by decide)
      have b522 := jB (e := 4) 0 hJ rg_78_4_0_1 (by first | decide | omega) (by first | decide | omega)
      have q523 : h468 78 4 = h453 78 4 := by rw [← e470]; exact x_up_i (by first | decide | omega)
      have q524 : h453 78 4 = h362 78 4 := jK 0 f455 rg_78_4_0_1 (by first | decide | omega) (by first | decide | omega) (by decide)
      have q525 : h362 78 4 = h278 78 4 := jK 0 f364 rg_78_4_0_1 (by first | decide | omega) (by first | decide | omega) (by decide)
      have q526 : h278 78 4 = h263 78 4 := by rw [← e280]; exact x_up_i (by first | decide | omega)
      have q527 : h263 78 4 = h196 78 4 := jK 0 f265 rg_78_4_0_1 (by first | decide | omega) (by first | decide | omega) (by decide)
      have q528 : h196 78 4 = h136 78 4 := jK 0 f198 rg_78_4_0_1 (by first | decide | omega) (by first | decide | omega) (by decide)
      have q529 : h136 78 4 = h121 78 4 := by rw [← e138]; exact x_up_i (by first | decide | omega)
      have q530 : h121 78 4 = h71 78 4 := jK 0 f123 rg_78_4_0_1 (by first | decide | omega) (by first | decide | omega) (by decide)
      have q531 : h71 78 4 = h35 78 4 := jK 0 f73 rg_78_4_0_1 (by first | decide | omega) (by first | decide | omega) (by decide)
      have q532 : h35 78 4 = h19 78 4 := by rw [← e37]; exact x_up_i (by first | decide | omega)
      have q533 : h19 78 4 = h 78 4 := jK 0 f21 rg_78_4_0_1 (by first | decide | omega) (by first | decide | omega) (by decide)
      have b534 := jB (e := 5) 0 hJ rg_78_5_0_1 (by first | decide | omega) (by first | decide | omega)
      have q535 : h468 78 5 = h453 78 5 := by rw [← e470]; exact x_up_i (by first | decide | omega)
      have q536 : h453 78 5 = h362 78 5 := jK 0 f455 rg_78_5_0_1 (by first | decide | omega) (by first | decide | omega) (by decide)
      have q537 : h362 78 5 = h278 78 5 := jK 0 f364 rg_78_5_0_1 (by first | decide | omega) (by first | decide | omega) (by decide)
      have q538 : h278 78 5 = h263 78 5 := by rw [← e280]; exact x_up_i (by first | decide | omega)
      have q539 : h263 78 5 = h196 78 5 := jK 0 f265 rg_78_5_0_1 (by first | decide | omega) (by first | decide | omega) (by decide)
      have q540 : h196 78 5 = h136 78 5 := jK 0 f198 rg_78_5_0_1 (by first | decide | omega) (by first | decide | omega) (by decide)
      have q541 : h136 78 5 = h121 78 5 := by rw [← e138]; exact x_up_i (by first | decide | omega)
      have q542 : h121 78 5 = h71 78 5 := jK 0 f123 rg_78_5_0_1 (by first | decide | omega) (by first | decide | omega) (by decide)
      have q543 : h71 78 5 = h35 78 5 := jK 0 f73 rg_78_5_0_1 (by first | decide | omega) (by first | decide | omega) (by decide)
      have q544 : h35 78 5 = h19 78 5 := by rw [← e37]; exact x_up_i (by first | decide | omega)
      have q545 : h19 78 5 = h 78 5 := jK 0 f21 rg_78_5_0_1 (by first | decide | omega) (by first | decide | omega) (by decide)
      have q546 : h35 75 7 = h19 75 7 := by rw [← e37]; exact x_up_k (by decide)
      obtain ⟨w547, e548⟩ := Tw.yes c77 (by first | decide | omega)
      have q549 : h136 75 7 = h121 75 7 := by rw [← e138]; exact x_up_k (by decide)
      obtain ⟨w550, e551⟩ := Tw.yes c202 (by first | decide | omega)
      have q552 : h278 75 7 = h263 75 7 := by rw [← e280]; exact x_up_k (by decide)
      obtain ⟨w553, e554⟩ := Tw.yes c368 (by first | decide | omega)
      have q555 : h35 75 7 = h19 75 7 := by rw [← e37]; exact x_up_k (by decide)
      obtain ⟨w556, e557⟩ := Tw.yes c77 (by first | decide | omega)
      have q558 : h136 75 7 = h121 75 7 := by rw [← e138]; exact x_up_k (by decide)
      obtain ⟨w559, e560⟩ := Tw.yes c202 (by first | decide | omega)
      have q561 : h278 75 7 = h263 75 7 := by rw [← e280]; exact x_up_k (by decide)
      obtain ⟨w562, e563⟩ := Tw.yes c368 (by first | decide | omega)
      have q564 : h468 75 9 = h453 75 9 := by rw [← e470]; exact x_up_k (by decide)
      have b565 := jB (e := 9) 0 j454 rg_75_9_0_1 (by first | decide | omega) (by first | decide | omega)
      refine x_retI (np := 101) (x := 0) (by decide +kernel) (by decide) (Or.inr ⟨by decide +kernel, by first | decide | omega, by first | decide | omega⟩) ⟨_, rfl, (by decide), ?_⟩
      exact ⟨j469, f471, (by first | decide | omega), (fun z => by first | decide | omega), (fun z => by first | decide | omega), (fun z => by first | decide | omega), (fun z => by first | decide | omega), (fun z => by first | decide | omega), (fun z => by first | decide | omega), (fun z => absurd z (by first | decide | omega)), (Or.inr ⟨by first | decide | omega, (nm9.y c28 (by first | decide | omega) (by first | decide | omega) rfl (by first | decide | omega) rfl (wd9.y w547 (congrArg (sk tB tN) (show h35 75 7 = h19 75 7 by first | decide | omega)) e548 rfl (nm9.y c130 (by first | decide | omega) (by first | decide | omega) rfl (by first | decide | omega) rfl (wd9.y w550 (congrArg (sk tB tN) (show h136 75 7 = h121 75 7 by first | decide | omega)) e551 rfl (nm9.y c272 (by first | decide | omega) (by first | decide | omega) rfl (by first | decide | omega) rfl (wd9.y w553 (congrArg (sk tB tN) (show h278 75 7 = h263 75 7 by first | decide | omega)) e554 rfl (nm9.f c462 (by first | decide | omega) (by first | decide | omega) rfl (by first | decide | omega) (by first | decide | omega))))))))⟩), (fun _ => Or.inr ⟨by first | decide | omega, (mF.y c28 (by first | decide | omega) (by first | decide | omega) rfl (by first | decide | omega) rfl (wF.y w556 (congrArg (sk tB tN) (show h35 75 7 = h19 75 7 by first | decide | omega)) e557 rfl (mF.y c130 (by first | decide | omega) (by first | decide | omega) rfl (by first | decide | omega) rfl (wF.y w559 (congrArg (sk tB tN) (show h136 75 7 = h121 75 7 by first | decide | omega)) e560 rfl (mF.y c272 (by first | decide | omega) (by first | decide | omega) rfl (by first | decide | omega) rfl (wF.y w562 (congrArg (sk tB tN) (show h278 75 7 = h263 75 7 by first | decide | omega)) e563 rfl (mF.no c462 (by first | decide | omega) (by first | decide | omega) rfl (by first | decide | omega) (Eq.trans (show h468 75 9 = h453 75 9 by first | decide | omega) c463))))))))⟩)⟩
    have q473 : ¬ (v449 < 2147483648) := q473
    have b566 := c458 (by first | decide | omega)
    have b567 := c459 (by first | decide | omega)
    have b568 := c460 (by first | decide | omega)
    refine x_const (np := 12) (x := 9223372043297226753) (a := 2147483649) (by decide +kernel) (by decide) (by decide) ?_
    refine x_goto (np := 15) (x := 16) (by decide +kernel) ?_
    refine x_retI (np := 17) (x := 0) (by decide +kernel) (by decide) (Or.inr ⟨by decide +kernel, by first | decide | omega, by first | decide | omega⟩) ⟨_, rfl, (by decide), ?_⟩
    refine x_ifz (k := 1) (tg := 101) (np := 99) (by decide +kernel) (by decide) (by decide) (fun q569 => ?_) (fun q570 => ?_)
    · have q569 : 2147483649 ≠ 2147483648 := q569
      refine x_aload (np := 102) (x := 0) (by decide +kernel) rfl (x_nc_le (by decide)) ?_
      have q571 : h468 75 3 = 78 := by have z := jB (e := 3) 0 j469 rg_75_3_0_1 (by decide) (by decide); omega
      refine x_getR (np := 105) (x := 707) (f := 3) (q := 78) (by decide +kernel) (by decide) (by decide +kernel) q571 ?_
      refine x_iload (np := 106) (x := 1) (by decide +kernel) rfl (by first | decide | omega) ?_
      refine x_const (np := 107) (x := 9223372056182128644) (a := 2147483652) (by decide +kernel) (by decide) (by decide) ?_
      refine x_iadd (np := 108) (x := 0) (v := (2147483672 + 7 * u8)) (by decide +kernel) (by first | decide | omega) (by decide) (by first | decide | omega) (by first | decide | omega) ?_
      refine x_aload (np := 109) (x := 0) (by decide +kernel) rfl (x_nc_le (by decide)) ?_
      refine x_ldcB (i := 4) (idx := 153) (tx := "on") (by rw [tb_y179]; exact List.mem_of_getElem? (i := 39) rfl) (by decide) (by rw [tb_b179]; decide +kernel) ?_
      have m576 := Tq.fr m452 f455 (by decide) (by decide)
      have m575 : Tq tB tN h468 := by rw [← e470]; exact Tq.oth m576 (by decide) (fun z => absurd z.1 (by decide))
      refine x_cI (t := 6) (mj := 171) (n := 2) (rc := 12) (ml := 2) (nr := 2) (np := 114) (as := [x_r 75, x_b (4 + 1)]) (rest := [iv_c (2147483672 + 7 * u8), x_r 78]) (lo1 := [x_r 75, x_b (4 + 1)]) (by decide +kernel) (by decide) (by decide +kernel) (x_rb_of (by decide +kernel)) rfl rfl (x_wr (by decide) (x_wB (by decide) x_wn)) (x_wi (by first | decide | omega) (x_wr (by decide) x_wn)) (by decide) rfl (c171_75_S0 j469  (by decide) m575) (fun v572 h577 l573 q574 => ?_)
      obtain ⟨j578, f579, b580, c581, c582, c583, c584⟩ := q574
      have f585 := Fr.trans f471 f579 (by decide)
      have q586 : h468 75 7 = h453 75 7 := by rw [← e470]; exact x_up_k (by decide)
      have b587 := jB (e := 7) 0 j578 rg_75_7_0_1 (by first | decide | omega) (by first | decide | omega)
      have q588 : h468 75 7 = h453 75 7 := by rw [← e470]; exact x_up_k (by decide)
      refine x_ifz (k := 0) (tg := 121) (np := 117) (by decide +kernel) (by decide) l573 (fun q589 => ?_) (fun q590 => ?_)
      · have q589 : v572 = 2147483648 := q589
        refine x_const (np := 122) (x := 9223372039002259456) (a := 2147483648) (by decide +kernel) (by decide) (by decide) ?_
        refine x_ast (np := 123) (x := 0) (kd := 1) (n := 290) (i := (24 + 7 * u8)) (by decide +kernel) (Or.inl rfl) (by decide +kernel) (by first | decide | omega) (by first | decide | omega) (by decide) (by decide) (fun z => absurd z (by decide)) ?_
        have j592 := jU (e := (24 + 7 * u8)) (v := 2147483648) u8 j578 rg_78_24_7_20 (by first | decide | omega) (by first | decide | omega) (by first | decide | omega)
        have f594 := jF (e := (24 + 7 * u8)) (v := 2147483648) u8 f585 rg_78_24_7_20 (by first | decide | omega) (by first | decide | omega) (by decide)
        generalize e593 : x_up h577 78 (24 + 7 * u8) 2147483648 = h591 at j592 f594 ⊢
        refine x_aload (np := 124) (x := 0) (by decide +kernel) rfl (x_nc_le (by decide)) ?_
        have q595 : h591 75 3 = 78 := by have z := jB (e := 3) 0 j592 rg_75_3_0_1 (by decide) (by decide); omega
        refine x_getR (np := 127) (x := 707) (f := 3) (q := 78) (by decide +kernel) (by decide) (by decide +kernel) q595 ?_
        refine x_iload (np := 128) (x := 1) (by decide +kernel) rfl (by first | decide | omega) ?_
        refine x_const (np := 129) (x := 9223372060477095941) (a := 2147483653) (by decide +kernel) (by decide) (by decide) ?_
        refine x_iadd (np := 130) (x := 0) (v := (2147483673 + 7 * u8)) (by decide +kernel) (by first | decide | omega) (by decide) (by first | decide | omega) (by first | decide | omega) ?_
        refine x_const (np := 131) (x := 9223372039002259456) (a := 2147483648) (by decide +kernel) (by decide) (by decide) ?_
        refine x_ast (np := 132) (x := 0) (kd := 1) (n := 290) (i := (25 + 7 * u8)) (by decide +kernel) (Or.inl rfl) (by decide +kernel) (by first | decide | omega) (by first | decide | omega) (by decide) (by decide) (fun z => absurd z (by decide)) ?_
        have j597 := jU (e := (25 + 7 * u8)) (v := 2147483648) u8 j592 rg_78_25_7_20 (by first | decide | omega) (by first | decide | omega) (by first | decide | omega)
        have f599 := jF (e := (25 + 7 * u8)) (v := 2147483648) u8 f594 rg_78_25_7_20 (by first | decide | omega) (by first | decide | omega) (by decide)
        generalize e598 : x_up h591 78 (25 + 7 * u8) 2147483648 = h596 at j597 f599 ⊢
        refine x_aload (np := 133) (x := 0) (by decide +kernel) rfl (x_nc_le (by decide)) ?_
        have q600 : h596 75 3 = 78 := by have z := jB (e := 3) 0 j597 rg_75_3_0_1 (by decide) (by decide); omega
        refine x_getR (np := 136) (x := 707) (f := 3) (q := 78) (by decide +kernel) (by decide) (by decide +kernel) q600 ?_
        refine x_iload (np := 137) (x := 1) (by decide +kernel) rfl (by first | decide | omega) ?_
        refine x_const (np := 139) (x := 9223372064772063238) (a := 2147483654) (by decide +kernel) (by decide) (by decide) ?_
        refine x_iadd (np := 140) (x := 0) (v := (2147483674 + 7 * u8)) (by decide +kernel) (by first | decide | omega) (by decide) (by first | decide | omega) (by first | decide | omega) ?_
        refine x_const (np := 141) (x := 9223372039002259456) (a := 2147483648) (by decide +kernel) (by decide) (by decide) ?_
        refine x_ast (np := 142) (x := 0) (kd := 1) (n := 290) (i := (26 + 7 * u8)) (by decide +kernel) (Or.inl rfl) (by decide +kernel) (by first | decide | omega) (by first | decide | omega) (by decide) (by decide) (fun z => absurd z (by decide)) ?_
        have j602 := jU (e := (26 + 7 * u8)) (v := 2147483648) u8 j597 rg_78_26_7_20 (by first | decide | omega) (by first | decide | omega) (by first | decide | omega)
        have f604 := jF (e := (26 + 7 * u8)) (v := 2147483648) u8 f599 rg_78_26_7_20 (by first | decide | omega) (by first | decide | omega) (by decide)
        generalize e603 : x_up h596 78 (26 + 7 * u8) 2147483648 = h601 at j602 f604 ⊢
        refine x_aload (np := 143) (x := 0) (by decide +kernel) rfl (x_nc_le (by decide)) ?_
        refine x_ldcB (i := 5) (idx := 158) (tx := "pledge") (by rw [tb_y179]; exact List.mem_of_getElem? (i := 40) rfl) (by decide) (by rw [tb_b179]; decide +kernel) ?_
        have m611 := Tq.fr m575 f579 (by decide) (by decide)
        have m610 : Tq tB tN h591 := by rw [← e593]; exact Tq.oth m611 (by decide) (fun z => absurd z.1 (by decide))
        have m609 : Tq tB tN h596 := by rw [← e598]; exact Tq.oth m610 (by decide) (fun z => absurd z.1 (by decide))
        have m608 : Tq tB tN h601 := by rw [← e603]; exact Tq.oth m609 (by decide) (fun z => absurd z.1 (by decide))
        refine x_cI (t := 6) (mj := 171) (n := 2) (rc := 12) (ml := 2) (nr := 0) (np := 148) (as := [x_r 75, x_b (5 + 1)]) (rest := []) (lo1 := [x_r 75, x_b (5 + 1)]) (by decide +kernel) (by decide) (by decide +kernel) (x_rb_of (by decide +kernel)) rfl rfl (x_wr (by decide) (x_wB (by decide) x_wn)) x_wn (by decide) rfl (c171_75_S0 j602  (by decide) m608) (fun v605 h612 l606 q607 => ?_)
        obtain ⟨j613, f614, b615, c616, c617, c618, c619⟩ := q607
        have f620 := Fr.trans f604 f614 (by decide)
        have q621 : h601 75 7 = h596 75 7 := by rw [← e603]; exact x_up_k (by decide)
        have q622 : h596 75 7 = h591 75 7 := by rw [← e598]; exact x_up_k (by decide)
        have q623 : h591 75 7 = h577 75 7 := by rw [← e593]; exact x_up_k (by decide)
        have b624 := jB (e := 7) 0 j613 rg_75_7_0_1 (by first | decide | omega) (by first | decide | omega)
        have q625 : h601 75 7 = h596 75 7 := by rw [← e603]; exact x_up_k (by decide)
        have q626 : h596 75 7 = h591 75 7 := by rw [← e598]; exact x_up_k (by decide)
        have q627 : h591 75 7 = h577 75 7 := by rw [← e593]; exact x_up_k (by decide)
        refine x_ifz (k := 0) (tg := 171) (np := 151) (by decide +kernel) (by decide) l606 (fun q628 => ?_) (fun q629 => ?_)
        · have q628 : v605 = 2147483648 := q628
          refine x_aload (np := 172) (x := 0) (by decide +kernel) rfl (x_nc_le (by decide)) ?_
          have q630 : h612 75 3 = 78 := by have z := jB (e := 3) 0 j613 rg_75_3_0_1 (by decide) (by decide); omega
          refine x_getR (np := 175) (x := 707) (f := 3) (q := 78) (by decide +kernel) (by decide) (by decide +kernel) q630 ?_
          refine x_const (np := 176) (x := 9223372047592194050) (a := 2147483650) (by decide +kernel) (by decide) (by decide) ?_
          refine x_dup2 (np := 177) (x := 0) (by decide +kernel) (by have z := (iw_c_lt (a := 2147483650) (by decide)).1; omega) (by have z := x_nc_le (k := 78) (by decide); unfold x_r; omega) ?_
          have q631 : h612 78 2 = h601 78 2 := jK 0 f614 rg_78_2_0_1 (by first | decide | omega) (by first | decide | omega) (by decide)
          have q632 : h601 78 2 = h596 78 2 := by rw [← e603]; exact x_up_i (by first | decide | omega)
          have q633 : h596 78 2 = h591 78 2 := by rw [← e598]; exact x_up_i (by first | decide | omega)
          have q634 : h591 78 2 = h577 78 2 := by rw [← e593]; exact x_up_i (by first | decide | omega)
          have q635 : h577 78 2 = h468 78 2 := jK 0 f579 rg_78_2_0_1 (by first | decide | omega) (by first | decide | omega) (by decide)
          have q636 : h468 78 2 = h453 78 2 := by rw [← e470]; exact x_up_i (by first | decide | omega)
          have q637 : h453 78 2 = h362 78 2 := jK 0 f455 rg_78_2_0_1 (by first | decide | omega) (by first | decide | omega) (by decide)
          have q638 : h362 78 2 = h278 78 2 := jK 0 f364 rg_78_2_0_1 (by first | decide | omega) (by first | decide | omega) (by decide)
          have q639 : h278 78 2 = h263 78 2 := by rw [← e280]; exact x_up_i (by first | decide | omega)
          have q640 : h263 78 2 = h196 78 2 := jK 0 f265 rg_78_2_0_1 (by first | decide | omega) (by first | decide | omega) (by decide)
          have q641 : h196 78 2 = h136 78 2 := jK 0 f198 rg_78_2_0_1 (by first | decide | omega) (by first | decide | omega) (by decide)
          have q642 : h136 78 2 = h121 78 2 := by rw [← e138]; exact x_up_i (by first | decide | omega)
          have q643 : h121 78 2 = h71 78 2 := jK 0 f123 rg_78_2_0_1 (by first | decide | omega) (by first | decide | omega) (by decide)
          have q644 : h71 78 2 = h35 78 2 := jK 0 f73 rg_78_2_0_1 (by first | decide | omega) (by first | decide | omega) (by decide)
          have q645 : h35 78 2 = h19 78 2 := by rw [← e37]; exact x_up_i (by first | decide | omega)
          have q646 : h19 78 2 = h 78 2 := jK 0 f21 rg_78_2_0_1 (by first | decide | omega) (by first | decide | omega) (by decide)
          refine x_aldC (np := 178) (x := 0) (n := 290) (i := 2) (q := (h 78 2)) (by decide +kernel) (by decide +kernel) (by first | decide | omega) (by first | decide | omega) (by decide) (((((((((((((((q631.trans q632).trans q633).trans q634).trans q635).trans q636).trans q637).trans q638).trans q639).trans q640).trans q641).trans q642).trans q643).trans q644).trans q645).trans q646) (fun l647 => ?_)
          refine x_const (np := 179) (x := 9223372043297226753) (a := 2147483649) (by decide +kernel) (by decide) (by decide) ?_
          refine x_iadd (np := 180) (x := 0) (v := (1 + (h 78 2))) (by decide +kernel) l3 (by decide) (by first | decide | omega) (by first | decide | omega) ?_
          refine x_ast (np := 181) (x := 0) (kd := 1) (n := 290) (i := 2) (by decide +kernel) (Or.inl rfl) (by decide +kernel) (by first | decide | omega) (by first | decide | omega) (by decide) (by first | decide | omega) (fun z => absurd z (by decide)) ?_
          have j649 := jU (e := 2) (v := (1 + (h 78 2))) 0 j613 rg_78_2_0_1 (by first | decide | omega) (by first | decide | omega) (by first | decide | omega)
          have f651 := jF (e := 2) (v := (1 + (h 78 2))) 0 f620 rg_78_2_0_1 (by first | decide | omega) (by first | decide | omega) (by decide)
          generalize e650 : x_up h612 78 2 (1 + (h 78 2)) = h648 at j649 f651 ⊢
          refine x_const (np := 182) (x := 9223372043297226753) (a := 2147483649) (by decide +kernel) (by decide) (by decide) ?_
          have b652 := jB (e := 0) 0 hJ rg_78_0_0_1 (by first | decide | omega) (by first | decide | omega)
          have q653 : h648 78 0 = h612 78 0 := by rw [← e650]; exact x_up_i (by first | decide | omega)
          have q654 : h612 78 0 = h601 78 0 := jK 0 f614 rg_78_0_0_1 (by first | decide | omega) (by first | decide | omega) (by decide)
          have q655 : h601 78 0 = h596 78 0 := by rw [← e603]; exact x_up_i (by first | decide | omega)
          have q656 : h596 78 0 = h591 78 0 := by rw [← e598]; exact x_up_i (by first | decide | omega)
          have q657 : h591 78 0 = h577 78 0 := by rw [← e593]; exact x_up_i (by first | decide | omega)
          have q658 : h577 78 0 = h468 78 0 := jK 0 f579 rg_78_0_0_1 (by first | decide | omega) (by first | decide | omega) (by decide)
          have q659 : h468 78 0 = h453 78 0 := by rw [← e470]; exact x_up_i (by first | decide | omega)
          have q660 : h453 78 0 = h362 78 0 := jK 0 f455 rg_78_0_0_1 (by first | decide | omega) (by first | decide | omega) (by decide)
          have q661 : h362 78 0 = h278 78 0 := jK 0 f364 rg_78_0_0_1 (by first | decide | omega) (by first | decide | omega) (by decide)
          have q662 : h278 78 0 = h263 78 0 := by rw [← e280]; exact x_up_i (by first | decide | omega)
          have q663 : h263 78 0 = h196 78 0 := jK 0 f265 rg_78_0_0_1 (by first | decide | omega) (by first | decide | omega) (by decide)
          have q664 : h196 78 0 = h136 78 0 := jK 0 f198 rg_78_0_0_1 (by first | decide | omega) (by first | decide | omega) (by decide)
          have q665 : h136 78 0 = h121 78 0 := by rw [← e138]; exact x_up_i (by first | decide | omega)
          have q666 : h121 78 0 = h71 78 0 := jK 0 f123 rg_78_0_0_1 (by first | decide | omega) (by first | decide | omega) (by decide)
          have q667 : h71 78 0 = h35 78 0 := jK 0 f73 rg_78_0_0_1 (by first | decide | omega) (by first | decide | omega) (by decide)
          have q668 : h35 78 0 = h19 78 0 := by rw [← e37]; exact x_up_i (by first | decide | omega)
          have q669 : h19 78 0 = h 78 0 := jK 0 f21 rg_78_0_0_1 (by first | decide | omega) (by first | decide | omega) (by decide)
          have q670 : h648 78 1 = h612 78 1 := by rw [← e650]; exact x_up_i (by first | decide | omega)
          have q671 : h612 78 1 = h601 78 1 := jK 0 f614 rg_78_1_0_1 (by first | decide | omega) (by first | decide | omega) (by decide)
          have q672 : h601 78 1 = h596 78 1 := by rw [← e603]; exact x_up_i (by first | decide | omega)
          have q673 : h596 78 1 = h591 78 1 := by rw [← e598]; exact x_up_i (by first | decide | omega)
          have q674 : h591 78 1 = h577 78 1 := by rw [← e593]; exact x_up_i (by first | decide | omega)
          have q675 : h577 78 1 = h468 78 1 := jK 0 f579 rg_78_1_0_1 (by first | decide | omega) (by first | decide | omega) (by decide)
          have q676 : h468 78 1 = h453 78 1 := by rw [← e470]; exact x_up_i (by first | decide | omega)
          have q677 : h453 78 1 = h362 78 1 := jK 0 f455 rg_78_1_0_1 (by first | decide | omega) (by first | decide | omega) (by decide)
          have q678 : h362 78 1 = h278 78 1 := jK 0 f364 rg_78_1_0_1 (by first | decide | omega) (by first | decide | omega) (by decide)
          have q679 : h278 78 1 = h263 78 1 := by rw [← e280]; exact x_up_i (by first | decide | omega)
          have q680 : h263 78 1 = h196 78 1 := jK 0 f265 rg_78_1_0_1 (by first | decide | omega) (by first | decide | omega) (by decide)
          have q681 : h196 78 1 = h136 78 1 := jK 0 f198 rg_78_1_0_1 (by first | decide | omega) (by first | decide | omega) (by decide)
          have q682 : h136 78 1 = h121 78 1 := by rw [← e138]; exact x_up_i (by first | decide | omega)
          have q683 : h121 78 1 = h71 78 1 := jK 0 f123 rg_78_1_0_1 (by first | decide | omega) (by first | decide | omega) (by decide)
          have q684 : h71 78 1 = h35 78 1 := jK 0 f73 rg_78_1_0_1 (by first | decide | omega) (by first | decide | omega) (by decide)
          have q685 : h35 78 1 = h19 78 1 := by rw [← e37]; exact x_up_i (by first | decide | omega)
          have q686 : h19 78 1 = h 78 1 := jK 0 f21 rg_78_1_0_1 (by first | decide | omega) (by first | decide | omega) (by decide)
          have q687 : h648 78 2 = (1 + (h 78 2)) := by rw [← e650]; exact x_up_at
          have b688 := jB (e := 3) 0 hJ rg_78_3_0_1 (by first | decide | omega) (by first | decide | omega)
          have q689 : h648 78 3 = h612 78 3 := by rw [← e650]; exact x_up_i (by first | decide | omega)
          have q690 : h612 78 3 = h601 78 3 := jK 0 f614 rg_78_3_0_1 (by first | decide | omega) (by first | decide | omega) (by decide)
          have q691 : h601 78 3 = h596 78 3 := by rw [← e603]; exact x_up_i (by first | decide | omega)
          have q692 : h596 78 3 = h591 78 3 := by rw [← e598]; exact x_up_i (by first | decide | omega)
          have q693 : h591 78 3 = h577 78 3 := by rw [← e593]; exact x_up_i (by first | decide | omega)
          have q694 : h577 78 3 = h468 78 3 := jK 0 f579 rg_78_3_0_1 (by first | decide | omega) (by first | decide | omega) (by decide)
          have q695 : h468 78 3 = h453 78 3 := by rw [← e470]; exact x_up_i (by first | decide | omega)
          have q696 : h453 78 3 = h362 78 3 := jK 0 f455 rg_78_3_0_1 (by first | decide | omega) (by first | decide | omega) (by decide)
          have q697 : h362 78 3 = h278 78 3 := jK 0 f364 rg_78_3_0_1 (by first | decide | omega) (by first | decide | omega) (by decide)
          have q698 : h278 78 3 = h263 78 3 := by rw [← e280]; exact x_up_i (by first | decide | omega)
          have q699 : h263 78 3 = h196 78 3 := jK 0 f265 rg_78_3_0_1 (by first | decide | omega) (by first | decide | omega) (by decide)
          have q700 : h196 78 3 = h136 78 3 := jK 0 f198 rg_78_3_0_1 (by first | decide | omega) (by first | decide | omega) (by decide)
          have q701 : h136 78 3 = h121 78 3 := by rw [← e138]; exact x_up_i (by first | decide | omega)
          have q702 : h121 78 3 = h71 78 3 := jK 0 f123 rg_78_3_0_1 (by first | decide | omega) (by first | decide | omega) (by decide)
          have q703 : h71 78 3 = h35 78 3 := jK 0 f73 rg_78_3_0_1 (by first | decide | omega) (by first | decide | omega) (by decide)
          have q704 : h35 78 3 = h19 78 3 := by rw [← e37]; exact x_up_i (by first | decide | omega)
          have q705 : h19 78 3 = h 78 3 := jK 0 f21 rg_78_3_0_1 (by first | decide | omega) (by first | decide | omega) (by decide)
          have b706 := jB (e := 4) 0 hJ rg_78_4_0_1 (by first | decide | omega) (by first | decide | omega)
          have q707 : h648 78 4 = h612 78 4 := by rw [← e650]; exact x_up_i (by first | decide | omega)
          have q708 : h612 78 4 = h601 78 4 := jK 0 f614 rg_78_4_0_1 (by first | decide | omega) (by first | decide | omega) (by decide)
          have q709 : h601 78 4 = h596 78 4 := by rw [← e603]; exact x_up_i (by first | decide | omega)
          have q710 : h596 78 4 = h591 78 4 := by rw [← e598]; exact x_up_i (by first | decide | omega)
          have q711 : h591 78 4 = h577 78 4 := by rw [← e593]; exact x_up_i (by first | decide | omega)
          have q712 : h577 78 4 = h468 78 4 := jK 0 f579 rg_78_4_0_1 (by first | decide | omega) (by first | decide | omega) (by decide)
          have q713 : h468 78 4 = h453 78 4 := by rw [← e470]; exact x_up_i (by first | decide | omega)
          have q714 : h453 78 4 = h362 78 4 := jK 0 f455 rg_78_4_0_1 (by first | decide | omega) (by first | decide | omega) (by decide)
          have q715 : h362 78 4 = h278 78 4 := jK 0 f364 rg_78_4_0_1 (by first | decide | omega) (by first | decide | omega) (by decide)
          have q716 : h278 78 4 = h263 78 4 := by rw [← e280]; exact x_up_i (by first | decide | omega)
          have q717 : h263 78 4 = h196 78 4 := jK 0 f265 rg_78_4_0_1 (by first | decide | omega) (by first | decide | omega) (by decide)
          have q718 : h196 78 4 = h136 78 4 := jK 0 f198 rg_78_4_0_1 (by first | decide | omega) (by first | decide | omega) (by decide)
          have q719 : h136 78 4 = h121 78 4 := by rw [← e138]; exact x_up_i (by first | decide | omega)
          have q720 : h121 78 4 = h71 78 4 := jK 0 f123 rg_78_4_0_1 (by first | decide | omega) (by first | decide | omega) (by decide)
          have q721 : h71 78 4 = h35 78 4 := jK 0 f73 rg_78_4_0_1 (by first | decide | omega) (by first | decide | omega) (by decide)
          have q722 : h35 78 4 = h19 78 4 := by rw [← e37]; exact x_up_i (by first | decide | omega)
          have q723 : h19 78 4 = h 78 4 := jK 0 f21 rg_78_4_0_1 (by first | decide | omega) (by first | decide | omega) (by decide)
          have b724 := jB (e := 5) 0 hJ rg_78_5_0_1 (by first | decide | omega) (by first | decide | omega)
          have q725 : h648 78 5 = h612 78 5 := by rw [← e650]; exact x_up_i (by first | decide | omega)
          have q726 : h612 78 5 = h601 78 5 := jK 0 f614 rg_78_5_0_1 (by first | decide | omega) (by first | decide | omega) (by decide)
          have q727 : h601 78 5 = h596 78 5 := by rw [← e603]; exact x_up_i (by first | decide | omega)
          have q728 : h596 78 5 = h591 78 5 := by rw [← e598]; exact x_up_i (by first | decide | omega)
          have q729 : h591 78 5 = h577 78 5 := by rw [← e593]; exact x_up_i (by first | decide | omega)
          have q730 : h577 78 5 = h468 78 5 := jK 0 f579 rg_78_5_0_1 (by first | decide | omega) (by first | decide | omega) (by decide)
          have q731 : h468 78 5 = h453 78 5 := by rw [← e470]; exact x_up_i (by first | decide | omega)
          have q732 : h453 78 5 = h362 78 5 := jK 0 f455 rg_78_5_0_1 (by first | decide | omega) (by first | decide | omega) (by decide)
          have q733 : h362 78 5 = h278 78 5 := jK 0 f364 rg_78_5_0_1 (by first | decide | omega) (by first | decide | omega) (by decide)
          have q734 : h278 78 5 = h263 78 5 := by rw [← e280]; exact x_up_i (by first | decide | omega)
          have q735 : h263 78 5 = h196 78 5 := jK 0 f265 rg_78_5_0_1 (by first | decide | omega) (by first | decide | omega) (by decide)
          have q736 : h196 78 5 = h136 78 5 := jK 0 f198 rg_78_5_0_1 (by first | decide | omega) (by first | decide | omega) (by decide)
          have q737 : h136 78 5 = h121 78 5 := by rw [← e138]; exact x_up_i (by first | decide | omega)
          have q738 : h121 78 5 = h71 78 5 := jK 0 f123 rg_78_5_0_1 (by first | decide | omega) (by first | decide | omega) (by decide)
          have q739 : h71 78 5 = h35 78 5 := jK 0 f73 rg_78_5_0_1 (by first | decide | omega) (by first | decide | omega) (by decide)
          have q740 : h35 78 5 = h19 78 5 := by rw [← e37]; exact x_up_i (by first | decide | omega)
          have q741 : h19 78 5 = h 78 5 := jK 0 f21 rg_78_5_0_1 (by first | decide | omega) (by first | decide | omega) (by decide)
          have m758 := Cl.fr hC f21 (by decide)
          have m757 : Cl h35 := by rw [← e37]; exact Cl.upR (e := (20 + 7 * u8)) (v := v16) u8 m758 rg_76_20_7_20 (by first | decide | omega) (by first | decide | omega) (by first | decide | omega)
          have m756 := Cl.fr m757 f73 (by decide)
          have m755 := Cl.fr m756 f123 (by decide)
          have m754 : Cl h136 := by rw [← e138]; exact Cl.upR (e := (21 + 7 * u8)) (v := v117) u8 m755 rg_76_21_7_20 (by first | decide | omega) (by first | decide | omega) (by first | decide | omega)
          have m753 := Cl.fr m754 f198 (by decide)
          have m752 := Cl.fr m753 f265 (by decide)
          have m751 : Cl h278 := by rw [← e280]; exact Cl.upR (e := (22 + 7 * u8)) (v := v259) u8 m752 rg_76_22_7_20 (by first | decide | omega) (by first | decide | omega) (by first | decide | omega)
          have m750 := Cl.fr m751 f364 (by decide)
          have m749 := Cl.fr m750 f455 (by decide)
          have m748 : Cl h468 := by rw [← e470]; exact Cl.upR (e := (23 + 7 * u8)) (v := v449) u8 m749 rg_76_23_7_20 (by first | decide | omega) (by first | decide | omega) (by first | decide | omega)
          have m747 := Cl.fr m748 f579 (by decide)
          have m746 : Cl h591 := by rw [← e593]; exact Cl.upR (e := (24 + 7 * u8)) (v := 2147483648) u8 m747 rg_76_24_7_20 (by first | decide | omega) (by first | decide | omega) (by first | decide | omega)
          have m745 : Cl h596 := by rw [← e598]; exact Cl.upR (e := (25 + 7 * u8)) (v := 2147483648) u8 m746 rg_76_25_7_20 (by first | decide | omega) (by first | decide | omega) (by first | decide | omega)
          have m744 : Cl h601 := by rw [← e603]; exact Cl.upR (e := (26 + 7 * u8)) (v := 2147483648) u8 m745 rg_76_26_7_20 (by first | decide | omega) (by first | decide | omega) (by first | decide | omega)
          have m743 := Cl.fr m744 f614 (by decide)
          have m742 : Cl h648 := by rw [← e650]; exact Cl.upR (e := 2) (v := (1 + (h 78 2))) 0 m743 rg_76_2_0_1 (by first | decide | omega) (by first | decide | omega) (by first | decide | omega)
          have q759 : h35 75 7 = h19 75 7 := by rw [← e37]; exact x_up_k (by decide)
          obtain ⟨w760, e761⟩ := Tw.yes c77 (by first | decide | omega)
          have q762 : h136 75 7 = h121 75 7 := by rw [← e138]; exact x_up_k (by decide)
          obtain ⟨w763, e764⟩ := Tw.yes c202 (by first | decide | omega)
          have q765 : h278 75 7 = h263 75 7 := by rw [← e280]; exact x_up_k (by decide)
          obtain ⟨w766, e767⟩ := Tw.yes c368 (by first | decide | omega)
          have q768 : h468 75 7 = h453 75 7 := by rw [← e470]; exact x_up_k (by decide)
          obtain ⟨w769, e770⟩ := Tk.no c583 (by first | decide | omega)
          have q771 : h601 75 7 = h596 75 7 := by rw [← e603]; exact x_up_k (by decide)
          have q772 : h596 75 7 = h591 75 7 := by rw [← e598]; exact x_up_k (by decide)
          have q773 : h591 75 7 = h577 75 7 := by rw [← e593]; exact x_up_k (by decide)
          obtain ⟨w774, e775⟩ := Tk.no c618 (by first | decide | omega)
          have q776 : h648 75 7 = h612 75 7 := by rw [← e650]; exact x_up_k (by decide)
          refine x_retI (np := 183) (x := 0) (by decide +kernel) (by decide) (Or.inr ⟨by decide +kernel, by first | decide | omega, by first | decide | omega⟩) ⟨_, rfl, (by decide), ?_⟩
          exact ⟨j649, f651, (by first | decide | omega), (fun z => by first | decide | omega), (fun z => by first | decide | omega), (fun z => by first | decide | omega), (fun z => by first | decide | omega), (fun z => by first | decide | omega), (fun z => by first | decide | omega), (fun _ => m742), (Or.inr ⟨by first | decide | omega, (nm9.y c28 (by first | decide | omega) (by first | decide | omega) rfl (by first | decide | omega) rfl (wd9.y w760 (congrArg (sk tB tN) (show h35 75 7 = h19 75 7 by first | decide | omega)) e761 rfl (nm9.y c130 (by first | decide | omega) (by first | decide | omega) rfl (by first | decide | omega) rfl (wd9.y w763 (congrArg (sk tB tN) (show h136 75 7 = h121 75 7 by first | decide | omega)) e764 rfl (nm9.y c272 (by first | decide | omega) (by first | decide | omega) rfl (by first | decide | omega) rfl (wd9.y w766 (congrArg (sk tB tN) (show h278 75 7 = h263 75 7 by first | decide | omega)) e767 rfl (nm9.y c462 (by first | decide | omega) (by first | decide | omega) rfl (by first | decide | omega) rfl (or9.f w769 (congrArg (sk tB tN) (show h468 75 7 = h453 75 7 by first | decide | omega)) (Eq.trans e770 (congrArg (sk tB tN) (show h468 75 7 = h453 75 7 by first | decide | omega))) (or9.f w774 (congrArg (sk tB tN) (show h601 75 7 = h577 75 7 by first | decide | omega)) (Eq.trans e775 (congrArg (sk tB tN) (show h601 75 7 = h577 75 7 by first | decide | omega))) (fin9.mk (by first | decide | omega) (congrArg (sk tB tN) (show h612 75 7 = h648 75 7 by first | decide | omega))))))))))))⟩), (fun z => absurd z (by first | decide | omega))⟩
        have q629 : ¬ (v605 = 2147483648) := q629
        have b777 := c617 (by first | decide | omega)
        refine x_aload (np := 152) (x := 0) (by decide +kernel) rfl (x_nc_le (by decide)) ?_
        refine x_iload (np := 153) (x := 1) (by decide +kernel) rfl (by first | decide | omega) ?_
        refine x_const (np := 154) (x := 9223372060477095941) (a := 2147483653) (by decide +kernel) (by decide) (by decide) ?_
        refine x_iadd (np := 155) (x := 0) (v := (2147483673 + 7 * u8)) (by decide +kernel) (by first | decide | omega) (by decide) (by first | decide | omega) (by first | decide | omega) ?_
        refine x_aload (np := 156) (x := 0) (by decide +kernel) rfl (x_nc_le (by decide)) ?_
        refine x_const (np := 157) (x := 9223372039002259456) (a := 2147483648) (by decide +kernel) (by decide) (by decide) ?_
        refine x_const (np := 160) (x := 9223376329674589159) (a := 2147484647) (by decide +kernel) (by decide) (by decide) ?_
        have m781 := Tq.fr m608 f614 (by decide) (by decide)
        refine x_cI (t := 6) (mj := 174) (n := 3) (rc := 12) (ml := 4) (nr := 2) (np := 163) (as := [x_r 75, iv_c 2147483648, iv_c 2147484647]) (rest := [iv_c (2147483673 + 7 * u8), x_r 75]) (lo1 := [x_r 75, iv_c 2147483648, iv_c 2147484647, 147573952589676412928]) (by decide +kernel) (by decide) (by decide +kernel) (x_rb_of (by decide +kernel)) rfl rfl (x_wr (by decide) (x_wi (by decide) (x_wi (by decide) x_wn))) (x_wi (by first | decide | omega) (x_wr (by decide) x_wn)) (by decide) rfl (c174_75 j613  (by first | decide | omega) (by first | decide | omega) m781) (fun v778 h782 l779 q780 => ?_)
        obtain ⟨j783, f784, b785, c786, c787, c788, c789, c790, c791, c792⟩ := q780
        have f793 := Fr.trans f620 f784 (by decide)
        have b794 := jB (e := 7) 0 j783 rg_75_7_0_1 (by first | decide | omega) (by first | decide | omega)
        have b795 := c790 (by first | decide | omega)
        refine x_nI (t := 6) (mj := 176) (n := 3) (rc := 12) (ml := 3) (nr := 0) (np := 166) (as := [x_r 75, iv_c (2147483673 + 7 * u8), iv_c v778]) (rest := []) (lo1 := [x_r 75, iv_c (2147483673 + 7 * u8), iv_c v778]) (by decide +kernel) (by decide) (by decide +kernel) (x_rb_of (by decide +kernel)) rfl rfl (x_wr (by decide) (x_wi (by first | decide | omega) (x_wi l779 x_wn))) x_wn (by decide) rfl ?_
        refine x_aload (np := 1) (x := 0) (by decide +kernel) rfl (x_nc_le (by decide)) ?_
        have q796 : h782 75 3 = 78 := by have z := jB (e := 3) 0 j783 rg_75_3_0_1 (by decide) (by decide); omega
        refine x_getR (np := 4) (x := 707) (f := 3) (q := 78) (by decide +kernel) (by decide) (by decide +kernel) q796 ?_
        refine x_iload (np := 5) (x := 1) (by decide +kernel) rfl (by first | decide | omega) ?_
        refine x_iload (np := 6) (x := 2) (by decide +kernel) rfl l779 ?_
        refine x_ast (np := 7) (x := 0) (kd := 1) (n := 290) (i := (25 + 7 * u8)) (by decide +kernel) (Or.inl rfl) (by decide +kernel) (by first | decide | omega) (by first | decide | omega) (by decide) l779 (fun z => absurd z (by decide)) ?_
        have j798 := jU (e := (25 + 7 * u8)) (v := v778) u8 j783 rg_78_25_7_20 (by first | decide | omega) (by first | decide | omega) (by first | decide | omega)
        have f800 := jF (e := (25 + 7 * u8)) (v := v778) u8 f793 rg_78_25_7_20 (by first | decide | omega) (by first | decide | omega) (by decide)
        generalize e799 : x_up h782 78 (25 + 7 * u8) v778 = h797 at j798 f800 ⊢
        refine x_iload (np := 8) (x := 2) (by decide +kernel) rfl l779 ?_
        refine x_ifz (k := 2) (tg := 15) (np := 11) (by decide +kernel) (by decide) l779 (fun q801 => ?_) (fun q802 => ?_)
        · have q801 : v778 < 2147483648 := q801
          refine x_const (np := 16) (x := 9223372039002259456) (a := 2147483648) (by decide +kernel) (by decide) (by decide) ?_
          refine x_retI (np := 17) (x := 0) (by decide +kernel) (by decide) (Or.inr ⟨by decide +kernel, by first | decide | omega, by first | decide | omega⟩) ⟨_, rfl, (by decide), ?_⟩
          refine x_ifz (k := 1) (tg := 171) (np := 169) (by decide +kernel) (by decide) (by decide) (fun q803 => ?_) (fun q804 => ?_)
          · have q803 : 2147483648 ≠ 2147483648 := q803
            exfalso; omega
          have q804 : ¬ (2147483648 ≠ 2147483648) := q804
          refine x_const (np := 170) (x := 9223372039002259456) (a := 2147483648) (by decide +kernel) (by decide) (by decide) ?_
          have b805 := jB (e := 0) 0 hJ rg_78_0_0_1 (by first | decide | omega) (by first | decide | omega)
          have q806 : h797 78 0 = h782 78 0 := by rw [← e799]; exact x_up_i (by first | decide | omega)
          have q807 : h782 78 0 = h612 78 0 := jK 0 f784 rg_78_0_0_1 (by first | decide | omega) (by first | decide | omega) (by decide)
          have q808 : h612 78 0 = h601 78 0 := jK 0 f614 rg_78_0_0_1 (by first | decide | omega) (by first | decide | omega) (by decide)
          have q809 : h601 78 0 = h596 78 0 := by rw [← e603]; exact x_up_i (by first | decide | omega)
          have q810 : h596 78 0 = h591 78 0 := by rw [← e598]; exact x_up_i (by first | decide | omega)
          have q811 : h591 78 0 = h577 78 0 := by rw [← e593]; exact x_up_i (by first | decide | omega)
          have q812 : h577 78 0 = h468 78 0 := jK 0 f579 rg_78_0_0_1 (by first | decide | omega) (by first | decide | omega) (by decide)
          have q813 : h468 78 0 = h453 78 0 := by rw [← e470]; exact x_up_i (by first | decide | omega)
          have q814 : h453 78 0 = h362 78 0 := jK 0 f455 rg_78_0_0_1 (by first | decide | omega) (by first | decide | omega) (by decide)
          have q815 : h362 78 0 = h278 78 0 := jK 0 f364 rg_78_0_0_1 (by first | decide | omega) (by first | decide | omega) (by decide)
          have q816 : h278 78 0 = h263 78 0 := by rw [← e280]; exact x_up_i (by first | decide | omega)
          have q817 : h263 78 0 = h196 78 0 := jK 0 f265 rg_78_0_0_1 (by first | decide | omega) (by first | decide | omega) (by decide)
          have q818 : h196 78 0 = h136 78 0 := jK 0 f198 rg_78_0_0_1 (by first | decide | omega) (by first | decide | omega) (by decide)
          have q819 : h136 78 0 = h121 78 0 := by rw [← e138]; exact x_up_i (by first | decide | omega)
          have q820 : h121 78 0 = h71 78 0 := jK 0 f123 rg_78_0_0_1 (by first | decide | omega) (by first | decide | omega) (by decide)
          have q821 : h71 78 0 = h35 78 0 := jK 0 f73 rg_78_0_0_1 (by first | decide | omega) (by first | decide | omega) (by decide)
          have q822 : h35 78 0 = h19 78 0 := by rw [← e37]; exact x_up_i (by first | decide | omega)
          have q823 : h19 78 0 = h 78 0 := jK 0 f21 rg_78_0_0_1 (by first | decide | omega) (by first | decide | omega) (by decide)
          have q824 : h797 78 1 = h782 78 1 := by rw [← e799]; exact x_up_i (by first | decide | omega)
          have q825 : h782 78 1 = h612 78 1 := jK 0 f784 rg_78_1_0_1 (by first | decide | omega) (by first | decide | omega) (by decide)
          have q826 : h612 78 1 = h601 78 1 := jK 0 f614 rg_78_1_0_1 (by first | decide | omega) (by first | decide | omega) (by decide)
          have q827 : h601 78 1 = h596 78 1 := by rw [← e603]; exact x_up_i (by first | decide | omega)
          have q828 : h596 78 1 = h591 78 1 := by rw [← e598]; exact x_up_i (by first | decide | omega)
          have q829 : h591 78 1 = h577 78 1 := by rw [← e593]; exact x_up_i (by first | decide | omega)
          have q830 : h577 78 1 = h468 78 1 := jK 0 f579 rg_78_1_0_1 (by first | decide | omega) (by first | decide | omega) (by decide)
          have q831 : h468 78 1 = h453 78 1 := by rw [← e470]; exact x_up_i (by first | decide | omega)
          have q832 : h453 78 1 = h362 78 1 := jK 0 f455 rg_78_1_0_1 (by first | decide | omega) (by first | decide | omega) (by decide)
          have q833 : h362 78 1 = h278 78 1 := jK 0 f364 rg_78_1_0_1 (by first | decide | omega) (by first | decide | omega) (by decide)
          have q834 : h278 78 1 = h263 78 1 := by rw [← e280]; exact x_up_i (by first | decide | omega)
          have q835 : h263 78 1 = h196 78 1 := jK 0 f265 rg_78_1_0_1 (by first | decide | omega) (by first | decide | omega) (by decide)
          have q836 : h196 78 1 = h136 78 1 := jK 0 f198 rg_78_1_0_1 (by first | decide | omega) (by first | decide | omega) (by decide)
          have q837 : h136 78 1 = h121 78 1 := by rw [← e138]; exact x_up_i (by first | decide | omega)
          have q838 : h121 78 1 = h71 78 1 := jK 0 f123 rg_78_1_0_1 (by first | decide | omega) (by first | decide | omega) (by decide)
          have q839 : h71 78 1 = h35 78 1 := jK 0 f73 rg_78_1_0_1 (by first | decide | omega) (by first | decide | omega) (by decide)
          have q840 : h35 78 1 = h19 78 1 := by rw [← e37]; exact x_up_i (by first | decide | omega)
          have q841 : h19 78 1 = h 78 1 := jK 0 f21 rg_78_1_0_1 (by first | decide | omega) (by first | decide | omega) (by decide)
          have q842 : h797 78 2 = h782 78 2 := by rw [← e799]; exact x_up_i (by first | decide | omega)
          have q843 : h782 78 2 = h612 78 2 := jK 0 f784 rg_78_2_0_1 (by first | decide | omega) (by first | decide | omega) (by decide)
          have q844 : h612 78 2 = h601 78 2 := jK 0 f614 rg_78_2_0_1 (by first | decide | omega) (by first | decide | omega) (by decide)
          have q845 : h601 78 2 = h596 78 2 := by rw [← e603]; exact x_up_i (by first | decide | omega)
          have q846 : h596 78 2 = h591 78 2 := by rw [← e598]; exact x_up_i (by first | decide | omega)
          have q847 : h591 78 2 = h577 78 2 := by rw [← e593]; exact x_up_i (by first | decide | omega)
          have q848 : h577 78 2 = h468 78 2 := jK 0 f579 rg_78_2_0_1 (by first | decide | omega) (by first | decide | omega) (by decide)
          have q849 : h468 78 2 = h453 78 2 := by rw [← e470]; exact x_up_i (by first | decide | omega)
          have q850 : h453 78 2 = h362 78 2 := jK 0 f455 rg_78_2_0_1 (by first | decide | omega) (by first | decide | omega) (by decide)
          have q851 : h362 78 2 = h278 78 2 := jK 0 f364 rg_78_2_0_1 (by first | decide | omega) (by first | decide | omega) (by decide)
          have q852 : h278 78 2 = h263 78 2 := by rw [← e280]; exact x_up_i (by first | decide | omega)
          have q853 : h263 78 2 = h196 78 2 := jK 0 f265 rg_78_2_0_1 (by first | decide | omega) (by first | decide | omega) (by decide)
          have q854 : h196 78 2 = h136 78 2 := jK 0 f198 rg_78_2_0_1 (by first | decide | omega) (by first | decide | omega) (by decide)
          have q855 : h136 78 2 = h121 78 2 := by rw [← e138]; exact x_up_i (by first | decide | omega)
          have q856 : h121 78 2 = h71 78 2 := jK 0 f123 rg_78_2_0_1 (by first | decide | omega) (by first | decide | omega) (by decide)
          have q857 : h71 78 2 = h35 78 2 := jK 0 f73 rg_78_2_0_1 (by first | decide | omega) (by first | decide | omega) (by decide)
          have q858 : h35 78 2 = h19 78 2 := by rw [← e37]; exact x_up_i (by first | decide | omega)
          have q859 : h19 78 2 = h 78 2 := jK 0 f21 rg_78_2_0_1 (by first | decide | omega) (by first | decide | omega) (by decide)
          have b860 := jB (e := 3) 0 hJ rg_78_3_0_1 (by first | decide | omega) (by first | decide | omega)
          have q861 : h797 78 3 = h782 78 3 := by rw [← e799]; exact x_up_i (by first | decide | omega)
          have q862 : h782 78 3 = h612 78 3 := jK 0 f784 rg_78_3_0_1 (by first | decide | omega) (by first | decide | omega) (by decide)
          have q863 : h612 78 3 = h601 78 3 := jK 0 f614 rg_78_3_0_1 (by first | decide | omega) (by first | decide | omega) (by decide)
          have q864 : h601 78 3 = h596 78 3 := by rw [← e603]; exact x_up_i (by first | decide | omega)
          have q865 : h596 78 3 = h591 78 3 := by rw [← e598]; exact x_up_i (by first | decide | omega)
          have q866 : h591 78 3 = h577 78 3 := by rw [← e593]; exact x_up_i (by first | decide | omega)
          have q867 : h577 78 3 = h468 78 3 := jK 0 f579 rg_78_3_0_1 (by first | decide | omega) (by first | decide | omega) (by decide)
          have q868 : h468 78 3 = h453 78 3 := by rw [← e470]; exact x_up_i (by first | decide | omega)
          have q869 : h453 78 3 = h362 78 3 := jK 0 f455 rg_78_3_0_1 (by first | decide | omega) (by first | decide | omega) (by decide)
          have q870 : h362 78 3 = h278 78 3 := jK 0 f364 rg_78_3_0_1 (by first | decide | omega) (by first | decide | omega) (by decide)
          have q871 : h278 78 3 = h263 78 3 := by rw [← e280]; exact x_up_i (by first | decide | omega)
          have q872 : h263 78 3 = h196 78 3 := jK 0 f265 rg_78_3_0_1 (by first | decide | omega) (by first | decide | omega) (by decide)
          have q873 : h196 78 3 = h136 78 3 := jK 0 f198 rg_78_3_0_1 (by first | decide | omega) (by first | decide | omega) (by decide)
          have q874 : h136 78 3 = h121 78 3 := by rw [← e138]; exact x_up_i (by first | decide | omega)
          have q875 : h121 78 3 = h71 78 3 := jK 0 f123 rg_78_3_0_1 (by first | decide | omega) (by first | decide | omega) (by decide)
          have q876 : h71 78 3 = h35 78 3 := jK 0 f73 rg_78_3_0_1 (by first | decide | omega) (by first | decide | omega) (by decide)
          have q877 : h35 78 3 = h19 78 3 := by rw [← e37]; exact x_up_i (by first | decide | omega)
          have q878 : h19 78 3 = h 78 3 := jK 0 f21 rg_78_3_0_1 (by first | decide | omega) (by first | decide | omega) (by decide)
          have b879 := jB (e := 4) 0 hJ rg_78_4_0_1 (by first | decide | omega) (by first | decide | omega)
          have q880 : h797 78 4 = h782 78 4 := by rw [← e799]; exact x_up_i (by first | decide | omega)
          have q881 : h782 78 4 = h612 78 4 := jK 0 f784 rg_78_4_0_1 (by first | decide | omega) (by first | decide | omega) (by decide)
          have q882 : h612 78 4 = h601 78 4 := jK 0 f614 rg_78_4_0_1 (by first | decide | omega) (by first | decide | omega) (by decide)
          have q883 : h601 78 4 = h596 78 4 := by rw [← e603]; exact x_up_i (by first | decide | omega)
          have q884 : h596 78 4 = h591 78 4 := by rw [← e598]; exact x_up_i (by first | decide | omega)
          have q885 : h591 78 4 = h577 78 4 := by rw [← e593]; exact x_up_i (by first | decide | omega)
          have q886 : h577 78 4 = h468 78 4 := jK 0 f579 rg_78_4_0_1 (by first | decide | omega) (by first | decide | omega) (by decide)
          have q887 : h468 78 4 = h453 78 4 := by rw [← e470]; exact x_up_i (by first | decide | omega)
          have q888 : h453 78 4 = h362 78 4 := jK 0 f455 rg_78_4_0_1 (by first | decide | omega) (by first | decide | omega) (by decide)
          have q889 : h362 78 4 = h278 78 4 := jK 0 f364 rg_78_4_0_1 (by first | decide | omega) (by first | decide | omega) (by decide)
          have q890 : h278 78 4 = h263 78 4 := by rw [← e280]; exact x_up_i (by first | decide | omega)
          have q891 : h263 78 4 = h196 78 4 := jK 0 f265 rg_78_4_0_1 (by first | decide | omega) (by first | decide | omega) (by decide)
          have q892 : h196 78 4 = h136 78 4 := jK 0 f198 rg_78_4_0_1 (by first | decide | omega) (by first | decide | omega) (by decide)
          have q893 : h136 78 4 = h121 78 4 := by rw [← e138]; exact x_up_i (by first | decide | omega)
          have q894 : h121 78 4 = h71 78 4 := jK 0 f123 rg_78_4_0_1 (by first | decide | omega) (by first | decide | omega) (by decide)
          have q895 : h71 78 4 = h35 78 4 := jK 0 f73 rg_78_4_0_1 (by first | decide | omega) (by first | decide | omega) (by decide)
          have q896 : h35 78 4 = h19 78 4 := by rw [← e37]; exact x_up_i (by first | decide | omega)
          have q897 : h19 78 4 = h 78 4 := jK 0 f21 rg_78_4_0_1 (by first | decide | omega) (by first | decide | omega) (by decide)
          have b898 := jB (e := 5) 0 hJ rg_78_5_0_1 (by first | decide | omega) (by first | decide | omega)
          have q899 : h797 78 5 = h782 78 5 := by rw [← e799]; exact x_up_i (by first | decide | omega)
          have q900 : h782 78 5 = h612 78 5 := jK 0 f784 rg_78_5_0_1 (by first | decide | omega) (by first | decide | omega) (by decide)
          have q901 : h612 78 5 = h601 78 5 := jK 0 f614 rg_78_5_0_1 (by first | decide | omega) (by first | decide | omega) (by decide)
          have q902 : h601 78 5 = h596 78 5 := by rw [← e603]; exact x_up_i (by first | decide | omega)
          have q903 : h596 78 5 = h591 78 5 := by rw [← e598]; exact x_up_i (by first | decide | omega)
          have q904 : h591 78 5 = h577 78 5 := by rw [← e593]; exact x_up_i (by first | decide | omega)
          have q905 : h577 78 5 = h468 78 5 := jK 0 f579 rg_78_5_0_1 (by first | decide | omega) (by first | decide | omega) (by decide)
          have q906 : h468 78 5 = h453 78 5 := by rw [← e470]; exact x_up_i (by first | decide | omega)
          have q907 : h453 78 5 = h362 78 5 := jK 0 f455 rg_78_5_0_1 (by first | decide | omega) (by first | decide | omega) (by decide)
          have q908 : h362 78 5 = h278 78 5 := jK 0 f364 rg_78_5_0_1 (by first | decide | omega) (by first | decide | omega) (by decide)
          have q909 : h278 78 5 = h263 78 5 := by rw [← e280]; exact x_up_i (by first | decide | omega)
          have q910 : h263 78 5 = h196 78 5 := jK 0 f265 rg_78_5_0_1 (by first | decide | omega) (by first | decide | omega) (by decide)
          have q911 : h196 78 5 = h136 78 5 := jK 0 f198 rg_78_5_0_1 (by first | decide | omega) (by first | decide | omega) (by decide)
          have q912 : h136 78 5 = h121 78 5 := by rw [← e138]; exact x_up_i (by first | decide | omega)
          have q913 : h121 78 5 = h71 78 5 := jK 0 f123 rg_78_5_0_1 (by first | decide | omega) (by first | decide | omega) (by decide)
          have q914 : h71 78 5 = h35 78 5 := jK 0 f73 rg_78_5_0_1 (by first | decide | omega) (by first | decide | omega) (by decide)
          have q915 : h35 78 5 = h19 78 5 := by rw [← e37]; exact x_up_i (by first | decide | omega)
          have q916 : h19 78 5 = h 78 5 := jK 0 f21 rg_78_5_0_1 (by first | decide | omega) (by first | decide | omega) (by decide)
          have q917 : h35 75 7 = h19 75 7 := by rw [← e37]; exact x_up_k (by decide)
          obtain ⟨w918, e919⟩ := Tw.yes c77 (by first | decide | omega)
          have q920 : h136 75 7 = h121 75 7 := by rw [← e138]; exact x_up_k (by decide)
          obtain ⟨w921, e922⟩ := Tw.yes c202 (by first | decide | omega)
          have q923 : h278 75 7 = h263 75 7 := by rw [← e280]; exact x_up_k (by decide)
          obtain ⟨w924, e925⟩ := Tw.yes c368 (by first | decide | omega)
          have q926 : h468 75 7 = h453 75 7 := by rw [← e470]; exact x_up_k (by decide)
          obtain ⟨w927, e928⟩ := Tk.no c583 (by first | decide | omega)
          have q929 : h601 75 7 = h596 75 7 := by rw [← e603]; exact x_up_k (by decide)
          have q930 : h596 75 7 = h591 75 7 := by rw [← e598]; exact x_up_k (by decide)
          have q931 : h591 75 7 = h577 75 7 := by rw [← e593]; exact x_up_k (by decide)
          obtain ⟨w932, e933⟩ := Tk.yes c618 (by first | decide | omega)
          have q934 : h35 75 7 = h19 75 7 := by rw [← e37]; exact x_up_k (by decide)
          obtain ⟨w935, e936⟩ := Tw.yes c77 (by first | decide | omega)
          have q937 : h136 75 7 = h121 75 7 := by rw [← e138]; exact x_up_k (by decide)
          obtain ⟨w938, e939⟩ := Tw.yes c202 (by first | decide | omega)
          have q940 : h278 75 7 = h263 75 7 := by rw [← e280]; exact x_up_k (by decide)
          obtain ⟨w941, e942⟩ := Tw.yes c368 (by first | decide | omega)
          have q943 : h468 75 7 = h453 75 7 := by rw [← e470]; exact x_up_k (by decide)
          obtain ⟨w944, e945⟩ := Tk.no c583 (by first | decide | omega)
          have q946 : h601 75 7 = h596 75 7 := by rw [← e603]; exact x_up_k (by decide)
          have q947 : h596 75 7 = h591 75 7 := by rw [← e598]; exact x_up_k (by decide)
          have q948 : h591 75 7 = h577 75 7 := by rw [← e593]; exact x_up_k (by decide)
          obtain ⟨w949, e950⟩ := Tk.yes c618 (by first | decide | omega)
          have q951 : h797 75 9 = h782 75 9 := by rw [← e799]; exact x_up_k (by decide)
          have b952 := jB (e := 9) 0 j783 rg_75_9_0_1 (by first | decide | omega) (by first | decide | omega)
          refine x_retI (np := 171) (x := 0) (by decide +kernel) (by decide) (Or.inr ⟨by decide +kernel, by first | decide | omega, by first | decide | omega⟩) ⟨_, rfl, (by decide), ?_⟩
          exact ⟨j798, f800, (by first | decide | omega), (fun z => by first | decide | omega), (fun z => by first | decide | omega), (fun z => by first | decide | omega), (fun z => by first | decide | omega), (fun z => by first | decide | omega), (fun z => by first | decide | omega), (fun z => absurd z (by first | decide | omega)), (Or.inr ⟨by first | decide | omega, (nm9.y c28 (by first | decide | omega) (by first | decide | omega) rfl (by first | decide | omega) rfl (wd9.y w918 (congrArg (sk tB tN) (show h35 75 7 = h19 75 7 by first | decide | omega)) e919 rfl (nm9.y c130 (by first | decide | omega) (by first | decide | omega) rfl (by first | decide | omega) rfl (wd9.y w921 (congrArg (sk tB tN) (show h136 75 7 = h121 75 7 by first | decide | omega)) e922 rfl (nm9.y c272 (by first | decide | omega) (by first | decide | omega) rfl (by first | decide | omega) rfl (wd9.y w924 (congrArg (sk tB tN) (show h278 75 7 = h263 75 7 by first | decide | omega)) e925 rfl (nm9.y c462 (by first | decide | omega) (by first | decide | omega) rfl (by first | decide | omega) rfl (or9.f w927 (congrArg (sk tB tN) (show h468 75 7 = h453 75 7 by first | decide | omega)) (Eq.trans e928 (congrArg (sk tB tN) (show h468 75 7 = h453 75 7 by first | decide | omega))) (or9.y w932 (congrArg (sk tB tN) (show h601 75 7 = h577 75 7 by first | decide | omega)) e933 rfl (nm9.f c791 (by first | decide | omega) (by first | decide | omega) rfl (by first | decide | omega) (by first | decide | omega)))))))))))⟩), (fun _ => Or.inr ⟨by first | decide | omega, (mF.y c28 (by first | decide | omega) (by first | decide | omega) rfl (by first | decide | omega) rfl (wF.y w935 (congrArg (sk tB tN) (show h35 75 7 = h19 75 7 by first | decide | omega)) e936 rfl (mF.y c130 (by first | decide | omega) (by first | decide | omega) rfl (by first | decide | omega) rfl (wF.y w938 (congrArg (sk tB tN) (show h136 75 7 = h121 75 7 by first | decide | omega)) e939 rfl (mF.y c272 (by first | decide | omega) (by first | decide | omega) rfl (by first | decide | omega) rfl (wF.y w941 (congrArg (sk tB tN) (show h278 75 7 = h263 75 7 by first | decide | omega)) e942 rfl (mF.y c462 (by first | decide | omega) (by first | decide | omega) rfl (by first | decide | omega) rfl (oF.no w944 (congrArg (sk tB tN) (show h468 75 7 = h453 75 7 by first | decide | omega)) (Eq.trans e945 (congrArg (sk tB tN) (show h468 75 7 = h453 75 7 by first | decide | omega))) (oF.y w949 (congrArg (sk tB tN) (show h601 75 7 = h577 75 7 by first | decide | omega)) e950 rfl (mF.no c791 (by first | decide | omega) (by first | decide | omega) rfl (by first | decide | omega) (Eq.trans (show h797 75 9 = h782 75 9 by first | decide | omega) c792)))))))))))⟩)⟩
        have q802 : ¬ (v778 < 2147483648) := q802
        have b953 := c787 (by first | decide | omega)
        have b954 := c788 (by first | decide | omega)
        have b955 := c789 (by first | decide | omega)
        refine x_const (np := 12) (x := 9223372043297226753) (a := 2147483649) (by decide +kernel) (by decide) (by decide) ?_
        refine x_goto (np := 15) (x := 16) (by decide +kernel) ?_
        refine x_retI (np := 17) (x := 0) (by decide +kernel) (by decide) (Or.inr ⟨by decide +kernel, by first | decide | omega, by first | decide | omega⟩) ⟨_, rfl, (by decide), ?_⟩
        refine x_ifz (k := 1) (tg := 171) (np := 169) (by decide +kernel) (by decide) (by decide) (fun q956 => ?_) (fun q957 => ?_)
        · have q956 : 2147483649 ≠ 2147483648 := q956
          refine x_aload (np := 172) (x := 0) (by decide +kernel) rfl (x_nc_le (by decide)) ?_
          have q958 : h797 75 3 = 78 := by have z := jB (e := 3) 0 j798 rg_75_3_0_1 (by decide) (by decide); omega
          refine x_getR (np := 175) (x := 707) (f := 3) (q := 78) (by decide +kernel) (by decide) (by decide +kernel) q958 ?_
          refine x_const (np := 176) (x := 9223372047592194050) (a := 2147483650) (by decide +kernel) (by decide) (by decide) ?_
          refine x_dup2 (np := 177) (x := 0) (by decide +kernel) (by have z := (iw_c_lt (a := 2147483650) (by decide)).1; omega) (by have z := x_nc_le (k := 78) (by decide); unfold x_r; omega) ?_
          have q959 : h797 78 2 = h782 78 2 := by rw [← e799]; exact x_up_i (by first | decide | omega)
          have q960 : h782 78 2 = h612 78 2 := jK 0 f784 rg_78_2_0_1 (by first | decide | omega) (by first | decide | omega) (by decide)
          have q961 : h612 78 2 = h601 78 2 := jK 0 f614 rg_78_2_0_1 (by first | decide | omega) (by first | decide | omega) (by decide)
          have q962 : h601 78 2 = h596 78 2 := by rw [← e603]; exact x_up_i (by first | decide | omega)
          have q963 : h596 78 2 = h591 78 2 := by rw [← e598]; exact x_up_i (by first | decide | omega)
          have q964 : h591 78 2 = h577 78 2 := by rw [← e593]; exact x_up_i (by first | decide | omega)
          have q965 : h577 78 2 = h468 78 2 := jK 0 f579 rg_78_2_0_1 (by first | decide | omega) (by first | decide | omega) (by decide)
          have q966 : h468 78 2 = h453 78 2 := by rw [← e470]; exact x_up_i (by first | decide | omega)
          have q967 : h453 78 2 = h362 78 2 := jK 0 f455 rg_78_2_0_1 (by first | decide | omega) (by first | decide | omega) (by decide)
          have q968 : h362 78 2 = h278 78 2 := jK 0 f364 rg_78_2_0_1 (by first | decide | omega) (by first | decide | omega) (by decide)
          have q969 : h278 78 2 = h263 78 2 := by rw [← e280]; exact x_up_i (by first | decide | omega)
          have q970 : h263 78 2 = h196 78 2 := jK 0 f265 rg_78_2_0_1 (by first | decide | omega) (by first | decide | omega) (by decide)
          have q971 : h196 78 2 = h136 78 2 := jK 0 f198 rg_78_2_0_1 (by first | decide | omega) (by first | decide | omega) (by decide)
          have q972 : h136 78 2 = h121 78 2 := by rw [← e138]; exact x_up_i (by first | decide | omega)
          have q973 : h121 78 2 = h71 78 2 := jK 0 f123 rg_78_2_0_1 (by first | decide | omega) (by first | decide | omega) (by decide)
          have q974 : h71 78 2 = h35 78 2 := jK 0 f73 rg_78_2_0_1 (by first | decide | omega) (by first | decide | omega) (by decide)
          have q975 : h35 78 2 = h19 78 2 := by rw [← e37]; exact x_up_i (by first | decide | omega)
          have q976 : h19 78 2 = h 78 2 := jK 0 f21 rg_78_2_0_1 (by first | decide | omega) (by first | decide | omega) (by decide)
          refine x_aldC (np := 178) (x := 0) (n := 290) (i := 2) (q := (h 78 2)) (by decide +kernel) (by decide +kernel) (by first | decide | omega) (by first | decide | omega) (by decide) (((((((((((((((((q959.trans q960).trans q961).trans q962).trans q963).trans q964).trans q965).trans q966).trans q967).trans q968).trans q969).trans q970).trans q971).trans q972).trans q973).trans q974).trans q975).trans q976) (fun l977 => ?_)
          refine x_const (np := 179) (x := 9223372043297226753) (a := 2147483649) (by decide +kernel) (by decide) (by decide) ?_
          refine x_iadd (np := 180) (x := 0) (v := (1 + (h 78 2))) (by decide +kernel) l3 (by decide) (by first | decide | omega) (by first | decide | omega) ?_
          refine x_ast (np := 181) (x := 0) (kd := 1) (n := 290) (i := 2) (by decide +kernel) (Or.inl rfl) (by decide +kernel) (by first | decide | omega) (by first | decide | omega) (by decide) (by first | decide | omega) (fun z => absurd z (by decide)) ?_
          have j979 := jU (e := 2) (v := (1 + (h 78 2))) 0 j798 rg_78_2_0_1 (by first | decide | omega) (by first | decide | omega) (by first | decide | omega)
          have f981 := jF (e := 2) (v := (1 + (h 78 2))) 0 f800 rg_78_2_0_1 (by first | decide | omega) (by first | decide | omega) (by decide)
          generalize e980 : x_up h797 78 2 (1 + (h 78 2)) = h978 at j979 f981 ⊢
          refine x_const (np := 182) (x := 9223372043297226753) (a := 2147483649) (by decide +kernel) (by decide) (by decide) ?_
          have b982 := jB (e := 0) 0 hJ rg_78_0_0_1 (by first | decide | omega) (by first | decide | omega)
          have q983 : h978 78 0 = h797 78 0 := by rw [← e980]; exact x_up_i (by first | decide | omega)
          have q984 : h797 78 0 = h782 78 0 := by rw [← e799]; exact x_up_i (by first | decide | omega)
          have q985 : h782 78 0 = h612 78 0 := jK 0 f784 rg_78_0_0_1 (by first | decide | omega) (by first | decide | omega) (by decide)
          have q986 : h612 78 0 = h601 78 0 := jK 0 f614 rg_78_0_0_1 (by first | decide | omega) (by first | decide | omega) (by decide)
          have q987 : h601 78 0 = h596 78 0 := by rw [← e603]; exact x_up_i (by first | decide | omega)
          have q988 : h596 78 0 = h591 78 0 := by rw [← e598]; exact x_up_i (by first | decide | omega)
          have q989 : h591 78 0 = h577 78 0 := by rw [← e593]; exact x_up_i (by first | decide | omega)
          have q990 : h577 78 0 = h468 78 0 := jK 0 f579 rg_78_0_0_1 (by first | decide | omega) (by first | decide | omega) (by decide)
          have q991 : h468 78 0 = h453 78 0 := by rw [← e470]; exact x_up_i (by first | decide | omega)
          have q992 : h453 78 0 = h362 78 0 := jK 0 f455 rg_78_0_0_1 (by first | decide | omega) (by first | decide | omega) (by decide)
          have q993 : h362 78 0 = h278 78 0 := jK 0 f364 rg_78_0_0_1 (by first | decide | omega) (by first | decide | omega) (by decide)
          have q994 : h278 78 0 = h263 78 0 := by rw [← e280]; exact x_up_i (by first | decide | omega)
          have q995 : h263 78 0 = h196 78 0 := jK 0 f265 rg_78_0_0_1 (by first | decide | omega) (by first | decide | omega) (by decide)
          have q996 : h196 78 0 = h136 78 0 := jK 0 f198 rg_78_0_0_1 (by first | decide | omega) (by first | decide | omega) (by decide)
          have q997 : h136 78 0 = h121 78 0 := by rw [← e138]; exact x_up_i (by first | decide | omega)
          have q998 : h121 78 0 = h71 78 0 := jK 0 f123 rg_78_0_0_1 (by first | decide | omega) (by first | decide | omega) (by decide)
          have q999 : h71 78 0 = h35 78 0 := jK 0 f73 rg_78_0_0_1 (by first | decide | omega) (by first | decide | omega) (by decide)
          have q1000 : h35 78 0 = h19 78 0 := by rw [← e37]; exact x_up_i (by first | decide | omega)
          have q1001 : h19 78 0 = h 78 0 := jK 0 f21 rg_78_0_0_1 (by first | decide | omega) (by first | decide | omega) (by decide)
          have q1002 : h978 78 1 = h797 78 1 := by rw [← e980]; exact x_up_i (by first | decide | omega)
          have q1003 : h797 78 1 = h782 78 1 := by rw [← e799]; exact x_up_i (by first | decide | omega)
          have q1004 : h782 78 1 = h612 78 1 := jK 0 f784 rg_78_1_0_1 (by first | decide | omega) (by first | decide | omega) (by decide)
          have q1005 : h612 78 1 = h601 78 1 := jK 0 f614 rg_78_1_0_1 (by first | decide | omega) (by first | decide | omega) (by decide)
          have q1006 : h601 78 1 = h596 78 1 := by rw [← e603]; exact x_up_i (by first | decide | omega)
          have q1007 : h596 78 1 = h591 78 1 := by rw [← e598]; exact x_up_i (by first | decide | omega)
          have q1008 : h591 78 1 = h577 78 1 := by rw [← e593]; exact x_up_i (by first | decide | omega)
          have q1009 : h577 78 1 = h468 78 1 := jK 0 f579 rg_78_1_0_1 (by first | decide | omega) (by first | decide | omega) (by decide)
          have q1010 : h468 78 1 = h453 78 1 := by rw [← e470]; exact x_up_i (by first | decide | omega)
          have q1011 : h453 78 1 = h362 78 1 := jK 0 f455 rg_78_1_0_1 (by first | decide | omega) (by first | decide | omega) (by decide)
          have q1012 : h362 78 1 = h278 78 1 := jK 0 f364 rg_78_1_0_1 (by first | decide | omega) (by first | decide | omega) (by decide)
          have q1013 : h278 78 1 = h263 78 1 := by rw [← e280]; exact x_up_i (by first | decide | omega)
          have q1014 : h263 78 1 = h196 78 1 := jK 0 f265 rg_78_1_0_1 (by first | decide | omega) (by first | decide | omega) (by decide)
          have q1015 : h196 78 1 = h136 78 1 := jK 0 f198 rg_78_1_0_1 (by first | decide | omega) (by first | decide | omega) (by decide)
          have q1016 : h136 78 1 = h121 78 1 := by rw [← e138]; exact x_up_i (by first | decide | omega)
          have q1017 : h121 78 1 = h71 78 1 := jK 0 f123 rg_78_1_0_1 (by first | decide | omega) (by first | decide | omega) (by decide)
          have q1018 : h71 78 1 = h35 78 1 := jK 0 f73 rg_78_1_0_1 (by first | decide | omega) (by first | decide | omega) (by decide)
          have q1019 : h35 78 1 = h19 78 1 := by rw [← e37]; exact x_up_i (by first | decide | omega)
          have q1020 : h19 78 1 = h 78 1 := jK 0 f21 rg_78_1_0_1 (by first | decide | omega) (by first | decide | omega) (by decide)
          have q1021 : h978 78 2 = (1 + (h 78 2)) := by rw [← e980]; exact x_up_at
          have b1022 := jB (e := 3) 0 hJ rg_78_3_0_1 (by first | decide | omega) (by first | decide | omega)
          have q1023 : h978 78 3 = h797 78 3 := by rw [← e980]; exact x_up_i (by first | decide | omega)
          have q1024 : h797 78 3 = h782 78 3 := by rw [← e799]; exact x_up_i (by first | decide | omega)
          have q1025 : h782 78 3 = h612 78 3 := jK 0 f784 rg_78_3_0_1 (by first | decide | omega) (by first | decide | omega) (by decide)
          have q1026 : h612 78 3 = h601 78 3 := jK 0 f614 rg_78_3_0_1 (by first | decide | omega) (by first | decide | omega) (by decide)
          have q1027 : h601 78 3 = h596 78 3 := by rw [← e603]; exact x_up_i (by first | decide | omega)
          have q1028 : h596 78 3 = h591 78 3 := by rw [← e598]; exact x_up_i (by first | decide | omega)
          have q1029 : h591 78 3 = h577 78 3 := by rw [← e593]; exact x_up_i (by first | decide | omega)
          have q1030 : h577 78 3 = h468 78 3 := jK 0 f579 rg_78_3_0_1 (by first | decide | omega) (by first | decide | omega) (by decide)
          have q1031 : h468 78 3 = h453 78 3 := by rw [← e470]; exact x_up_i (by first | decide | omega)
          have q1032 : h453 78 3 = h362 78 3 := jK 0 f455 rg_78_3_0_1 (by first | decide | omega) (by first | decide | omega) (by decide)
          have q1033 : h362 78 3 = h278 78 3 := jK 0 f364 rg_78_3_0_1 (by first | decide | omega) (by first | decide | omega) (by decide)
          have q1034 : h278 78 3 = h263 78 3 := by rw [← e280]; exact x_up_i (by first | decide | omega)
          have q1035 : h263 78 3 = h196 78 3 := jK 0 f265 rg_78_3_0_1 (by first | decide | omega) (by first | decide | omega) (by decide)
          have q1036 : h196 78 3 = h136 78 3 := jK 0 f198 rg_78_3_0_1 (by first | decide | omega) (by first | decide | omega) (by decide)
          have q1037 : h136 78 3 = h121 78 3 := by rw [← e138]; exact x_up_i (by first | decide | omega)
          have q1038 : h121 78 3 = h71 78 3 := jK 0 f123 rg_78_3_0_1 (by first | decide | omega) (by first | decide | omega) (by decide)
          have q1039 : h71 78 3 = h35 78 3 := jK 0 f73 rg_78_3_0_1 (by first | decide | omega) (by first | decide | omega) (by decide)
          have q1040 : h35 78 3 = h19 78 3 := by rw [← e37]; exact x_up_i (by first | decide | omega)
          have q1041 : h19 78 3 = h 78 3 := jK 0 f21 rg_78_3_0_1 (by first | decide | omega) (by first | decide | omega) (by decide)
          have b1042 := jB (e := 4) 0 hJ rg_78_4_0_1 (by first | decide | omega) (by first | decide | omega)
          have q1043 : h978 78 4 = h797 78 4 := by rw [← e980]; exact x_up_i (by first | decide | omega)
          have q1044 : h797 78 4 = h782 78 4 := by rw [← e799]; exact x_up_i (by first | decide | omega)
          have q1045 : h782 78 4 = h612 78 4 := jK 0 f784 rg_78_4_0_1 (by first | decide | omega) (by first | decide | omega) (by decide)
          have q1046 : h612 78 4 = h601 78 4 := jK 0 f614 rg_78_4_0_1 (by first | decide | omega) (by first | decide | omega) (by decide)
          have q1047 : h601 78 4 = h596 78 4 := by rw [← e603]; exact x_up_i (by first | decide | omega)
          have q1048 : h596 78 4 = h591 78 4 := by rw [← e598]; exact x_up_i (by first | decide | omega)
          have q1049 : h591 78 4 = h577 78 4 := by rw [← e593]; exact x_up_i (by first | decide | omega)
          have q1050 : h577 78 4 = h468 78 4 := jK 0 f579 rg_78_4_0_1 (by first | decide | omega) (by first | decide | omega) (by decide)
          have q1051 : h468 78 4 = h453 78 4 := by rw [← e470]; exact x_up_i (by first | decide | omega)
          have q1052 : h453 78 4 = h362 78 4 := jK 0 f455 rg_78_4_0_1 (by first | decide | omega) (by first | decide | omega) (by decide)
          have q1053 : h362 78 4 = h278 78 4 := jK 0 f364 rg_78_4_0_1 (by first | decide | omega) (by first | decide | omega) (by decide)
          have q1054 : h278 78 4 = h263 78 4 := by rw [← e280]; exact x_up_i (by first | decide | omega)
          have q1055 : h263 78 4 = h196 78 4 := jK 0 f265 rg_78_4_0_1 (by first | decide | omega) (by first | decide | omega) (by decide)
          have q1056 : h196 78 4 = h136 78 4 := jK 0 f198 rg_78_4_0_1 (by first | decide | omega) (by first | decide | omega) (by decide)
          have q1057 : h136 78 4 = h121 78 4 := by rw [← e138]; exact x_up_i (by first | decide | omega)
          have q1058 : h121 78 4 = h71 78 4 := jK 0 f123 rg_78_4_0_1 (by first | decide | omega) (by first | decide | omega) (by decide)
          have q1059 : h71 78 4 = h35 78 4 := jK 0 f73 rg_78_4_0_1 (by first | decide | omega) (by first | decide | omega) (by decide)
          have q1060 : h35 78 4 = h19 78 4 := by rw [← e37]; exact x_up_i (by first | decide | omega)
          have q1061 : h19 78 4 = h 78 4 := jK 0 f21 rg_78_4_0_1 (by first | decide | omega) (by first | decide | omega) (by decide)
          have b1062 := jB (e := 5) 0 hJ rg_78_5_0_1 (by first | decide | omega) (by first | decide | omega)
          have q1063 : h978 78 5 = h797 78 5 := by rw [← e980]; exact x_up_i (by first | decide | omega)
          have q1064 : h797 78 5 = h782 78 5 := by rw [← e799]; exact x_up_i (by first | decide | omega)
          have q1065 : h782 78 5 = h612 78 5 := jK 0 f784 rg_78_5_0_1 (by first | decide | omega) (by first | decide | omega) (by decide)
          have q1066 : h612 78 5 = h601 78 5 := jK 0 f614 rg_78_5_0_1 (by first | decide | omega) (by first | decide | omega) (by decide)
          have q1067 : h601 78 5 = h596 78 5 := by rw [← e603]; exact x_up_i (by first | decide | omega)
          have q1068 : h596 78 5 = h591 78 5 := by rw [← e598]; exact x_up_i (by first | decide | omega)
          have q1069 : h591 78 5 = h577 78 5 := by rw [← e593]; exact x_up_i (by first | decide | omega)
          have q1070 : h577 78 5 = h468 78 5 := jK 0 f579 rg_78_5_0_1 (by first | decide | omega) (by first | decide | omega) (by decide)
          have q1071 : h468 78 5 = h453 78 5 := by rw [← e470]; exact x_up_i (by first | decide | omega)
          have q1072 : h453 78 5 = h362 78 5 := jK 0 f455 rg_78_5_0_1 (by first | decide | omega) (by first | decide | omega) (by decide)
          have q1073 : h362 78 5 = h278 78 5 := jK 0 f364 rg_78_5_0_1 (by first | decide | omega) (by first | decide | omega) (by decide)
          have q1074 : h278 78 5 = h263 78 5 := by rw [← e280]; exact x_up_i (by first | decide | omega)
          have q1075 : h263 78 5 = h196 78 5 := jK 0 f265 rg_78_5_0_1 (by first | decide | omega) (by first | decide | omega) (by decide)
          have q1076 : h196 78 5 = h136 78 5 := jK 0 f198 rg_78_5_0_1 (by first | decide | omega) (by first | decide | omega) (by decide)
          have q1077 : h136 78 5 = h121 78 5 := by rw [← e138]; exact x_up_i (by first | decide | omega)
          have q1078 : h121 78 5 = h71 78 5 := jK 0 f123 rg_78_5_0_1 (by first | decide | omega) (by first | decide | omega) (by decide)
          have q1079 : h71 78 5 = h35 78 5 := jK 0 f73 rg_78_5_0_1 (by first | decide | omega) (by first | decide | omega) (by decide)
          have q1080 : h35 78 5 = h19 78 5 := by rw [← e37]; exact x_up_i (by first | decide | omega)
          have q1081 : h19 78 5 = h 78 5 := jK 0 f21 rg_78_5_0_1 (by first | decide | omega) (by first | decide | omega) (by decide)
          have m1100 := Cl.fr hC f21 (by decide)
          have m1099 : Cl h35 := by rw [← e37]; exact Cl.upR (e := (20 + 7 * u8)) (v := v16) u8 m1100 rg_76_20_7_20 (by first | decide | omega) (by first | decide | omega) (by first | decide | omega)
          have m1098 := Cl.fr m1099 f73 (by decide)
          have m1097 := Cl.fr m1098 f123 (by decide)
          have m1096 : Cl h136 := by rw [← e138]; exact Cl.upR (e := (21 + 7 * u8)) (v := v117) u8 m1097 rg_76_21_7_20 (by first | decide | omega) (by first | decide | omega) (by first | decide | omega)
          have m1095 := Cl.fr m1096 f198 (by decide)
          have m1094 := Cl.fr m1095 f265 (by decide)
          have m1093 : Cl h278 := by rw [← e280]; exact Cl.upR (e := (22 + 7 * u8)) (v := v259) u8 m1094 rg_76_22_7_20 (by first | decide | omega) (by first | decide | omega) (by first | decide | omega)
          have m1092 := Cl.fr m1093 f364 (by decide)
          have m1091 := Cl.fr m1092 f455 (by decide)
          have m1090 : Cl h468 := by rw [← e470]; exact Cl.upR (e := (23 + 7 * u8)) (v := v449) u8 m1091 rg_76_23_7_20 (by first | decide | omega) (by first | decide | omega) (by first | decide | omega)
          have m1089 := Cl.fr m1090 f579 (by decide)
          have m1088 : Cl h591 := by rw [← e593]; exact Cl.upR (e := (24 + 7 * u8)) (v := 2147483648) u8 m1089 rg_76_24_7_20 (by first | decide | omega) (by first | decide | omega) (by first | decide | omega)
          have m1087 : Cl h596 := by rw [← e598]; exact Cl.upR (e := (25 + 7 * u8)) (v := 2147483648) u8 m1088 rg_76_25_7_20 (by first | decide | omega) (by first | decide | omega) (by first | decide | omega)
          have m1086 : Cl h601 := by rw [← e603]; exact Cl.upR (e := (26 + 7 * u8)) (v := 2147483648) u8 m1087 rg_76_26_7_20 (by first | decide | omega) (by first | decide | omega) (by first | decide | omega)
          have m1085 := Cl.fr m1086 f614 (by decide)
          have m1084 := Cl.fr m1085 f784 (by decide)
          have m1083 : Cl h797 := by rw [← e799]; exact Cl.upR (e := (25 + 7 * u8)) (v := v778) u8 m1084 rg_76_25_7_20 (by first | decide | omega) (by first | decide | omega) (by first | decide | omega)
          have m1082 : Cl h978 := by rw [← e980]; exact Cl.upR (e := 2) (v := (1 + (h 78 2))) 0 m1083 rg_76_2_0_1 (by first | decide | omega) (by first | decide | omega) (by first | decide | omega)
          have q1101 : h35 75 7 = h19 75 7 := by rw [← e37]; exact x_up_k (by decide)
          obtain ⟨w1102, e1103⟩ := Tw.yes c77 (by first | decide | omega)
          have q1104 : h136 75 7 = h121 75 7 := by rw [← e138]; exact x_up_k (by decide)
          obtain ⟨w1105, e1106⟩ := Tw.yes c202 (by first | decide | omega)
          have q1107 : h278 75 7 = h263 75 7 := by rw [← e280]; exact x_up_k (by decide)
          obtain ⟨w1108, e1109⟩ := Tw.yes c368 (by first | decide | omega)
          have q1110 : h468 75 7 = h453 75 7 := by rw [← e470]; exact x_up_k (by decide)
          obtain ⟨w1111, e1112⟩ := Tk.no c583 (by first | decide | omega)
          have q1113 : h601 75 7 = h596 75 7 := by rw [← e603]; exact x_up_k (by decide)
          have q1114 : h596 75 7 = h591 75 7 := by rw [← e598]; exact x_up_k (by decide)
          have q1115 : h591 75 7 = h577 75 7 := by rw [← e593]; exact x_up_k (by decide)
          obtain ⟨w1116, e1117⟩ := Tk.yes c618 (by first | decide | omega)
          have q1118 : h978 75 7 = h797 75 7 := by rw [← e980]; exact x_up_k (by decide)
          have q1119 : h797 75 7 = h782 75 7 := by rw [← e799]; exact x_up_k (by decide)
          refine x_retI (np := 183) (x := 0) (by decide +kernel) (by decide) (Or.inr ⟨by decide +kernel, by first | decide | omega, by first | decide | omega⟩) ⟨_, rfl, (by decide), ?_⟩
          exact ⟨j979, f981, (by first | decide | omega), (fun z => by first | decide | omega), (fun z => by first | decide | omega), (fun z => by first | decide | omega), (fun z => by first | decide | omega), (fun z => by first | decide | omega), (fun z => by first | decide | omega), (fun _ => m1082), (Or.inr ⟨by first | decide | omega, (nm9.y c28 (by first | decide | omega) (by first | decide | omega) rfl (by first | decide | omega) rfl (wd9.y w1102 (congrArg (sk tB tN) (show h35 75 7 = h19 75 7 by first | decide | omega)) e1103 rfl (nm9.y c130 (by first | decide | omega) (by first | decide | omega) rfl (by first | decide | omega) rfl (wd9.y w1105 (congrArg (sk tB tN) (show h136 75 7 = h121 75 7 by first | decide | omega)) e1106 rfl (nm9.y c272 (by first | decide | omega) (by first | decide | omega) rfl (by first | decide | omega) rfl (wd9.y w1108 (congrArg (sk tB tN) (show h278 75 7 = h263 75 7 by first | decide | omega)) e1109 rfl (nm9.y c462 (by first | decide | omega) (by first | decide | omega) rfl (by first | decide | omega) rfl (or9.f w1111 (congrArg (sk tB tN) (show h468 75 7 = h453 75 7 by first | decide | omega)) (Eq.trans e1112 (congrArg (sk tB tN) (show h468 75 7 = h453 75 7 by first | decide | omega))) (or9.y w1116 (congrArg (sk tB tN) (show h601 75 7 = h577 75 7 by first | decide | omega)) e1117 rfl (nm9.y c791 (by first | decide | omega) (by first | decide | omega) rfl (by first | decide | omega) rfl (fin9.mk (by first | decide | omega) (congrArg (sk tB tN) (show h782 75 7 = h978 75 7 by first | decide | omega)))))))))))))⟩), (fun z => absurd z (by first | decide | omega))⟩
        have q957 : ¬ (2147483649 ≠ 2147483648) := q957
        exfalso; omega
      have q590 : ¬ (v572 = 2147483648) := q590
      have b1120 := c582 (by first | decide | omega)
      refine x_const (np := 118) (x := 9223372043297226753) (a := 2147483649) (by decide +kernel) (by decide) (by decide) ?_
      refine x_goto (np := 121) (x := 122) (by decide +kernel) ?_
      refine x_ast (np := 123) (x := 0) (kd := 1) (n := 290) (i := (24 + 7 * u8)) (by decide +kernel) (Or.inl rfl) (by decide +kernel) (by first | decide | omega) (by first | decide | omega) (by decide) (by decide) (fun z => absurd z (by decide)) ?_
      have j1122 := jU (e := (24 + 7 * u8)) (v := 2147483649) u8 j578 rg_78_24_7_20 (by first | decide | omega) (by first | decide | omega) (by first | decide | omega)
      have f1124 := jF (e := (24 + 7 * u8)) (v := 2147483649) u8 f585 rg_78_24_7_20 (by first | decide | omega) (by first | decide | omega) (by decide)
      generalize e1123 : x_up h577 78 (24 + 7 * u8) 2147483649 = h1121 at j1122 f1124 ⊢
      refine x_aload (np := 124) (x := 0) (by decide +kernel) rfl (x_nc_le (by decide)) ?_
      have q1125 : h1121 75 3 = 78 := by have z := jB (e := 3) 0 j1122 rg_75_3_0_1 (by decide) (by decide); omega
      refine x_getR (np := 127) (x := 707) (f := 3) (q := 78) (by decide +kernel) (by decide) (by decide +kernel) q1125 ?_
      refine x_iload (np := 128) (x := 1) (by decide +kernel) rfl (by first | decide | omega) ?_
      refine x_const (np := 129) (x := 9223372060477095941) (a := 2147483653) (by decide +kernel) (by decide) (by decide) ?_
      refine x_iadd (np := 130) (x := 0) (v := (2147483673 + 7 * u8)) (by decide +kernel) (by first | decide | omega) (by decide) (by first | decide | omega) (by first | decide | omega) ?_
      refine x_const (np := 131) (x := 9223372039002259456) (a := 2147483648) (by decide +kernel) (by decide) (by decide) ?_
      refine x_ast (np := 132) (x := 0) (kd := 1) (n := 290) (i := (25 + 7 * u8)) (by decide +kernel) (Or.inl rfl) (by decide +kernel) (by first | decide | omega) (by first | decide | omega) (by decide) (by decide) (fun z => absurd z (by decide)) ?_
      have j1127 := jU (e := (25 + 7 * u8)) (v := 2147483648) u8 j1122 rg_78_25_7_20 (by first | decide | omega) (by first | decide | omega) (by first | decide | omega)
      have f1129 := jF (e := (25 + 7 * u8)) (v := 2147483648) u8 f1124 rg_78_25_7_20 (by first | decide | omega) (by first | decide | omega) (by decide)
      generalize e1128 : x_up h1121 78 (25 + 7 * u8) 2147483648 = h1126 at j1127 f1129 ⊢
      refine x_aload (np := 133) (x := 0) (by decide +kernel) rfl (x_nc_le (by decide)) ?_
      have q1130 : h1126 75 3 = 78 := by have z := jB (e := 3) 0 j1127 rg_75_3_0_1 (by decide) (by decide); omega
      refine x_getR (np := 136) (x := 707) (f := 3) (q := 78) (by decide +kernel) (by decide) (by decide +kernel) q1130 ?_
      refine x_iload (np := 137) (x := 1) (by decide +kernel) rfl (by first | decide | omega) ?_
      refine x_const (np := 139) (x := 9223372064772063238) (a := 2147483654) (by decide +kernel) (by decide) (by decide) ?_
      refine x_iadd (np := 140) (x := 0) (v := (2147483674 + 7 * u8)) (by decide +kernel) (by first | decide | omega) (by decide) (by first | decide | omega) (by first | decide | omega) ?_
      refine x_const (np := 141) (x := 9223372039002259456) (a := 2147483648) (by decide +kernel) (by decide) (by decide) ?_
      refine x_ast (np := 142) (x := 0) (kd := 1) (n := 290) (i := (26 + 7 * u8)) (by decide +kernel) (Or.inl rfl) (by decide +kernel) (by first | decide | omega) (by first | decide | omega) (by decide) (by decide) (fun z => absurd z (by decide)) ?_
      have j1132 := jU (e := (26 + 7 * u8)) (v := 2147483648) u8 j1127 rg_78_26_7_20 (by first | decide | omega) (by first | decide | omega) (by first | decide | omega)
      have f1134 := jF (e := (26 + 7 * u8)) (v := 2147483648) u8 f1129 rg_78_26_7_20 (by first | decide | omega) (by first | decide | omega) (by decide)
      generalize e1133 : x_up h1126 78 (26 + 7 * u8) 2147483648 = h1131 at j1132 f1134 ⊢
      refine x_aload (np := 143) (x := 0) (by decide +kernel) rfl (x_nc_le (by decide)) ?_
      refine x_ldcB (i := 5) (idx := 158) (tx := "pledge") (by rw [tb_y179]; exact List.mem_of_getElem? (i := 40) rfl) (by decide) (by rw [tb_b179]; decide +kernel) ?_
      have m1141 := Tq.fr m575 f579 (by decide) (by decide)
      have m1140 : Tq tB tN h1121 := by rw [← e1123]; exact Tq.oth m1141 (by decide) (fun z => absurd z.1 (by decide))
      have m1139 : Tq tB tN h1126 := by rw [← e1128]; exact Tq.oth m1140 (by decide) (fun z => absurd z.1 (by decide))
      have m1138 : Tq tB tN h1131 := by rw [← e1133]; exact Tq.oth m1139 (by decide) (fun z => absurd z.1 (by decide))
      refine x_cI (t := 6) (mj := 171) (n := 2) (rc := 12) (ml := 2) (nr := 0) (np := 148) (as := [x_r 75, x_b (5 + 1)]) (rest := []) (lo1 := [x_r 75, x_b (5 + 1)]) (by decide +kernel) (by decide) (by decide +kernel) (x_rb_of (by decide +kernel)) rfl rfl (x_wr (by decide) (x_wB (by decide) x_wn)) x_wn (by decide) rfl (c171_75_S0 j1132  (by decide) m1138) (fun v1135 h1142 l1136 q1137 => ?_)
      obtain ⟨j1143, f1144, b1145, c1146, c1147, c1148, c1149⟩ := q1137
      have f1150 := Fr.trans f1134 f1144 (by decide)
      have q1151 : h1131 75 7 = h1126 75 7 := by rw [← e1133]; exact x_up_k (by decide)
      have q1152 : h1126 75 7 = h1121 75 7 := by rw [← e1128]; exact x_up_k (by decide)
      have q1153 : h1121 75 7 = h577 75 7 := by rw [← e1123]; exact x_up_k (by decide)
      have b1154 := jB (e := 7) 0 j1143 rg_75_7_0_1 (by first | decide | omega) (by first | decide | omega)
      have q1155 : h1131 75 7 = h1126 75 7 := by rw [← e1133]; exact x_up_k (by decide)
      have q1156 : h1126 75 7 = h1121 75 7 := by rw [← e1128]; exact x_up_k (by decide)
      have q1157 : h1121 75 7 = h577 75 7 := by rw [← e1123]; exact x_up_k (by decide)
      refine x_ifz (k := 0) (tg := 171) (np := 151) (by decide +kernel) (by decide) l1136 (fun q1158 => ?_) (fun q1159 => ?_)
      · have q1158 : v1135 = 2147483648 := q1158
        refine x_aload (np := 172) (x := 0) (by decide +kernel) rfl (x_nc_le (by decide)) ?_
        have q1160 : h1142 75 3 = 78 := by have z := jB (e := 3) 0 j1143 rg_75_3_0_1 (by decide) (by decide); omega
        refine x_getR (np := 175) (x := 707) (f := 3) (q := 78) (by decide +kernel) (by decide) (by decide +kernel) q1160 ?_
        refine x_const (np := 176) (x := 9223372047592194050) (a := 2147483650) (by decide +kernel) (by decide) (by decide) ?_
        refine x_dup2 (np := 177) (x := 0) (by decide +kernel) (by have z := (iw_c_lt (a := 2147483650) (by decide)).1; omega) (by have z := x_nc_le (k := 78) (by decide); unfold x_r; omega) ?_
        have q1161 : h1142 78 2 = h1131 78 2 := jK 0 f1144 rg_78_2_0_1 (by first | decide | omega) (by first | decide | omega) (by decide)
        have q1162 : h1131 78 2 = h1126 78 2 := by rw [← e1133]; exact x_up_i (by first | decide | omega)
        have q1163 : h1126 78 2 = h1121 78 2 := by rw [← e1128]; exact x_up_i (by first | decide | omega)
        have q1164 : h1121 78 2 = h577 78 2 := by rw [← e1123]; exact x_up_i (by first | decide | omega)
        have q1165 : h577 78 2 = h468 78 2 := jK 0 f579 rg_78_2_0_1 (by first | decide | omega) (by first | decide | omega) (by decide)
        have q1166 : h468 78 2 = h453 78 2 := by rw [← e470]; exact x_up_i (by first | decide | omega)
        have q1167 : h453 78 2 = h362 78 2 := jK 0 f455 rg_78_2_0_1 (by first | decide | omega) (by first | decide | omega) (by decide)
        have q1168 : h362 78 2 = h278 78 2 := jK 0 f364 rg_78_2_0_1 (by first | decide | omega) (by first | decide | omega) (by decide)
        have q1169 : h278 78 2 = h263 78 2 := by rw [← e280]; exact x_up_i (by first | decide | omega)
        have q1170 : h263 78 2 = h196 78 2 := jK 0 f265 rg_78_2_0_1 (by first | decide | omega) (by first | decide | omega) (by decide)
        have q1171 : h196 78 2 = h136 78 2 := jK 0 f198 rg_78_2_0_1 (by first | decide | omega) (by first | decide | omega) (by decide)
        have q1172 : h136 78 2 = h121 78 2 := by rw [← e138]; exact x_up_i (by first | decide | omega)
        have q1173 : h121 78 2 = h71 78 2 := jK 0 f123 rg_78_2_0_1 (by first | decide | omega) (by first | decide | omega) (by decide)
        have q1174 : h71 78 2 = h35 78 2 := jK 0 f73 rg_78_2_0_1 (by first | decide | omega) (by first | decide | omega) (by decide)
        have q1175 : h35 78 2 = h19 78 2 := by rw [← e37]; exact x_up_i (by first | decide | omega)
        have q1176 : h19 78 2 = h 78 2 := jK 0 f21 rg_78_2_0_1 (by first | decide | omega) (by first | decide | omega) (by decide)
        refine x_aldC (np := 178) (x := 0) (n := 290) (i := 2) (q := (h 78 2)) (by decide +kernel) (by decide +kernel) (by first | decide | omega) (by first | decide | omega) (by decide) (((((((((((((((q1161.trans q1162).trans q1163).trans q1164).trans q1165).trans q1166).trans q1167).trans q1168).trans q1169).trans q1170).trans q1171).trans q1172).trans q1173).trans q1174).trans q1175).trans q1176) (fun l1177 => ?_)
        refine x_const (np := 179) (x := 9223372043297226753) (a := 2147483649) (by decide +kernel) (by decide) (by decide) ?_
        refine x_iadd (np := 180) (x := 0) (v := (1 + (h 78 2))) (by decide +kernel) l3 (by decide) (by first | decide | omega) (by first | decide | omega) ?_
        refine x_ast (np := 181) (x := 0) (kd := 1) (n := 290) (i := 2) (by decide +kernel) (Or.inl rfl) (by decide +kernel) (by first | decide | omega) (by first | decide | omega) (by decide) (by first | decide | omega) (fun z => absurd z (by decide)) ?_
        have j1179 := jU (e := 2) (v := (1 + (h 78 2))) 0 j1143 rg_78_2_0_1 (by first | decide | omega) (by first | decide | omega) (by first | decide | omega)
        have f1181 := jF (e := 2) (v := (1 + (h 78 2))) 0 f1150 rg_78_2_0_1 (by first | decide | omega) (by first | decide | omega) (by decide)
        generalize e1180 : x_up h1142 78 2 (1 + (h 78 2)) = h1178 at j1179 f1181 ⊢
        refine x_const (np := 182) (x := 9223372043297226753) (a := 2147483649) (by decide +kernel) (by decide) (by decide) ?_
        have b1182 := jB (e := 0) 0 hJ rg_78_0_0_1 (by first | decide | omega) (by first | decide | omega)
        have q1183 : h1178 78 0 = h1142 78 0 := by rw [← e1180]; exact x_up_i (by first | decide | omega)
        have q1184 : h1142 78 0 = h1131 78 0 := jK 0 f1144 rg_78_0_0_1 (by first | decide | omega) (by first | decide | omega) (by decide)
        have q1185 : h1131 78 0 = h1126 78 0 := by rw [← e1133]; exact x_up_i (by first | decide | omega)
        have q1186 : h1126 78 0 = h1121 78 0 := by rw [← e1128]; exact x_up_i (by first | decide | omega)
        have q1187 : h1121 78 0 = h577 78 0 := by rw [← e1123]; exact x_up_i (by first | decide | omega)
        have q1188 : h577 78 0 = h468 78 0 := jK 0 f579 rg_78_0_0_1 (by first | decide | omega) (by first | decide | omega) (by decide)
        have q1189 : h468 78 0 = h453 78 0 := by rw [← e470]; exact x_up_i (by first | decide | omega)
        have q1190 : h453 78 0 = h362 78 0 := jK 0 f455 rg_78_0_0_1 (by first | decide | omega) (by first | decide | omega) (by decide)
        have q1191 : h362 78 0 = h278 78 0 := jK 0 f364 rg_78_0_0_1 (by first | decide | omega) (by first | decide | omega) (by decide)
        have q1192 : h278 78 0 = h263 78 0 := by rw [← e280]; exact x_up_i (by first | decide | omega)
        have q1193 : h263 78 0 = h196 78 0 := jK 0 f265 rg_78_0_0_1 (by first | decide | omega) (by first | decide | omega) (by decide)
        have q1194 : h196 78 0 = h136 78 0 := jK 0 f198 rg_78_0_0_1 (by first | decide | omega) (by first | decide | omega) (by decide)
        have q1195 : h136 78 0 = h121 78 0 := by rw [← e138]; exact x_up_i (by first | decide | omega)
        have q1196 : h121 78 0 = h71 78 0 := jK 0 f123 rg_78_0_0_1 (by first | decide | omega) (by first | decide | omega) (by decide)
        have q1197 : h71 78 0 = h35 78 0 := jK 0 f73 rg_78_0_0_1 (by first | decide | omega) (by first | decide | omega) (by decide)
        have q1198 : h35 78 0 = h19 78 0 := by rw [← e37]; exact x_up_i (by first | decide | omega)
        have q1199 : h19 78 0 = h 78 0 := jK 0 f21 rg_78_0_0_1 (by first | decide | omega) (by first | decide | omega) (by decide)
        have q1200 : h1178 78 1 = h1142 78 1 := by rw [← e1180]; exact x_up_i (by first | decide | omega)
        have q1201 : h1142 78 1 = h1131 78 1 := jK 0 f1144 rg_78_1_0_1 (by first | decide | omega) (by first | decide | omega) (by decide)
        have q1202 : h1131 78 1 = h1126 78 1 := by rw [← e1133]; exact x_up_i (by first | decide | omega)
        have q1203 : h1126 78 1 = h1121 78 1 := by rw [← e1128]; exact x_up_i (by first | decide | omega)
        have q1204 : h1121 78 1 = h577 78 1 := by rw [← e1123]; exact x_up_i (by first | decide | omega)
        have q1205 : h577 78 1 = h468 78 1 := jK 0 f579 rg_78_1_0_1 (by first | decide | omega) (by first | decide | omega) (by decide)
        have q1206 : h468 78 1 = h453 78 1 := by rw [← e470]; exact x_up_i (by first | decide | omega)
        have q1207 : h453 78 1 = h362 78 1 := jK 0 f455 rg_78_1_0_1 (by first | decide | omega) (by first | decide | omega) (by decide)
        have q1208 : h362 78 1 = h278 78 1 := jK 0 f364 rg_78_1_0_1 (by first | decide | omega) (by first | decide | omega) (by decide)
        have q1209 : h278 78 1 = h263 78 1 := by rw [← e280]; exact x_up_i (by first | decide | omega)
        have q1210 : h263 78 1 = h196 78 1 := jK 0 f265 rg_78_1_0_1 (by first | decide | omega) (by first | decide | omega) (by decide)
        have q1211 : h196 78 1 = h136 78 1 := jK 0 f198 rg_78_1_0_1 (by first | decide | omega) (by first | decide | omega) (by decide)
        have q1212 : h136 78 1 = h121 78 1 := by rw [← e138]; exact x_up_i (by first | decide | omega)
        have q1213 : h121 78 1 = h71 78 1 := jK 0 f123 rg_78_1_0_1 (by first | decide | omega) (by first | decide | omega) (by decide)
        have q1214 : h71 78 1 = h35 78 1 := jK 0 f73 rg_78_1_0_1 (by first | decide | omega) (by first | decide | omega) (by decide)
        have q1215 : h35 78 1 = h19 78 1 := by rw [← e37]; exact x_up_i (by first | decide | omega)
        have q1216 : h19 78 1 = h 78 1 := jK 0 f21 rg_78_1_0_1 (by first | decide | omega) (by first | decide | omega) (by decide)
        have q1217 : h1178 78 2 = (1 + (h 78 2)) := by rw [← e1180]; exact x_up_at
        have b1218 := jB (e := 3) 0 hJ rg_78_3_0_1 (by first | decide | omega) (by first | decide | omega)
        have q1219 : h1178 78 3 = h1142 78 3 := by rw [← e1180]; exact x_up_i (by first | decide | omega)
        have q1220 : h1142 78 3 = h1131 78 3 := jK 0 f1144 rg_78_3_0_1 (by first | decide | omega) (by first | decide | omega) (by decide)
        have q1221 : h1131 78 3 = h1126 78 3 := by rw [← e1133]; exact x_up_i (by first | decide | omega)
        have q1222 : h1126 78 3 = h1121 78 3 := by rw [← e1128]; exact x_up_i (by first | decide | omega)
        have q1223 : h1121 78 3 = h577 78 3 := by rw [← e1123]; exact x_up_i (by first | decide | omega)
        have q1224 : h577 78 3 = h468 78 3 := jK 0 f579 rg_78_3_0_1 (by first | decide | omega) (by first | decide | omega) (by decide)
        have q1225 : h468 78 3 = h453 78 3 := by rw [← e470]; exact x_up_i (by first | decide | omega)
        have q1226 : h453 78 3 = h362 78 3 := jK 0 f455 rg_78_3_0_1 (by first | decide | omega) (by first | decide | omega) (by decide)
        have q1227 : h362 78 3 = h278 78 3 := jK 0 f364 rg_78_3_0_1 (by first | decide | omega) (by first | decide | omega) (by decide)
        have q1228 : h278 78 3 = h263 78 3 := by rw [← e280]; exact x_up_i (by first | decide | omega)
        have q1229 : h263 78 3 = h196 78 3 := jK 0 f265 rg_78_3_0_1 (by first | decide | omega) (by first | decide | omega) (by decide)
        have q1230 : h196 78 3 = h136 78 3 := jK 0 f198 rg_78_3_0_1 (by first | decide | omega) (by first | decide | omega) (by decide)
        have q1231 : h136 78 3 = h121 78 3 := by rw [← e138]; exact x_up_i (by first | decide | omega)
        have q1232 : h121 78 3 = h71 78 3 := jK 0 f123 rg_78_3_0_1 (by first | decide | omega) (by first | decide | omega) (by decide)
        have q1233 : h71 78 3 = h35 78 3 := jK 0 f73 rg_78_3_0_1 (by first | decide | omega) (by first | decide | omega) (by decide)
        have q1234 : h35 78 3 = h19 78 3 := by rw [← e37]; exact x_up_i (by first | decide | omega)
        have q1235 : h19 78 3 = h 78 3 := jK 0 f21 rg_78_3_0_1 (by first | decide | omega) (by first | decide | omega) (by decide)
        have b1236 := jB (e := 4) 0 hJ rg_78_4_0_1 (by first | decide | omega) (by first | decide | omega)
        have q1237 : h1178 78 4 = h1142 78 4 := by rw [← e1180]; exact x_up_i (by first | decide | omega)
        have q1238 : h1142 78 4 = h1131 78 4 := jK 0 f1144 rg_78_4_0_1 (by first | decide | omega) (by first | decide | omega) (by decide)
        have q1239 : h1131 78 4 = h1126 78 4 := by rw [← e1133]; exact x_up_i (by first | decide | omega)
        have q1240 : h1126 78 4 = h1121 78 4 := by rw [← e1128]; exact x_up_i (by first | decide | omega)
        have q1241 : h1121 78 4 = h577 78 4 := by rw [← e1123]; exact x_up_i (by first | decide | omega)
        have q1242 : h577 78 4 = h468 78 4 := jK 0 f579 rg_78_4_0_1 (by first | decide | omega) (by first | decide | omega) (by decide)
        have q1243 : h468 78 4 = h453 78 4 := by rw [← e470]; exact x_up_i (by first | decide | omega)
        have q1244 : h453 78 4 = h362 78 4 := jK 0 f455 rg_78_4_0_1 (by first | decide | omega) (by first | decide | omega) (by decide)
        have q1245 : h362 78 4 = h278 78 4 := jK 0 f364 rg_78_4_0_1 (by first | decide | omega) (by first | decide | omega) (by decide)
        have q1246 : h278 78 4 = h263 78 4 := by rw [← e280]; exact x_up_i (by first | decide | omega)
        have q1247 : h263 78 4 = h196 78 4 := jK 0 f265 rg_78_4_0_1 (by first | decide | omega) (by first | decide | omega) (by decide)
        have q1248 : h196 78 4 = h136 78 4 := jK 0 f198 rg_78_4_0_1 (by first | decide | omega) (by first | decide | omega) (by decide)
        have q1249 : h136 78 4 = h121 78 4 := by rw [← e138]; exact x_up_i (by first | decide | omega)
        have q1250 : h121 78 4 = h71 78 4 := jK 0 f123 rg_78_4_0_1 (by first | decide | omega) (by first | decide | omega) (by decide)
        have q1251 : h71 78 4 = h35 78 4 := jK 0 f73 rg_78_4_0_1 (by first | decide | omega) (by first | decide | omega) (by decide)
        have q1252 : h35 78 4 = h19 78 4 := by rw [← e37]; exact x_up_i (by first | decide | omega)
        have q1253 : h19 78 4 = h 78 4 := jK 0 f21 rg_78_4_0_1 (by first | decide | omega) (by first | decide | omega) (by decide)
        have b1254 := jB (e := 5) 0 hJ rg_78_5_0_1 (by first | decide | omega) (by first | decide | omega)
        have q1255 : h1178 78 5 = h1142 78 5 := by rw [← e1180]; exact x_up_i (by first | decide | omega)
        have q1256 : h1142 78 5 = h1131 78 5 := jK 0 f1144 rg_78_5_0_1 (by first | decide | omega) (by first | decide | omega) (by decide)
        have q1257 : h1131 78 5 = h1126 78 5 := by rw [← e1133]; exact x_up_i (by first | decide | omega)
        have q1258 : h1126 78 5 = h1121 78 5 := by rw [← e1128]; exact x_up_i (by first | decide | omega)
        have q1259 : h1121 78 5 = h577 78 5 := by rw [← e1123]; exact x_up_i (by first | decide | omega)
        have q1260 : h577 78 5 = h468 78 5 := jK 0 f579 rg_78_5_0_1 (by first | decide | omega) (by first | decide | omega) (by decide)
        have q1261 : h468 78 5 = h453 78 5 := by rw [← e470]; exact x_up_i (by first | decide | omega)
        have q1262 : h453 78 5 = h362 78 5 := jK 0 f455 rg_78_5_0_1 (by first | decide | omega) (by first | decide | omega) (by decide)
        have q1263 : h362 78 5 = h278 78 5 := jK 0 f364 rg_78_5_0_1 (by first | decide | omega) (by first | decide | omega) (by decide)
        have q1264 : h278 78 5 = h263 78 5 := by rw [← e280]; exact x_up_i (by first | decide | omega)
        have q1265 : h263 78 5 = h196 78 5 := jK 0 f265 rg_78_5_0_1 (by first | decide | omega) (by first | decide | omega) (by decide)
        have q1266 : h196 78 5 = h136 78 5 := jK 0 f198 rg_78_5_0_1 (by first | decide | omega) (by first | decide | omega) (by decide)
        have q1267 : h136 78 5 = h121 78 5 := by rw [← e138]; exact x_up_i (by first | decide | omega)
        have q1268 : h121 78 5 = h71 78 5 := jK 0 f123 rg_78_5_0_1 (by first | decide | omega) (by first | decide | omega) (by decide)
        have q1269 : h71 78 5 = h35 78 5 := jK 0 f73 rg_78_5_0_1 (by first | decide | omega) (by first | decide | omega) (by decide)
        have q1270 : h35 78 5 = h19 78 5 := by rw [← e37]; exact x_up_i (by first | decide | omega)
        have q1271 : h19 78 5 = h 78 5 := jK 0 f21 rg_78_5_0_1 (by first | decide | omega) (by first | decide | omega) (by decide)
        have m1288 := Cl.fr hC f21 (by decide)
        have m1287 : Cl h35 := by rw [← e37]; exact Cl.upR (e := (20 + 7 * u8)) (v := v16) u8 m1288 rg_76_20_7_20 (by first | decide | omega) (by first | decide | omega) (by first | decide | omega)
        have m1286 := Cl.fr m1287 f73 (by decide)
        have m1285 := Cl.fr m1286 f123 (by decide)
        have m1284 : Cl h136 := by rw [← e138]; exact Cl.upR (e := (21 + 7 * u8)) (v := v117) u8 m1285 rg_76_21_7_20 (by first | decide | omega) (by first | decide | omega) (by first | decide | omega)
        have m1283 := Cl.fr m1284 f198 (by decide)
        have m1282 := Cl.fr m1283 f265 (by decide)
        have m1281 : Cl h278 := by rw [← e280]; exact Cl.upR (e := (22 + 7 * u8)) (v := v259) u8 m1282 rg_76_22_7_20 (by first | decide | omega) (by first | decide | omega) (by first | decide | omega)
        have m1280 := Cl.fr m1281 f364 (by decide)
        have m1279 := Cl.fr m1280 f455 (by decide)
        have m1278 : Cl h468 := by rw [← e470]; exact Cl.upR (e := (23 + 7 * u8)) (v := v449) u8 m1279 rg_76_23_7_20 (by first | decide | omega) (by first | decide | omega) (by first | decide | omega)
        have m1277 := Cl.fr m1278 f579 (by decide)
        have m1276 : Cl h1121 := by rw [← e1123]; exact Cl.upR (e := (24 + 7 * u8)) (v := 2147483649) u8 m1277 rg_76_24_7_20 (by first | decide | omega) (by first | decide | omega) (by first | decide | omega)
        have m1275 : Cl h1126 := by rw [← e1128]; exact Cl.upR (e := (25 + 7 * u8)) (v := 2147483648) u8 m1276 rg_76_25_7_20 (by first | decide | omega) (by first | decide | omega) (by first | decide | omega)
        have m1274 : Cl h1131 := by rw [← e1133]; exact Cl.upR (e := (26 + 7 * u8)) (v := 2147483648) u8 m1275 rg_76_26_7_20 (by first | decide | omega) (by first | decide | omega) (by first | decide | omega)
        have m1273 := Cl.fr m1274 f1144 (by decide)
        have m1272 : Cl h1178 := by rw [← e1180]; exact Cl.upR (e := 2) (v := (1 + (h 78 2))) 0 m1273 rg_76_2_0_1 (by first | decide | omega) (by first | decide | omega) (by first | decide | omega)
        have q1289 : h35 75 7 = h19 75 7 := by rw [← e37]; exact x_up_k (by decide)
        obtain ⟨w1290, e1291⟩ := Tw.yes c77 (by first | decide | omega)
        have q1292 : h136 75 7 = h121 75 7 := by rw [← e138]; exact x_up_k (by decide)
        obtain ⟨w1293, e1294⟩ := Tw.yes c202 (by first | decide | omega)
        have q1295 : h278 75 7 = h263 75 7 := by rw [← e280]; exact x_up_k (by decide)
        obtain ⟨w1296, e1297⟩ := Tw.yes c368 (by first | decide | omega)
        have q1298 : h468 75 7 = h453 75 7 := by rw [← e470]; exact x_up_k (by decide)
        obtain ⟨w1299, e1300⟩ := Tk.yes c583 (by first | decide | omega)
        have q1301 : h1131 75 7 = h1126 75 7 := by rw [← e1133]; exact x_up_k (by decide)
        have q1302 : h1126 75 7 = h1121 75 7 := by rw [← e1128]; exact x_up_k (by decide)
        have q1303 : h1121 75 7 = h577 75 7 := by rw [← e1123]; exact x_up_k (by decide)
        obtain ⟨w1304, e1305⟩ := Tk.no c1148 (by first | decide | omega)
        have q1306 : h1178 75 7 = h1142 75 7 := by rw [← e1180]; exact x_up_k (by decide)
        refine x_retI (np := 183) (x := 0) (by decide +kernel) (by decide) (Or.inr ⟨by decide +kernel, by first | decide | omega, by first | decide | omega⟩) ⟨_, rfl, (by decide), ?_⟩
        exact ⟨j1179, f1181, (by first | decide | omega), (fun z => by first | decide | omega), (fun z => by first | decide | omega), (fun z => by first | decide | omega), (fun z => by first | decide | omega), (fun z => by first | decide | omega), (fun z => by first | decide | omega), (fun _ => m1272), (Or.inr ⟨by first | decide | omega, (nm9.y c28 (by first | decide | omega) (by first | decide | omega) rfl (by first | decide | omega) rfl (wd9.y w1290 (congrArg (sk tB tN) (show h35 75 7 = h19 75 7 by first | decide | omega)) e1291 rfl (nm9.y c130 (by first | decide | omega) (by first | decide | omega) rfl (by first | decide | omega) rfl (wd9.y w1293 (congrArg (sk tB tN) (show h136 75 7 = h121 75 7 by first | decide | omega)) e1294 rfl (nm9.y c272 (by first | decide | omega) (by first | decide | omega) rfl (by first | decide | omega) rfl (wd9.y w1296 (congrArg (sk tB tN) (show h278 75 7 = h263 75 7 by first | decide | omega)) e1297 rfl (nm9.y c462 (by first | decide | omega) (by first | decide | omega) rfl (by first | decide | omega) rfl (or9.y w1299 (congrArg (sk tB tN) (show h468 75 7 = h453 75 7 by first | decide | omega)) e1300 rfl (or9.f w1304 (congrArg (sk tB tN) (show h1131 75 7 = h577 75 7 by first | decide | omega)) (Eq.trans e1305 (congrArg (sk tB tN) (show h1131 75 7 = h577 75 7 by first | decide | omega))) (fin9.mk (by first | decide | omega) (congrArg (sk tB tN) (show h1142 75 7 = h1178 75 7 by first | decide | omega))))))))))))⟩), (fun z => absurd z (by first | decide | omega))⟩
      have q1159 : ¬ (v1135 = 2147483648) := q1159
      have b1307 := c1147 (by first | decide | omega)
      refine x_aload (np := 152) (x := 0) (by decide +kernel) rfl (x_nc_le (by decide)) ?_
      refine x_iload (np := 153) (x := 1) (by decide +kernel) rfl (by first | decide | omega) ?_
      refine x_const (np := 154) (x := 9223372060477095941) (a := 2147483653) (by decide +kernel) (by decide) (by decide) ?_
      refine x_iadd (np := 155) (x := 0) (v := (2147483673 + 7 * u8)) (by decide +kernel) (by first | decide | omega) (by decide) (by first | decide | omega) (by first | decide | omega) ?_
      refine x_aload (np := 156) (x := 0) (by decide +kernel) rfl (x_nc_le (by decide)) ?_
      refine x_const (np := 157) (x := 9223372039002259456) (a := 2147483648) (by decide +kernel) (by decide) (by decide) ?_
      refine x_const (np := 160) (x := 9223376329674589159) (a := 2147484647) (by decide +kernel) (by decide) (by decide) ?_
      have m1311 := Tq.fr m1138 f1144 (by decide) (by decide)
      refine x_cI (t := 6) (mj := 174) (n := 3) (rc := 12) (ml := 4) (nr := 2) (np := 163) (as := [x_r 75, iv_c 2147483648, iv_c 2147484647]) (rest := [iv_c (2147483673 + 7 * u8), x_r 75]) (lo1 := [x_r 75, iv_c 2147483648, iv_c 2147484647, 147573952589676412928]) (by decide +kernel) (by decide) (by decide +kernel) (x_rb_of (by decide +kernel)) rfl rfl (x_wr (by decide) (x_wi (by decide) (x_wi (by decide) x_wn))) (x_wi (by first | decide | omega) (x_wr (by decide) x_wn)) (by decide) rfl (c174_75 j1143  (by first | decide | omega) (by first | decide | omega) m1311) (fun v1308 h1312 l1309 q1310 => ?_)
      obtain ⟨j1313, f1314, b1315, c1316, c1317, c1318, c1319, c1320, c1321, c1322⟩ := q1310
      have f1323 := Fr.trans f1150 f1314 (by decide)
      have b1324 := jB (e := 7) 0 j1313 rg_75_7_0_1 (by first | decide | omega) (by first | decide | omega)
      have b1325 := c1320 (by first | decide | omega)
      refine x_nI (t := 6) (mj := 176) (n := 3) (rc := 12) (ml := 3) (nr := 0) (np := 166) (as := [x_r 75, iv_c (2147483673 + 7 * u8), iv_c v1308]) (rest := []) (lo1 := [x_r 75, iv_c (2147483673 + 7 * u8), iv_c v1308]) (by decide +kernel) (by decide) (by decide +kernel) (x_rb_of (by decide +kernel)) rfl rfl (x_wr (by decide) (x_wi (by first | decide | omega) (x_wi l1309 x_wn))) x_wn (by decide) rfl ?_
      refine x_aload (np := 1) (x := 0) (by decide +kernel) rfl (x_nc_le (by decide)) ?_
      have q1326 : h1312 75 3 = 78 := by have z := jB (e := 3) 0 j1313 rg_75_3_0_1 (by decide) (by decide); omega
      refine x_getR (np := 4) (x := 707) (f := 3) (q := 78) (by decide +kernel) (by decide) (by decide +kernel) q1326 ?_
      refine x_iload (np := 5) (x := 1) (by decide +kernel) rfl (by first | decide | omega) ?_
      refine x_iload (np := 6) (x := 2) (by decide +kernel) rfl l1309 ?_
      refine x_ast (np := 7) (x := 0) (kd := 1) (n := 290) (i := (25 + 7 * u8)) (by decide +kernel) (Or.inl rfl) (by decide +kernel) (by first | decide | omega) (by first | decide | omega) (by decide) l1309 (fun z => absurd z (by decide)) ?_
      have j1328 := jU (e := (25 + 7 * u8)) (v := v1308) u8 j1313 rg_78_25_7_20 (by first | decide | omega) (by first | decide | omega) (by first | decide | omega)
      have f1330 := jF (e := (25 + 7 * u8)) (v := v1308) u8 f1323 rg_78_25_7_20 (by first | decide | omega) (by first | decide | omega) (by decide)
      generalize e1329 : x_up h1312 78 (25 + 7 * u8) v1308 = h1327 at j1328 f1330 ⊢
      refine x_iload (np := 8) (x := 2) (by decide +kernel) rfl l1309 ?_
      refine x_ifz (k := 2) (tg := 15) (np := 11) (by decide +kernel) (by decide) l1309 (fun q1331 => ?_) (fun q1332 => ?_)
      · have q1331 : v1308 < 2147483648 := q1331
        refine x_const (np := 16) (x := 9223372039002259456) (a := 2147483648) (by decide +kernel) (by decide) (by decide) ?_
        refine x_retI (np := 17) (x := 0) (by decide +kernel) (by decide) (Or.inr ⟨by decide +kernel, by first | decide | omega, by first | decide | omega⟩) ⟨_, rfl, (by decide), ?_⟩
        refine x_ifz (k := 1) (tg := 171) (np := 169) (by decide +kernel) (by decide) (by decide) (fun q1333 => ?_) (fun q1334 => ?_)
        · have q1333 : 2147483648 ≠ 2147483648 := q1333
          exfalso; omega
        have q1334 : ¬ (2147483648 ≠ 2147483648) := q1334
        refine x_const (np := 170) (x := 9223372039002259456) (a := 2147483648) (by decide +kernel) (by decide) (by decide) ?_
        have b1335 := jB (e := 0) 0 hJ rg_78_0_0_1 (by first | decide | omega) (by first | decide | omega)
        have q1336 : h1327 78 0 = h1312 78 0 := by rw [← e1329]; exact x_up_i (by first | decide | omega)
        have q1337 : h1312 78 0 = h1142 78 0 := jK 0 f1314 rg_78_0_0_1 (by first | decide | omega) (by first | decide | omega) (by decide)
        have q1338 : h1142 78 0 = h1131 78 0 := jK 0 f1144 rg_78_0_0_1 (by first | decide | omega) (by first | decide | omega) (by decide)
        have q1339 : h1131 78 0 = h1126 78 0 := by rw [← e1133]; exact x_up_i (by first | decide | omega)
        have q1340 : h1126 78 0 = h1121 78 0 := by rw [← e1128]; exact x_up_i (by first | decide | omega)
        have q1341 : h1121 78 0 = h577 78 0 := by rw [← e1123]; exact x_up_i (by first | decide | omega)
        have q1342 : h577 78 0 = h468 78 0 := jK 0 f579 rg_78_0_0_1 (by first | decide | omega) (by first | decide | omega) (by decide)
        have q1343 : h468 78 0 = h453 78 0 := by rw [← e470]; exact x_up_i (by first | decide | omega)
        have q1344 : h453 78 0 = h362 78 0 := jK 0 f455 rg_78_0_0_1 (by first | decide | omega) (by first | decide | omega) (by decide)
        have q1345 : h362 78 0 = h278 78 0 := jK 0 f364 rg_78_0_0_1 (by first | decide | omega) (by first | decide | omega) (by decide)
        have q1346 : h278 78 0 = h263 78 0 := by rw [← e280]; exact x_up_i (by first | decide | omega)
        have q1347 : h263 78 0 = h196 78 0 := jK 0 f265 rg_78_0_0_1 (by first | decide | omega) (by first | decide | omega) (by decide)
        have q1348 : h196 78 0 = h136 78 0 := jK 0 f198 rg_78_0_0_1 (by first | decide | omega) (by first | decide | omega) (by decide)
        have q1349 : h136 78 0 = h121 78 0 := by rw [← e138]; exact x_up_i (by first | decide | omega)
        have q1350 : h121 78 0 = h71 78 0 := jK 0 f123 rg_78_0_0_1 (by first | decide | omega) (by first | decide | omega) (by decide)
        have q1351 : h71 78 0 = h35 78 0 := jK 0 f73 rg_78_0_0_1 (by first | decide | omega) (by first | decide | omega) (by decide)
        have q1352 : h35 78 0 = h19 78 0 := by rw [← e37]; exact x_up_i (by first | decide | omega)
        have q1353 : h19 78 0 = h 78 0 := jK 0 f21 rg_78_0_0_1 (by first | decide | omega) (by first | decide | omega) (by decide)
        have q1354 : h1327 78 1 = h1312 78 1 := by rw [← e1329]; exact x_up_i (by first | decide | omega)
        have q1355 : h1312 78 1 = h1142 78 1 := jK 0 f1314 rg_78_1_0_1 (by first | decide | omega) (by first | decide | omega) (by decide)
        have q1356 : h1142 78 1 = h1131 78 1 := jK 0 f1144 rg_78_1_0_1 (by first | decide | omega) (by first | decide | omega) (by decide)
        have q1357 : h1131 78 1 = h1126 78 1 := by rw [← e1133]; exact x_up_i (by first | decide | omega)
        have q1358 : h1126 78 1 = h1121 78 1 := by rw [← e1128]; exact x_up_i (by first | decide | omega)
        have q1359 : h1121 78 1 = h577 78 1 := by rw [← e1123]; exact x_up_i (by first | decide | omega)
        have q1360 : h577 78 1 = h468 78 1 := jK 0 f579 rg_78_1_0_1 (by first | decide | omega) (by first | decide | omega) (by decide)
        have q1361 : h468 78 1 = h453 78 1 := by rw [← e470]; exact x_up_i (by first | decide | omega)
        have q1362 : h453 78 1 = h362 78 1 := jK 0 f455 rg_78_1_0_1 (by first | decide | omega) (by first | decide | omega) (by decide)
        have q1363 : h362 78 1 = h278 78 1 := jK 0 f364 rg_78_1_0_1 (by first | decide | omega) (by first | decide | omega) (by decide)
        have q1364 : h278 78 1 = h263 78 1 := by rw [← e280]; exact x_up_i (by first | decide | omega)
        have q1365 : h263 78 1 = h196 78 1 := jK 0 f265 rg_78_1_0_1 (by first | decide | omega) (by first | decide | omega) (by decide)
        have q1366 : h196 78 1 = h136 78 1 := jK 0 f198 rg_78_1_0_1 (by first | decide | omega) (by first | decide | omega) (by decide)
        have q1367 : h136 78 1 = h121 78 1 := by rw [← e138]; exact x_up_i (by first | decide | omega)
        have q1368 : h121 78 1 = h71 78 1 := jK 0 f123 rg_78_1_0_1 (by first | decide | omega) (by first | decide | omega) (by decide)
        have q1369 : h71 78 1 = h35 78 1 := jK 0 f73 rg_78_1_0_1 (by first | decide | omega) (by first | decide | omega) (by decide)
        have q1370 : h35 78 1 = h19 78 1 := by rw [← e37]; exact x_up_i (by first | decide | omega)
        have q1371 : h19 78 1 = h 78 1 := jK 0 f21 rg_78_1_0_1 (by first | decide | omega) (by first | decide | omega) (by decide)
        have q1372 : h1327 78 2 = h1312 78 2 := by rw [← e1329]; exact x_up_i (by first | decide | omega)
        have q1373 : h1312 78 2 = h1142 78 2 := jK 0 f1314 rg_78_2_0_1 (by first | decide | omega) (by first | decide | omega) (by decide)
        have q1374 : h1142 78 2 = h1131 78 2 := jK 0 f1144 rg_78_2_0_1 (by first | decide | omega) (by first | decide | omega) (by decide)
        have q1375 : h1131 78 2 = h1126 78 2 := by rw [← e1133]; exact x_up_i (by first | decide | omega)
        have q1376 : h1126 78 2 = h1121 78 2 := by rw [← e1128]; exact x_up_i (by first | decide | omega)
        have q1377 : h1121 78 2 = h577 78 2 := by rw [← e1123]; exact x_up_i (by first | decide | omega)
        have q1378 : h577 78 2 = h468 78 2 := jK 0 f579 rg_78_2_0_1 (by first | decide | omega) (by first | decide | omega) (by decide)
        have q1379 : h468 78 2 = h453 78 2 := by rw [← e470]; exact x_up_i (by first | decide | omega)
        have q1380 : h453 78 2 = h362 78 2 := jK 0 f455 rg_78_2_0_1 (by first | decide | omega) (by first | decide | omega) (by decide)
        have q1381 : h362 78 2 = h278 78 2 := jK 0 f364 rg_78_2_0_1 (by first | decide | omega) (by first | decide | omega) (by decide)
        have q1382 : h278 78 2 = h263 78 2 := by rw [← e280]; exact x_up_i (by first | decide | omega)
        have q1383 : h263 78 2 = h196 78 2 := jK 0 f265 rg_78_2_0_1 (by first | decide | omega) (by first | decide | omega) (by decide)
        have q1384 : h196 78 2 = h136 78 2 := jK 0 f198 rg_78_2_0_1 (by first | decide | omega) (by first | decide | omega) (by decide)
        have q1385 : h136 78 2 = h121 78 2 := by rw [← e138]; exact x_up_i (by first | decide | omega)
        have q1386 : h121 78 2 = h71 78 2 := jK 0 f123 rg_78_2_0_1 (by first | decide | omega) (by first | decide | omega) (by decide)
        have q1387 : h71 78 2 = h35 78 2 := jK 0 f73 rg_78_2_0_1 (by first | decide | omega) (by first | decide | omega) (by decide)
        have q1388 : h35 78 2 = h19 78 2 := by rw [← e37]; exact x_up_i (by first | decide | omega)
        have q1389 : h19 78 2 = h 78 2 := jK 0 f21 rg_78_2_0_1 (by first | decide | omega) (by first | decide | omega) (by decide)
        have b1390 := jB (e := 3) 0 hJ rg_78_3_0_1 (by first | decide | omega) (by first | decide | omega)
        have q1391 : h1327 78 3 = h1312 78 3 := by rw [← e1329]; exact x_up_i (by first | decide | omega)
        have q1392 : h1312 78 3 = h1142 78 3 := jK 0 f1314 rg_78_3_0_1 (by first | decide | omega) (by first | decide | omega) (by decide)
        have q1393 : h1142 78 3 = h1131 78 3 := jK 0 f1144 rg_78_3_0_1 (by first | decide | omega) (by first | decide | omega) (by decide)
        have q1394 : h1131 78 3 = h1126 78 3 := by rw [← e1133]; exact x_up_i (by first | decide | omega)
        have q1395 : h1126 78 3 = h1121 78 3 := by rw [← e1128]; exact x_up_i (by first | decide | omega)
        have q1396 : h1121 78 3 = h577 78 3 := by rw [← e1123]; exact x_up_i (by first | decide | omega)
        have q1397 : h577 78 3 = h468 78 3 := jK 0 f579 rg_78_3_0_1 (by first | decide | omega) (by first | decide | omega) (by decide)
        have q1398 : h468 78 3 = h453 78 3 := by rw [← e470]; exact x_up_i (by first | decide | omega)
        have q1399 : h453 78 3 = h362 78 3 := jK 0 f455 rg_78_3_0_1 (by first | decide | omega) (by first | decide | omega) (by decide)
        have q1400 : h362 78 3 = h278 78 3 := jK 0 f364 rg_78_3_0_1 (by first | decide | omega) (by first | decide | omega) (by decide)
        have q1401 : h278 78 3 = h263 78 3 := by rw [← e280]; exact x_up_i (by first | decide | omega)
        have q1402 : h263 78 3 = h196 78 3 := jK 0 f265 rg_78_3_0_1 (by first | decide | omega) (by first | decide | omega) (by decide)
        have q1403 : h196 78 3 = h136 78 3 := jK 0 f198 rg_78_3_0_1 (by first | decide | omega) (by first | decide | omega) (by decide)
        have q1404 : h136 78 3 = h121 78 3 := by rw [← e138]; exact x_up_i (by first | decide | omega)
        have q1405 : h121 78 3 = h71 78 3 := jK 0 f123 rg_78_3_0_1 (by first | decide | omega) (by first | decide | omega) (by decide)
        have q1406 : h71 78 3 = h35 78 3 := jK 0 f73 rg_78_3_0_1 (by first | decide | omega) (by first | decide | omega) (by decide)
        have q1407 : h35 78 3 = h19 78 3 := by rw [← e37]; exact x_up_i (by first | decide | omega)
        have q1408 : h19 78 3 = h 78 3 := jK 0 f21 rg_78_3_0_1 (by first | decide | omega) (by first | decide | omega) (by decide)
        have b1409 := jB (e := 4) 0 hJ rg_78_4_0_1 (by first | decide | omega) (by first | decide | omega)
        have q1410 : h1327 78 4 = h1312 78 4 := by rw [← e1329]; exact x_up_i (by first | decide | omega)
        have q1411 : h1312 78 4 = h1142 78 4 := jK 0 f1314 rg_78_4_0_1 (by first | decide | omega) (by first | decide | omega) (by decide)
        have q1412 : h1142 78 4 = h1131 78 4 := jK 0 f1144 rg_78_4_0_1 (by first | decide | omega) (by first | decide | omega) (by decide)
        have q1413 : h1131 78 4 = h1126 78 4 := by rw [← e1133]; exact x_up_i (by first | decide | omega)
        have q1414 : h1126 78 4 = h1121 78 4 := by rw [← e1128]; exact x_up_i (by first | decide | omega)
        have q1415 : h1121 78 4 = h577 78 4 := by rw [← e1123]; exact x_up_i (by first | decide | omega)
        have q1416 : h577 78 4 = h468 78 4 := jK 0 f579 rg_78_4_0_1 (by first | decide | omega) (by first | decide | omega) (by decide)
        have q1417 : h468 78 4 = h453 78 4 := by rw [← e470]; exact x_up_i (by first | decide | omega)
        have q1418 : h453 78 4 = h362 78 4 := jK 0 f455 rg_78_4_0_1 (by first | decide | omega) (by first | decide | omega) (by decide)
        have q1419 : h362 78 4 = h278 78 4 := jK 0 f364 rg_78_4_0_1 (by first | decide | omega) (by first | decide | omega) (by decide)
        have q1420 : h278 78 4 = h263 78 4 := by rw [← e280]; exact x_up_i (by first | decide | omega)
        have q1421 : h263 78 4 = h196 78 4 := jK 0 f265 rg_78_4_0_1 (by first | decide | omega) (by first | decide | omega) (by decide)
        have q1422 : h196 78 4 = h136 78 4 := jK 0 f198 rg_78_4_0_1 (by first | decide | omega) (by first | decide | omega) (by decide)
        have q1423 : h136 78 4 = h121 78 4 := by rw [← e138]; exact x_up_i (by first | decide | omega)
        have q1424 : h121 78 4 = h71 78 4 := jK 0 f123 rg_78_4_0_1 (by first | decide | omega) (by first | decide | omega) (by decide)
        have q1425 : h71 78 4 = h35 78 4 := jK 0 f73 rg_78_4_0_1 (by first | decide | omega) (by first | decide | omega) (by decide)
        have q1426 : h35 78 4 = h19 78 4 := by rw [← e37]; exact x_up_i (by first | decide | omega)
        have q1427 : h19 78 4 = h 78 4 := jK 0 f21 rg_78_4_0_1 (by first | decide | omega) (by first | decide | omega) (by decide)
        have b1428 := jB (e := 5) 0 hJ rg_78_5_0_1 (by first | decide | omega) (by first | decide | omega)
        have q1429 : h1327 78 5 = h1312 78 5 := by rw [← e1329]; exact x_up_i (by first | decide | omega)
        have q1430 : h1312 78 5 = h1142 78 5 := jK 0 f1314 rg_78_5_0_1 (by first | decide | omega) (by first | decide | omega) (by decide)
        have q1431 : h1142 78 5 = h1131 78 5 := jK 0 f1144 rg_78_5_0_1 (by first | decide | omega) (by first | decide | omega) (by decide)
        have q1432 : h1131 78 5 = h1126 78 5 := by rw [← e1133]; exact x_up_i (by first | decide | omega)
        have q1433 : h1126 78 5 = h1121 78 5 := by rw [← e1128]; exact x_up_i (by first | decide | omega)
        have q1434 : h1121 78 5 = h577 78 5 := by rw [← e1123]; exact x_up_i (by first | decide | omega)
        have q1435 : h577 78 5 = h468 78 5 := jK 0 f579 rg_78_5_0_1 (by first | decide | omega) (by first | decide | omega) (by decide)
        have q1436 : h468 78 5 = h453 78 5 := by rw [← e470]; exact x_up_i (by first | decide | omega)
        have q1437 : h453 78 5 = h362 78 5 := jK 0 f455 rg_78_5_0_1 (by first | decide | omega) (by first | decide | omega) (by decide)
        have q1438 : h362 78 5 = h278 78 5 := jK 0 f364 rg_78_5_0_1 (by first | decide | omega) (by first | decide | omega) (by decide)
        have q1439 : h278 78 5 = h263 78 5 := by rw [← e280]; exact x_up_i (by first | decide | omega)
        have q1440 : h263 78 5 = h196 78 5 := jK 0 f265 rg_78_5_0_1 (by first | decide | omega) (by first | decide | omega) (by decide)
        have q1441 : h196 78 5 = h136 78 5 := jK 0 f198 rg_78_5_0_1 (by first | decide | omega) (by first | decide | omega) (by decide)
        have q1442 : h136 78 5 = h121 78 5 := by rw [← e138]; exact x_up_i (by first | decide | omega)
        have q1443 : h121 78 5 = h71 78 5 := jK 0 f123 rg_78_5_0_1 (by first | decide | omega) (by first | decide | omega) (by decide)
        have q1444 : h71 78 5 = h35 78 5 := jK 0 f73 rg_78_5_0_1 (by first | decide | omega) (by first | decide | omega) (by decide)
        have q1445 : h35 78 5 = h19 78 5 := by rw [← e37]; exact x_up_i (by first | decide | omega)
        have q1446 : h19 78 5 = h 78 5 := jK 0 f21 rg_78_5_0_1 (by first | decide | omega) (by first | decide | omega) (by decide)
        have q1447 : h35 75 7 = h19 75 7 := by rw [← e37]; exact x_up_k (by decide)
        obtain ⟨w1448, e1449⟩ := Tw.yes c77 (by first | decide | omega)
        have q1450 : h136 75 7 = h121 75 7 := by rw [← e138]; exact x_up_k (by decide)
        obtain ⟨w1451, e1452⟩ := Tw.yes c202 (by first | decide | omega)
        have q1453 : h278 75 7 = h263 75 7 := by rw [← e280]; exact x_up_k (by decide)
        obtain ⟨w1454, e1455⟩ := Tw.yes c368 (by first | decide | omega)
        have q1456 : h468 75 7 = h453 75 7 := by rw [← e470]; exact x_up_k (by decide)
        obtain ⟨w1457, e1458⟩ := Tk.yes c583 (by first | decide | omega)
        have q1459 : h1131 75 7 = h1126 75 7 := by rw [← e1133]; exact x_up_k (by decide)
        have q1460 : h1126 75 7 = h1121 75 7 := by rw [← e1128]; exact x_up_k (by decide)
        have q1461 : h1121 75 7 = h577 75 7 := by rw [← e1123]; exact x_up_k (by decide)
        obtain ⟨w1462, e1463⟩ := Tk.yes c1148 (by first | decide | omega)
        have q1464 : h35 75 7 = h19 75 7 := by rw [← e37]; exact x_up_k (by decide)
        obtain ⟨w1465, e1466⟩ := Tw.yes c77 (by first | decide | omega)
        have q1467 : h136 75 7 = h121 75 7 := by rw [← e138]; exact x_up_k (by decide)
        obtain ⟨w1468, e1469⟩ := Tw.yes c202 (by first | decide | omega)
        have q1470 : h278 75 7 = h263 75 7 := by rw [← e280]; exact x_up_k (by decide)
        obtain ⟨w1471, e1472⟩ := Tw.yes c368 (by first | decide | omega)
        have q1473 : h468 75 7 = h453 75 7 := by rw [← e470]; exact x_up_k (by decide)
        obtain ⟨w1474, e1475⟩ := Tk.yes c583 (by first | decide | omega)
        have q1476 : h1131 75 7 = h1126 75 7 := by rw [← e1133]; exact x_up_k (by decide)
        have q1477 : h1126 75 7 = h1121 75 7 := by rw [← e1128]; exact x_up_k (by decide)
        have q1478 : h1121 75 7 = h577 75 7 := by rw [← e1123]; exact x_up_k (by decide)
        obtain ⟨w1479, e1480⟩ := Tk.yes c1148 (by first | decide | omega)
        have q1481 : h1327 75 9 = h1312 75 9 := by rw [← e1329]; exact x_up_k (by decide)
        have b1482 := jB (e := 9) 0 j1313 rg_75_9_0_1 (by first | decide | omega) (by first | decide | omega)
        refine x_retI (np := 171) (x := 0) (by decide +kernel) (by decide) (Or.inr ⟨by decide +kernel, by first | decide | omega, by first | decide | omega⟩) ⟨_, rfl, (by decide), ?_⟩
        exact ⟨j1328, f1330, (by first | decide | omega), (fun z => by first | decide | omega), (fun z => by first | decide | omega), (fun z => by first | decide | omega), (fun z => by first | decide | omega), (fun z => by first | decide | omega), (fun z => by first | decide | omega), (fun z => absurd z (by first | decide | omega)), (Or.inr ⟨by first | decide | omega, (nm9.y c28 (by first | decide | omega) (by first | decide | omega) rfl (by first | decide | omega) rfl (wd9.y w1448 (congrArg (sk tB tN) (show h35 75 7 = h19 75 7 by first | decide | omega)) e1449 rfl (nm9.y c130 (by first | decide | omega) (by first | decide | omega) rfl (by first | decide | omega) rfl (wd9.y w1451 (congrArg (sk tB tN) (show h136 75 7 = h121 75 7 by first | decide | omega)) e1452 rfl (nm9.y c272 (by first | decide | omega) (by first | decide | omega) rfl (by first | decide | omega) rfl (wd9.y w1454 (congrArg (sk tB tN) (show h278 75 7 = h263 75 7 by first | decide | omega)) e1455 rfl (nm9.y c462 (by first | decide | omega) (by first | decide | omega) rfl (by first | decide | omega) rfl (or9.y w1457 (congrArg (sk tB tN) (show h468 75 7 = h453 75 7 by first | decide | omega)) e1458 rfl (or9.y w1462 (congrArg (sk tB tN) (show h1131 75 7 = h577 75 7 by first | decide | omega)) e1463 rfl (nm9.f c1321 (by first | decide | omega) (by first | decide | omega) rfl (by first | decide | omega) (by first | decide | omega)))))))))))⟩), (fun _ => Or.inr ⟨by first | decide | omega, (mF.y c28 (by first | decide | omega) (by first | decide | omega) rfl (by first | decide | omega) rfl (wF.y w1465 (congrArg (sk tB tN) (show h35 75 7 = h19 75 7 by first | decide | omega)) e1466 rfl (mF.y c130 (by first | decide | omega) (by first | decide | omega) rfl (by first | decide | omega) rfl (wF.y w1468 (congrArg (sk tB tN) (show h136 75 7 = h121 75 7 by first | decide | omega)) e1469 rfl (mF.y c272 (by first | decide | omega) (by first | decide | omega) rfl (by first | decide | omega) rfl (wF.y w1471 (congrArg (sk tB tN) (show h278 75 7 = h263 75 7 by first | decide | omega)) e1472 rfl (mF.y c462 (by first | decide | omega) (by first | decide | omega) rfl (by first | decide | omega) rfl (oF.y w1474 (congrArg (sk tB tN) (show h468 75 7 = h453 75 7 by first | decide | omega)) e1475 rfl (oF.y w1479 (congrArg (sk tB tN) (show h1131 75 7 = h577 75 7 by first | decide | omega)) e1480 rfl (mF.no c1321 (by first | decide | omega) (by first | decide | omega) rfl (by first | decide | omega) (Eq.trans (show h1327 75 9 = h1312 75 9 by first | decide | omega) c1322)))))))))))⟩)⟩
      have q1332 : ¬ (v1308 < 2147483648) := q1332
      have b1483 := c1317 (by first | decide | omega)
      have b1484 := c1318 (by first | decide | omega)
      have b1485 := c1319 (by first | decide | omega)
      refine x_const (np := 12) (x := 9223372043297226753) (a := 2147483649) (by decide +kernel) (by decide) (by decide) ?_
      refine x_goto (np := 15) (x := 16) (by decide +kernel) ?_
      refine x_retI (np := 17) (x := 0) (by decide +kernel) (by decide) (Or.inr ⟨by decide +kernel, by first | decide | omega, by first | decide | omega⟩) ⟨_, rfl, (by decide), ?_⟩
      refine x_ifz (k := 1) (tg := 171) (np := 169) (by decide +kernel) (by decide) (by decide) (fun q1486 => ?_) (fun q1487 => ?_)
      · have q1486 : 2147483649 ≠ 2147483648 := q1486
        refine x_aload (np := 172) (x := 0) (by decide +kernel) rfl (x_nc_le (by decide)) ?_
        have q1488 : h1327 75 3 = 78 := by have z := jB (e := 3) 0 j1328 rg_75_3_0_1 (by decide) (by decide); omega
        refine x_getR (np := 175) (x := 707) (f := 3) (q := 78) (by decide +kernel) (by decide) (by decide +kernel) q1488 ?_
        refine x_const (np := 176) (x := 9223372047592194050) (a := 2147483650) (by decide +kernel) (by decide) (by decide) ?_
        refine x_dup2 (np := 177) (x := 0) (by decide +kernel) (by have z := (iw_c_lt (a := 2147483650) (by decide)).1; omega) (by have z := x_nc_le (k := 78) (by decide); unfold x_r; omega) ?_
        have q1489 : h1327 78 2 = h1312 78 2 := by rw [← e1329]; exact x_up_i (by first | decide | omega)
        have q1490 : h1312 78 2 = h1142 78 2 := jK 0 f1314 rg_78_2_0_1 (by first | decide | omega) (by first | decide | omega) (by decide)
        have q1491 : h1142 78 2 = h1131 78 2 := jK 0 f1144 rg_78_2_0_1 (by first | decide | omega) (by first | decide | omega) (by decide)
        have q1492 : h1131 78 2 = h1126 78 2 := by rw [← e1133]; exact x_up_i (by first | decide | omega)
        have q1493 : h1126 78 2 = h1121 78 2 := by rw [← e1128]; exact x_up_i (by first | decide | omega)
        have q1494 : h1121 78 2 = h577 78 2 := by rw [← e1123]; exact x_up_i (by first | decide | omega)
        have q1495 : h577 78 2 = h468 78 2 := jK 0 f579 rg_78_2_0_1 (by first | decide | omega) (by first | decide | omega) (by decide)
        have q1496 : h468 78 2 = h453 78 2 := by rw [← e470]; exact x_up_i (by first | decide | omega)
        have q1497 : h453 78 2 = h362 78 2 := jK 0 f455 rg_78_2_0_1 (by first | decide | omega) (by first | decide | omega) (by decide)
        have q1498 : h362 78 2 = h278 78 2 := jK 0 f364 rg_78_2_0_1 (by first | decide | omega) (by first | decide | omega) (by decide)
        have q1499 : h278 78 2 = h263 78 2 := by rw [← e280]; exact x_up_i (by first | decide | omega)
        have q1500 : h263 78 2 = h196 78 2 := jK 0 f265 rg_78_2_0_1 (by first | decide | omega) (by first | decide | omega) (by decide)
        have q1501 : h196 78 2 = h136 78 2 := jK 0 f198 rg_78_2_0_1 (by first | decide | omega) (by first | decide | omega) (by decide)
        have q1502 : h136 78 2 = h121 78 2 := by rw [← e138]; exact x_up_i (by first | decide | omega)
        have q1503 : h121 78 2 = h71 78 2 := jK 0 f123 rg_78_2_0_1 (by first | decide | omega) (by first | decide | omega) (by decide)
        have q1504 : h71 78 2 = h35 78 2 := jK 0 f73 rg_78_2_0_1 (by first | decide | omega) (by first | decide | omega) (by decide)
        have q1505 : h35 78 2 = h19 78 2 := by rw [← e37]; exact x_up_i (by first | decide | omega)
        have q1506 : h19 78 2 = h 78 2 := jK 0 f21 rg_78_2_0_1 (by first | decide | omega) (by first | decide | omega) (by decide)
        refine x_aldC (np := 178) (x := 0) (n := 290) (i := 2) (q := (h 78 2)) (by decide +kernel) (by decide +kernel) (by first | decide | omega) (by first | decide | omega) (by decide) (((((((((((((((((q1489.trans q1490).trans q1491).trans q1492).trans q1493).trans q1494).trans q1495).trans q1496).trans q1497).trans q1498).trans q1499).trans q1500).trans q1501).trans q1502).trans q1503).trans q1504).trans q1505).trans q1506) (fun l1507 => ?_)
        refine x_const (np := 179) (x := 9223372043297226753) (a := 2147483649) (by decide +kernel) (by decide) (by decide) ?_
        refine x_iadd (np := 180) (x := 0) (v := (1 + (h 78 2))) (by decide +kernel) l3 (by decide) (by first | decide | omega) (by first | decide | omega) ?_
        refine x_ast (np := 181) (x := 0) (kd := 1) (n := 290) (i := 2) (by decide +kernel) (Or.inl rfl) (by decide +kernel) (by first | decide | omega) (by first | decide | omega) (by decide) (by first | decide | omega) (fun z => absurd z (by decide)) ?_
        have j1509 := jU (e := 2) (v := (1 + (h 78 2))) 0 j1328 rg_78_2_0_1 (by first | decide | omega) (by first | decide | omega) (by first | decide | omega)
        have f1511 := jF (e := 2) (v := (1 + (h 78 2))) 0 f1330 rg_78_2_0_1 (by first | decide | omega) (by first | decide | omega) (by decide)
        generalize e1510 : x_up h1327 78 2 (1 + (h 78 2)) = h1508 at j1509 f1511 ⊢
        refine x_const (np := 182) (x := 9223372043297226753) (a := 2147483649) (by decide +kernel) (by decide) (by decide) ?_
        have b1512 := jB (e := 0) 0 hJ rg_78_0_0_1 (by first | decide | omega) (by first | decide | omega)
        have q1513 : h1508 78 0 = h1327 78 0 := by rw [← e1510]; exact x_up_i (by first | decide | omega)
        have q1514 : h1327 78 0 = h1312 78 0 := by rw [← e1329]; exact x_up_i (by first | decide | omega)
        have q1515 : h1312 78 0 = h1142 78 0 := jK 0 f1314 rg_78_0_0_1 (by first | decide | omega) (by first | decide | omega) (by decide)
        have q1516 : h1142 78 0 = h1131 78 0 := jK 0 f1144 rg_78_0_0_1 (by first | decide | omega) (by first | decide | omega) (by decide)
        have q1517 : h1131 78 0 = h1126 78 0 := by rw [← e1133]; exact x_up_i (by first | decide | omega)
        have q1518 : h1126 78 0 = h1121 78 0 := by rw [← e1128]; exact x_up_i (by first | decide | omega)
        have q1519 : h1121 78 0 = h577 78 0 := by rw [← e1123]; exact x_up_i (by first | decide | omega)
        have q1520 : h577 78 0 = h468 78 0 := jK 0 f579 rg_78_0_0_1 (by first | decide | omega) (by first | decide | omega) (by decide)
        have q1521 : h468 78 0 = h453 78 0 := by rw [← e470]; exact x_up_i (by first | decide | omega)
        have q1522 : h453 78 0 = h362 78 0 := jK 0 f455 rg_78_0_0_1 (by first | decide | omega) (by first | decide | omega) (by decide)
        have q1523 : h362 78 0 = h278 78 0 := jK 0 f364 rg_78_0_0_1 (by first | decide | omega) (by first | decide | omega) (by decide)
        have q1524 : h278 78 0 = h263 78 0 := by rw [← e280]; exact x_up_i (by first | decide | omega)
        have q1525 : h263 78 0 = h196 78 0 := jK 0 f265 rg_78_0_0_1 (by first | decide | omega) (by first | decide | omega) (by decide)
        have q1526 : h196 78 0 = h136 78 0 := jK 0 f198 rg_78_0_0_1 (by first | decide | omega) (by first | decide | omega) (by decide)
        have q1527 : h136 78 0 = h121 78 0 := by rw [← e138]; exact x_up_i (by first | decide | omega)
        have q1528 : h121 78 0 = h71 78 0 := jK 0 f123 rg_78_0_0_1 (by first | decide | omega) (by first | decide | omega) (by decide)
        have q1529 : h71 78 0 = h35 78 0 := jK 0 f73 rg_78_0_0_1 (by first | decide | omega) (by first | decide | omega) (by decide)
        have q1530 : h35 78 0 = h19 78 0 := by rw [← e37]; exact x_up_i (by first | decide | omega)
        have q1531 : h19 78 0 = h 78 0 := jK 0 f21 rg_78_0_0_1 (by first | decide | omega) (by first | decide | omega) (by decide)
        have q1532 : h1508 78 1 = h1327 78 1 := by rw [← e1510]; exact x_up_i (by first | decide | omega)
        have q1533 : h1327 78 1 = h1312 78 1 := by rw [← e1329]; exact x_up_i (by first | decide | omega)
        have q1534 : h1312 78 1 = h1142 78 1 := jK 0 f1314 rg_78_1_0_1 (by first | decide | omega) (by first | decide | omega) (by decide)
        have q1535 : h1142 78 1 = h1131 78 1 := jK 0 f1144 rg_78_1_0_1 (by first | decide | omega) (by first | decide | omega) (by decide)
        have q1536 : h1131 78 1 = h1126 78 1 := by rw [← e1133]; exact x_up_i (by first | decide | omega)
        have q1537 : h1126 78 1 = h1121 78 1 := by rw [← e1128]; exact x_up_i (by first | decide | omega)
        have q1538 : h1121 78 1 = h577 78 1 := by rw [← e1123]; exact x_up_i (by first | decide | omega)
        have q1539 : h577 78 1 = h468 78 1 := jK 0 f579 rg_78_1_0_1 (by first | decide | omega) (by first | decide | omega) (by decide)
        have q1540 : h468 78 1 = h453 78 1 := by rw [← e470]; exact x_up_i (by first | decide | omega)
        have q1541 : h453 78 1 = h362 78 1 := jK 0 f455 rg_78_1_0_1 (by first | decide | omega) (by first | decide | omega) (by decide)
        have q1542 : h362 78 1 = h278 78 1 := jK 0 f364 rg_78_1_0_1 (by first | decide | omega) (by first | decide | omega) (by decide)
        have q1543 : h278 78 1 = h263 78 1 := by rw [← e280]; exact x_up_i (by first | decide | omega)
        have q1544 : h263 78 1 = h196 78 1 := jK 0 f265 rg_78_1_0_1 (by first | decide | omega) (by first | decide | omega) (by decide)
        have q1545 : h196 78 1 = h136 78 1 := jK 0 f198 rg_78_1_0_1 (by first | decide | omega) (by first | decide | omega) (by decide)
        have q1546 : h136 78 1 = h121 78 1 := by rw [← e138]; exact x_up_i (by first | decide | omega)
        have q1547 : h121 78 1 = h71 78 1 := jK 0 f123 rg_78_1_0_1 (by first | decide | omega) (by first | decide | omega) (by decide)
        have q1548 : h71 78 1 = h35 78 1 := jK 0 f73 rg_78_1_0_1 (by first | decide | omega) (by first | decide | omega) (by decide)
        have q1549 : h35 78 1 = h19 78 1 := by rw [← e37]; exact x_up_i (by first | decide | omega)
        have q1550 : h19 78 1 = h 78 1 := jK 0 f21 rg_78_1_0_1 (by first | decide | omega) (by first | decide | omega) (by decide)
        have q1551 : h1508 78 2 = (1 + (h 78 2)) := by rw [← e1510]; exact x_up_at
        have b1552 := jB (e := 3) 0 hJ rg_78_3_0_1 (by first | decide | omega) (by first | decide | omega)
        have q1553 : h1508 78 3 = h1327 78 3 := by rw [← e1510]; exact x_up_i (by first | decide | omega)
        have q1554 : h1327 78 3 = h1312 78 3 := by rw [← e1329]; exact x_up_i (by first | decide | omega)
        have q1555 : h1312 78 3 = h1142 78 3 := jK 0 f1314 rg_78_3_0_1 (by first | decide | omega) (by first | decide | omega) (by decide)
        have q1556 : h1142 78 3 = h1131 78 3 := jK 0 f1144 rg_78_3_0_1 (by first | decide | omega) (by first | decide | omega) (by decide)
        have q1557 : h1131 78 3 = h1126 78 3 := by rw [← e1133]; exact x_up_i (by first | decide | omega)
        have q1558 : h1126 78 3 = h1121 78 3 := by rw [← e1128]; exact x_up_i (by first | decide | omega)
        have q1559 : h1121 78 3 = h577 78 3 := by rw [← e1123]; exact x_up_i (by first | decide | omega)
        have q1560 : h577 78 3 = h468 78 3 := jK 0 f579 rg_78_3_0_1 (by first | decide | omega) (by first | decide | omega) (by decide)
        have q1561 : h468 78 3 = h453 78 3 := by rw [← e470]; exact x_up_i (by first | decide | omega)
        have q1562 : h453 78 3 = h362 78 3 := jK 0 f455 rg_78_3_0_1 (by first | decide | omega) (by first | decide | omega) (by decide)
        have q1563 : h362 78 3 = h278 78 3 := jK 0 f364 rg_78_3_0_1 (by first | decide | omega) (by first | decide | omega) (by decide)
        have q1564 : h278 78 3 = h263 78 3 := by rw [← e280]; exact x_up_i (by first | decide | omega)
        have q1565 : h263 78 3 = h196 78 3 := jK 0 f265 rg_78_3_0_1 (by first | decide | omega) (by first | decide | omega) (by decide)
        have q1566 : h196 78 3 = h136 78 3 := jK 0 f198 rg_78_3_0_1 (by first | decide | omega) (by first | decide | omega) (by decide)
        have q1567 : h136 78 3 = h121 78 3 := by rw [← e138]; exact x_up_i (by first | decide | omega)
        have q1568 : h121 78 3 = h71 78 3 := jK 0 f123 rg_78_3_0_1 (by first | decide | omega) (by first | decide | omega) (by decide)
        have q1569 : h71 78 3 = h35 78 3 := jK 0 f73 rg_78_3_0_1 (by first | decide | omega) (by first | decide | omega) (by decide)
        have q1570 : h35 78 3 = h19 78 3 := by rw [← e37]; exact x_up_i (by first | decide | omega)
        have q1571 : h19 78 3 = h 78 3 := jK 0 f21 rg_78_3_0_1 (by first | decide | omega) (by first | decide | omega) (by decide)
        have b1572 := jB (e := 4) 0 hJ rg_78_4_0_1 (by first | decide | omega) (by first | decide | omega)
        have q1573 : h1508 78 4 = h1327 78 4 := by rw [← e1510]; exact x_up_i (by first | decide | omega)
        have q1574 : h1327 78 4 = h1312 78 4 := by rw [← e1329]; exact x_up_i (by first | decide | omega)
        have q1575 : h1312 78 4 = h1142 78 4 := jK 0 f1314 rg_78_4_0_1 (by first | decide | omega) (by first | decide | omega) (by decide)
        have q1576 : h1142 78 4 = h1131 78 4 := jK 0 f1144 rg_78_4_0_1 (by first | decide | omega) (by first | decide | omega) (by decide)
        have q1577 : h1131 78 4 = h1126 78 4 := by rw [← e1133]; exact x_up_i (by first | decide | omega)
        have q1578 : h1126 78 4 = h1121 78 4 := by rw [← e1128]; exact x_up_i (by first | decide | omega)
        have q1579 : h1121 78 4 = h577 78 4 := by rw [← e1123]; exact x_up_i (by first | decide | omega)
        have q1580 : h577 78 4 = h468 78 4 := jK 0 f579 rg_78_4_0_1 (by first | decide | omega) (by first | decide | omega) (by decide)
        have q1581 : h468 78 4 = h453 78 4 := by rw [← e470]; exact x_up_i (by first | decide | omega)
        have q1582 : h453 78 4 = h362 78 4 := jK 0 f455 rg_78_4_0_1 (by first | decide | omega) (by first | decide | omega) (by decide)
        have q1583 : h362 78 4 = h278 78 4 := jK 0 f364 rg_78_4_0_1 (by first | decide | omega) (by first | decide | omega) (by decide)
        have q1584 : h278 78 4 = h263 78 4 := by rw [← e280]; exact x_up_i (by first | decide | omega)
        have q1585 : h263 78 4 = h196 78 4 := jK 0 f265 rg_78_4_0_1 (by first | decide | omega) (by first | decide | omega) (by decide)
        have q1586 : h196 78 4 = h136 78 4 := jK 0 f198 rg_78_4_0_1 (by first | decide | omega) (by first | decide | omega) (by decide)
        have q1587 : h136 78 4 = h121 78 4 := by rw [← e138]; exact x_up_i (by first | decide | omega)
        have q1588 : h121 78 4 = h71 78 4 := jK 0 f123 rg_78_4_0_1 (by first | decide | omega) (by first | decide | omega) (by decide)
        have q1589 : h71 78 4 = h35 78 4 := jK 0 f73 rg_78_4_0_1 (by first | decide | omega) (by first | decide | omega) (by decide)
        have q1590 : h35 78 4 = h19 78 4 := by rw [← e37]; exact x_up_i (by first | decide | omega)
        have q1591 : h19 78 4 = h 78 4 := jK 0 f21 rg_78_4_0_1 (by first | decide | omega) (by first | decide | omega) (by decide)
        have b1592 := jB (e := 5) 0 hJ rg_78_5_0_1 (by first | decide | omega) (by first | decide | omega)
        have q1593 : h1508 78 5 = h1327 78 5 := by rw [← e1510]; exact x_up_i (by first | decide | omega)
        have q1594 : h1327 78 5 = h1312 78 5 := by rw [← e1329]; exact x_up_i (by first | decide | omega)
        have q1595 : h1312 78 5 = h1142 78 5 := jK 0 f1314 rg_78_5_0_1 (by first | decide | omega) (by first | decide | omega) (by decide)
        have q1596 : h1142 78 5 = h1131 78 5 := jK 0 f1144 rg_78_5_0_1 (by first | decide | omega) (by first | decide | omega) (by decide)
        have q1597 : h1131 78 5 = h1126 78 5 := by rw [← e1133]; exact x_up_i (by first | decide | omega)
        have q1598 : h1126 78 5 = h1121 78 5 := by rw [← e1128]; exact x_up_i (by first | decide | omega)
        have q1599 : h1121 78 5 = h577 78 5 := by rw [← e1123]; exact x_up_i (by first | decide | omega)
        have q1600 : h577 78 5 = h468 78 5 := jK 0 f579 rg_78_5_0_1 (by first | decide | omega) (by first | decide | omega) (by decide)
        have q1601 : h468 78 5 = h453 78 5 := by rw [← e470]; exact x_up_i (by first | decide | omega)
        have q1602 : h453 78 5 = h362 78 5 := jK 0 f455 rg_78_5_0_1 (by first | decide | omega) (by first | decide | omega) (by decide)
        have q1603 : h362 78 5 = h278 78 5 := jK 0 f364 rg_78_5_0_1 (by first | decide | omega) (by first | decide | omega) (by decide)
        have q1604 : h278 78 5 = h263 78 5 := by rw [← e280]; exact x_up_i (by first | decide | omega)
        have q1605 : h263 78 5 = h196 78 5 := jK 0 f265 rg_78_5_0_1 (by first | decide | omega) (by first | decide | omega) (by decide)
        have q1606 : h196 78 5 = h136 78 5 := jK 0 f198 rg_78_5_0_1 (by first | decide | omega) (by first | decide | omega) (by decide)
        have q1607 : h136 78 5 = h121 78 5 := by rw [← e138]; exact x_up_i (by first | decide | omega)
        have q1608 : h121 78 5 = h71 78 5 := jK 0 f123 rg_78_5_0_1 (by first | decide | omega) (by first | decide | omega) (by decide)
        have q1609 : h71 78 5 = h35 78 5 := jK 0 f73 rg_78_5_0_1 (by first | decide | omega) (by first | decide | omega) (by decide)
        have q1610 : h35 78 5 = h19 78 5 := by rw [← e37]; exact x_up_i (by first | decide | omega)
        have q1611 : h19 78 5 = h 78 5 := jK 0 f21 rg_78_5_0_1 (by first | decide | omega) (by first | decide | omega) (by decide)
        have m1630 := Cl.fr hC f21 (by decide)
        have m1629 : Cl h35 := by rw [← e37]; exact Cl.upR (e := (20 + 7 * u8)) (v := v16) u8 m1630 rg_76_20_7_20 (by first | decide | omega) (by first | decide | omega) (by first | decide | omega)
        have m1628 := Cl.fr m1629 f73 (by decide)
        have m1627 := Cl.fr m1628 f123 (by decide)
        have m1626 : Cl h136 := by rw [← e138]; exact Cl.upR (e := (21 + 7 * u8)) (v := v117) u8 m1627 rg_76_21_7_20 (by first | decide | omega) (by first | decide | omega) (by first | decide | omega)
        have m1625 := Cl.fr m1626 f198 (by decide)
        have m1624 := Cl.fr m1625 f265 (by decide)
        have m1623 : Cl h278 := by rw [← e280]; exact Cl.upR (e := (22 + 7 * u8)) (v := v259) u8 m1624 rg_76_22_7_20 (by first | decide | omega) (by first | decide | omega) (by first | decide | omega)
        have m1622 := Cl.fr m1623 f364 (by decide)
        have m1621 := Cl.fr m1622 f455 (by decide)
        have m1620 : Cl h468 := by rw [← e470]; exact Cl.upR (e := (23 + 7 * u8)) (v := v449) u8 m1621 rg_76_23_7_20 (by first | decide | omega) (by first | decide | omega) (by first | decide | omega)
        have m1619 := Cl.fr m1620 f579 (by decide)
        have m1618 : Cl h1121 := by rw [← e1123]; exact Cl.upR (e := (24 + 7 * u8)) (v := 2147483649) u8 m1619 rg_76_24_7_20 (by first | decide | omega) (by first | decide | omega) (by first | decide | omega)
        have m1617 : Cl h1126 := by rw [← e1128]; exact Cl.upR (e := (25 + 7 * u8)) (v := 2147483648) u8 m1618 rg_76_25_7_20 (by first | decide | omega) (by first | decide | omega) (by first | decide | omega)
        have m1616 : Cl h1131 := by rw [← e1133]; exact Cl.upR (e := (26 + 7 * u8)) (v := 2147483648) u8 m1617 rg_76_26_7_20 (by first | decide | omega) (by first | decide | omega) (by first | decide | omega)
        have m1615 := Cl.fr m1616 f1144 (by decide)
        have m1614 := Cl.fr m1615 f1314 (by decide)
        have m1613 : Cl h1327 := by rw [← e1329]; exact Cl.upR (e := (25 + 7 * u8)) (v := v1308) u8 m1614 rg_76_25_7_20 (by first | decide | omega) (by first | decide | omega) (by first | decide | omega)
        have m1612 : Cl h1508 := by rw [← e1510]; exact Cl.upR (e := 2) (v := (1 + (h 78 2))) 0 m1613 rg_76_2_0_1 (by first | decide | omega) (by first | decide | omega) (by first | decide | omega)
        have q1631 : h35 75 7 = h19 75 7 := by rw [← e37]; exact x_up_k (by decide)
        obtain ⟨w1632, e1633⟩ := Tw.yes c77 (by first | decide | omega)
        have q1634 : h136 75 7 = h121 75 7 := by rw [← e138]; exact x_up_k (by decide)
        obtain ⟨w1635, e1636⟩ := Tw.yes c202 (by first | decide | omega)
        have q1637 : h278 75 7 = h263 75 7 := by rw [← e280]; exact x_up_k (by decide)
        obtain ⟨w1638, e1639⟩ := Tw.yes c368 (by first | decide | omega)
        have q1640 : h468 75 7 = h453 75 7 := by rw [← e470]; exact x_up_k (by decide)
        obtain ⟨w1641, e1642⟩ := Tk.yes c583 (by first | decide | omega)
        have q1643 : h1131 75 7 = h1126 75 7 := by rw [← e1133]; exact x_up_k (by decide)
        have q1644 : h1126 75 7 = h1121 75 7 := by rw [← e1128]; exact x_up_k (by decide)
        have q1645 : h1121 75 7 = h577 75 7 := by rw [← e1123]; exact x_up_k (by decide)
        obtain ⟨w1646, e1647⟩ := Tk.yes c1148 (by first | decide | omega)
        have q1648 : h1508 75 7 = h1327 75 7 := by rw [← e1510]; exact x_up_k (by decide)
        have q1649 : h1327 75 7 = h1312 75 7 := by rw [← e1329]; exact x_up_k (by decide)
        refine x_retI (np := 183) (x := 0) (by decide +kernel) (by decide) (Or.inr ⟨by decide +kernel, by first | decide | omega, by first | decide | omega⟩) ⟨_, rfl, (by decide), ?_⟩
        exact ⟨j1509, f1511, (by first | decide | omega), (fun z => by first | decide | omega), (fun z => by first | decide | omega), (fun z => by first | decide | omega), (fun z => by first | decide | omega), (fun z => by first | decide | omega), (fun z => by first | decide | omega), (fun _ => m1612), (Or.inr ⟨by first | decide | omega, (nm9.y c28 (by first | decide | omega) (by first | decide | omega) rfl (by first | decide | omega) rfl (wd9.y w1632 (congrArg (sk tB tN) (show h35 75 7 = h19 75 7 by first | decide | omega)) e1633 rfl (nm9.y c130 (by first | decide | omega) (by first | decide | omega) rfl (by first | decide | omega) rfl (wd9.y w1635 (congrArg (sk tB tN) (show h136 75 7 = h121 75 7 by first | decide | omega)) e1636 rfl (nm9.y c272 (by first | decide | omega) (by first | decide | omega) rfl (by first | decide | omega) rfl (wd9.y w1638 (congrArg (sk tB tN) (show h278 75 7 = h263 75 7 by first | decide | omega)) e1639 rfl (nm9.y c462 (by first | decide | omega) (by first | decide | omega) rfl (by first | decide | omega) rfl (or9.y w1641 (congrArg (sk tB tN) (show h468 75 7 = h453 75 7 by first | decide | omega)) e1642 rfl (or9.y w1646 (congrArg (sk tB tN) (show h1131 75 7 = h577 75 7 by first | decide | omega)) e1647 rfl (nm9.y c1321 (by first | decide | omega) (by first | decide | omega) rfl (by first | decide | omega) rfl (fin9.mk (by first | decide | omega) (congrArg (sk tB tN) (show h1312 75 7 = h1508 75 7 by first | decide | omega)))))))))))))⟩), (fun z => absurd z (by first | decide | omega))⟩
      have q1487 : ¬ (2147483649 ≠ 2147483648) := q1487
      exfalso; omega
    have q570 : ¬ (2147483649 ≠ 2147483648) := q570
    exfalso; omega
  have q5 : ¬ ((h 78 2) ≠ 2147483668) := q5
  refine x_const (np := 12) (x := 9223372039002259456) (a := 2147483648) (by decide +kernel) (by decide) (by decide) ?_
  have b1650 := jB (e := 0) 0 hJ rg_78_0_0_1 (by first | decide | omega) (by first | decide | omega)
  have b1651 := jB (e := 3) 0 hJ rg_78_3_0_1 (by first | decide | omega) (by first | decide | omega)
  have b1652 := jB (e := 4) 0 hJ rg_78_4_0_1 (by first | decide | omega) (by first | decide | omega)
  have b1653 := jB (e := 5) 0 hJ rg_78_5_0_1 (by first | decide | omega) (by first | decide | omega)
  have b1654 := jB (e := 0) 0 hJ rg_76_0_0_1 (by first | decide | omega) (by first | decide | omega)
  refine x_retI (np := 13) (x := 0) (by decide +kernel) (by decide) (Or.inr ⟨by decide +kernel, by first | decide | omega, by first | decide | omega⟩) ⟨_, rfl, (by decide), ?_⟩
  exact ⟨hJ, hF, (by first | decide | omega), (fun z => by first | decide | omega), (fun z => by first | decide | omega), (fun z => by first | decide | omega), (fun z => by first | decide | omega), (fun z => by first | decide | omega), (fun z => by first | decide | omega), (fun z => absurd z (by first | decide | omega)), (Or.inl ⟨by first | decide | omega, by first | decide | omega⟩), (fun _ => Or.inl ⟨by first | decide | omega, rfl⟩)⟩
