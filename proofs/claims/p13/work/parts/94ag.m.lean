/-! ===== methods ===== -/
set_option maxHeartbeats 0 in
/-- LentNamesModel.readLetter()Z -/
theorem c183_75 {sc : Nat × Nat} {d  : Nat} {h : xh} {tB : Nat → Nat} {tN : Nat} (hJ : J h) (hC : Cl h) (hT : Tq tB tN h) : X sc 183 (d + 6) (xI fun r h' => J h' ∧ Fr 4611686018701066241 h h' ∧ (2147483648 ≤ r ∧ r ≤ 2147483649) ∧ (r = 2147483649 → h' 78 0 = h 78 0) ∧ (r = 2147483649 → h' 78 1 = h 78 1) ∧ (r = 2147483649 → h' 78 2 = h 78 2) ∧ (r = 2147483649 → h' 78 3 = h 78 3 + 1) ∧ (r = 2147483649 → h' 78 4 = h 78 4) ∧ (r = 2147483649 → h' 78 5 = h 78 5) ∧ (r = 2147483649 → Cl h') ∧ ((h 78 3 = 2147483658 ∧ r = 2147483648) ∨ (h 78 3 ≠ 2147483658 ∧ letter9 tB tN (h 76 0) (sk tB tN (h 75 7)) (rs r (sk tB tN (h' 75 7))))) ∧ (r = 2147483649 → Wl (wdr h) (wdr h') (h 78 3) (h' 78 3))) 0 0 0 [x_r 75, 147573952589676412928] [] h := by
  have hF := Fr.refl 4611686018701066241 h
  refine x_aload (np := 1) (x := 0) (by decide +kernel) rfl (x_nc_le (by decide)) ?_
  have q1 : h 75 3 = 78 := by have z := jB (e := 3) 0 hJ rg_75_3_0_1 (by decide) (by decide); omega
  refine x_getR (np := 4) (x := 707) (f := 3) (q := 78) (by decide +kernel) (by decide) (by decide +kernel) q1 ?_
  refine x_const (np := 5) (x := 9223372051887161347) (a := 2147483651) (by decide +kernel) (by decide) (by decide) ?_
  have b2 := jB (e := 3) 0 hJ rg_78_3_0_1 (by first | decide | omega) (by first | decide | omega)
  refine x_aldC (np := 6) (x := 0) (n := 290) (i := 3) (q := (h 78 3)) (by decide +kernel) (by decide +kernel) (by first | decide | omega) (by first | decide | omega) (by decide) rfl (fun l3 => ?_)
  refine x_const (np := 8) (x := 9223372081951932426) (a := 2147483658) (by decide +kernel) (by decide) (by decide) ?_
  refine x_icmp (k := 1) (tg := 13) (np := 11) (by decide +kernel) (by decide) l3 (by decide) (fun q4 => ?_) (fun q5 => ?_)
  · have q4 : (h 78 3) ≠ 2147483658 := q4
    refine x_const (np := 16) (x := 9223372726197026976) (a := 2147483808) (by decide +kernel) (by decide) (by decide) ?_
    refine x_const (np := 17) (x := 9223372056182128644) (a := 2147483652) (by decide +kernel) (by decide) (by decide) ?_
    refine x_aload (np := 18) (x := 0) (by decide +kernel) rfl (x_nc_le (by decide)) ?_
    have q6 : h 75 3 = 78 := by have z := jB (e := 3) 0 hJ rg_75_3_0_1 (by decide) (by decide); omega
    refine x_getR (np := 21) (x := 707) (f := 3) (q := 78) (by decide +kernel) (by decide) (by decide +kernel) q6 ?_
    refine x_const (np := 22) (x := 9223372051887161347) (a := 2147483651) (by decide +kernel) (by decide) (by decide) ?_
    refine x_aldC (np := 23) (x := 0) (n := 290) (i := 3) (q := (h 78 3)) (by decide +kernel) (by decide +kernel) (by first | decide | omega) (by first | decide | omega) (by decide) rfl (fun l7 => ?_)
    obtain ⟨u8, q9⟩ : ∃ z, (h 78 3) = 2147483648 + z := ⟨(h 78 3) - 2147483648, by first | decide | omega⟩
    refine x_imul (np := 24) (x := 0) (i := 4) (j := u8) (v := (2147483648 + 4 * u8)) (by decide +kernel) (by first | decide | omega) (by first | decide | omega) (by first | decide | omega) (by first | decide | omega) (by decide) l3 ?_
    refine x_iadd (np := 25) (x := 0) (v := (2147483808 + 4 * u8)) (by decide +kernel) (by decide) (by first | decide | omega) (by first | decide | omega) (by first | decide | omega) ?_
    refine x_istore (np := 26) (x := 1) (lo' := [x_r 75, iv_c (2147483808 + 4 * u8)]) (by decide +kernel) (by first | decide | omega) (Nat.le_of_ble_eq_true rfl) rfl ?_
    refine x_aload (np := 27) (x := 0) (by decide +kernel) rfl (x_nc_le (by decide)) ?_
    refine x_iload (np := 28) (x := 1) (by decide +kernel) rfl (by first | decide | omega) ?_
    refine x_nI (t := 6) (mj := 177) (n := 2) (rc := 12) (ml := 2) (nr := 0) (np := 31) (as := [x_r 75, iv_c (2147483808 + 4 * u8)]) (rest := []) (lo1 := [x_r 75, iv_c (2147483808 + 4 * u8)]) (by decide +kernel) (by decide) (by decide +kernel) (x_rb_of (by decide +kernel)) rfl rfl (x_wr (by decide) (x_wi (by first | decide | omega) x_wn)) x_wn (by decide) rfl ?_
    refine x_aload (np := 1) (x := 0) (by decide +kernel) rfl (x_nc_le (by decide)) ?_
    refine x_iload (np := 2) (x := 1) (by decide +kernel) rfl (by first | decide | omega) ?_
    refine x_aload (np := 3) (x := 0) (by decide +kernel) rfl (x_nc_le (by decide)) ?_
    refine x_const (np := 4) (x := 9223372039002259456) (a := 2147483648) (by decide +kernel) (by decide) (by decide) ?_
    refine x_aload (np := 5) (x := 0) (by decide +kernel) rfl (x_nc_le (by decide)) ?_
    refine x_nI (t := 6) (mj := 157) (n := 1) (rc := 12) (ml := 1) (nr := 4) (np := 8) (as := [x_r 75]) (rest := [iv_c 2147483648, x_r 75, iv_c (2147483808 + 4 * u8), x_r 75]) (lo1 := [x_r 75]) (by decide +kernel) (by decide) (by decide +kernel) (x_rb_of (by decide +kernel)) rfl rfl (x_wr (by decide) x_wn) (x_wi (by decide) (x_wr (by decide) (x_wi (by first | decide | omega) (x_wr (by decide) x_wn)))) (by decide) rfl ?_
    refine x_aload (np := 1) (x := 0) (by decide +kernel) rfl (x_nc_le (by decide)) ?_
    have q11 : h 75 1 = 76 := by have z := jB (e := 1) 0 hJ rg_75_1_0_1 (by decide) (by decide); omega
    refine x_getR (np := 4) (x := 705) (f := 1) (q := 76) (by decide +kernel) (by decide) (by decide +kernel) q11 ?_
    refine x_const (np := 5) (x := 9223372039002259456) (a := 2147483648) (by decide +kernel) (by decide) (by decide) ?_
    have b12 := jB (e := 0) 0 hJ rg_76_0_0_1 (by first | decide | omega) (by first | decide | omega)
    refine x_aldC (np := 6) (x := 0) (n := 1952) (i := 0) (q := (h 76 0)) (by decide +kernel) (by decide +kernel) (by first | decide | omega) (by first | decide | omega) (by decide) rfl (fun l13 => ?_)
    refine x_retI (np := 7) (x := 0) (by decide +kernel) l13 (Or.inl (by decide +kernel)) ⟨_, rfl, l13, ?_⟩
    refine x_const (np := 9) (x := 9223372043297226753) (a := 2147483649) (by decide +kernel) (by decide) (by decide) ?_
    obtain ⟨v14, q15⟩ : ∃ z, z + 2147483649 = (h 76 0) + 2147483648 := ⟨(h 76 0) + 2147483648 - 2147483649, by first | decide | omega⟩
    refine x_isub (np := 10) (x := 0) (v := v14) (by decide +kernel) l13 (by decide) (by first | decide | omega) (by first | decide | omega) ?_
    refine x_cI (t := 6) (mj := 174) (n := 3) (rc := 12) (ml := 4) (nr := 2) (np := 13) (as := [x_r 75, iv_c 2147483648, iv_c v14]) (rest := [iv_c (2147483808 + 4 * u8), x_r 75]) (lo1 := [x_r 75, iv_c 2147483648, iv_c v14, 147573952589676412928]) (by decide +kernel) (by decide) (by decide +kernel) (x_rb_of (by decide +kernel)) rfl rfl (x_wr (by decide) (x_wi (by decide) (x_wi (by first | decide | omega) x_wn))) (x_wi (by first | decide | omega) (x_wr (by decide) x_wn)) (by decide) rfl (c174_75 hJ  (by first | decide | omega) (by first | decide | omega) hT) (fun v16 h19 l17 q18 => ?_)
    obtain ⟨j20, f21, b22, c23, c24, c25, c26, c27, c28⟩ := q18
    have f29 := Fr.trans hF f21 (by decide)
    have b30 := jB (e := 7) 0 hJ rg_75_7_0_1 (by first | decide | omega) (by first | decide | omega)
    have b31 := jB (e := 7) 0 j20 rg_75_7_0_1 (by first | decide | omega) (by first | decide | omega)
    have b32 := c27 (by first | decide | omega)
    refine x_nI (t := 6) (mj := 176) (n := 3) (rc := 12) (ml := 3) (nr := 0) (np := 16) (as := [x_r 75, iv_c (2147483808 + 4 * u8), iv_c v16]) (rest := []) (lo1 := [x_r 75, iv_c (2147483808 + 4 * u8), iv_c v16]) (by decide +kernel) (by decide) (by decide +kernel) (x_rb_of (by decide +kernel)) rfl rfl (x_wr (by decide) (x_wi (by first | decide | omega) (x_wi l17 x_wn))) x_wn (by decide) rfl ?_
    refine x_aload (np := 1) (x := 0) (by decide +kernel) rfl (x_nc_le (by decide)) ?_
    have q33 : h19 75 3 = 78 := by have z := jB (e := 3) 0 j20 rg_75_3_0_1 (by decide) (by decide); omega
    refine x_getR (np := 4) (x := 707) (f := 3) (q := 78) (by decide +kernel) (by decide) (by decide +kernel) q33 ?_
    refine x_iload (np := 5) (x := 1) (by decide +kernel) rfl (by first | decide | omega) ?_
    refine x_iload (np := 6) (x := 2) (by decide +kernel) rfl l17 ?_
    refine x_ast (np := 7) (x := 0) (kd := 1) (n := 290) (i := (160 + 4 * u8)) (by decide +kernel) (Or.inl rfl) (by decide +kernel) (by first | decide | omega) (by first | decide | omega) (by decide) l17 (fun z => absurd z (by decide)) ?_
    have j35 := jU (e := (160 + 4 * u8)) (v := v16) u8 j20 rg_78_160_4_10 (by first | decide | omega) (by first | decide | omega) (by first | decide | omega)
    have f37 := jF (e := (160 + 4 * u8)) (v := v16) u8 f29 rg_78_160_4_10 (by first | decide | omega) (by first | decide | omega) (by decide)
    generalize e36 : x_up h19 78 (160 + 4 * u8) v16 = h34 at j35 f37 ⊢
    refine x_iload (np := 8) (x := 2) (by decide +kernel) rfl l17 ?_
    refine x_ifz (k := 2) (tg := 15) (np := 11) (by decide +kernel) (by decide) l17 (fun q38 => ?_) (fun q39 => ?_)
    · have q38 : v16 < 2147483648 := q38
      refine x_const (np := 16) (x := 9223372039002259456) (a := 2147483648) (by decide +kernel) (by decide) (by decide) ?_
      refine x_retI (np := 17) (x := 0) (by decide +kernel) (by decide) (Or.inr ⟨by decide +kernel, by first | decide | omega, by first | decide | omega⟩) ⟨_, rfl, (by decide), ?_⟩
      refine x_retI (np := 17) (x := 0) (by decide +kernel) (by decide) (Or.inr ⟨by decide +kernel, by first | decide | omega, by first | decide | omega⟩) ⟨_, rfl, (by decide), ?_⟩
      refine x_ifz (k := 0) (tg := 81) (np := 34) (by decide +kernel) (by decide) (by decide) (fun q40 => ?_) (fun q41 => ?_)
      · have q40 : 2147483648 = 2147483648 := q40
        refine x_const (np := 82) (x := 9223372039002259456) (a := 2147483648) (by decide +kernel) (by decide) (by decide) ?_
        have b42 := jB (e := 0) 0 hJ rg_78_0_0_1 (by first | decide | omega) (by first | decide | omega)
        have q43 : h34 78 0 = h19 78 0 := by rw [← e36]; exact x_up_i (by first | decide | omega)
        have q44 : h19 78 0 = h 78 0 := jK 0 f21 rg_78_0_0_1 (by first | decide | omega) (by first | decide | omega) (by decide)
        have q45 : h34 78 1 = h19 78 1 := by rw [← e36]; exact x_up_i (by first | decide | omega)
        have q46 : h19 78 1 = h 78 1 := jK 0 f21 rg_78_1_0_1 (by first | decide | omega) (by first | decide | omega) (by decide)
        have b47 := jB (e := 2) 0 hJ rg_78_2_0_1 (by first | decide | omega) (by first | decide | omega)
        have q48 : h34 78 2 = h19 78 2 := by rw [← e36]; exact x_up_i (by first | decide | omega)
        have q49 : h19 78 2 = h 78 2 := jK 0 f21 rg_78_2_0_1 (by first | decide | omega) (by first | decide | omega) (by decide)
        have q50 : h34 78 3 = h19 78 3 := by rw [← e36]; exact x_up_i (by first | decide | omega)
        have q51 : h19 78 3 = h 78 3 := jK 0 f21 rg_78_3_0_1 (by first | decide | omega) (by first | decide | omega) (by decide)
        have b52 := jB (e := 4) 0 hJ rg_78_4_0_1 (by first | decide | omega) (by first | decide | omega)
        have q53 : h34 78 4 = h19 78 4 := by rw [← e36]; exact x_up_i (by first | decide | omega)
        have q54 : h19 78 4 = h 78 4 := jK 0 f21 rg_78_4_0_1 (by first | decide | omega) (by first | decide | omega) (by decide)
        have b55 := jB (e := 5) 0 hJ rg_78_5_0_1 (by first | decide | omega) (by first | decide | omega)
        have q56 : h34 78 5 = h19 78 5 := by rw [← e36]; exact x_up_i (by first | decide | omega)
        have q57 : h19 78 5 = h 78 5 := jK 0 f21 rg_78_5_0_1 (by first | decide | omega) (by first | decide | omega) (by decide)
        refine x_retI (np := 83) (x := 0) (by decide +kernel) (by decide) (Or.inr ⟨by decide +kernel, by first | decide | omega, by first | decide | omega⟩) ⟨_, rfl, (by decide), ?_⟩
        exact ⟨j35, f37, (by first | decide | omega), (fun z => by first | decide | omega), (fun z => by first | decide | omega), (fun z => by first | decide | omega), (fun z => by first | decide | omega), (fun z => by first | decide | omega), (fun z => by first | decide | omega), (fun z => absurd z (by first | decide | omega)), (Or.inr ⟨by first | decide | omega, (nm9.f c28 (by first | decide | omega) (by first | decide | omega) rfl (by first | decide | omega) (by first | decide | omega))⟩), (fun z => absurd z (by first | decide | omega))⟩
      have q41 : ¬ (2147483648 = 2147483648) := q41
      exfalso; omega
    have q39 : ¬ (v16 < 2147483648) := q39
    have b58 := c24 (by first | decide | omega)
    have b59 := c25 (by first | decide | omega)
    have b60 := c26 (by first | decide | omega)
    refine x_const (np := 12) (x := 9223372043297226753) (a := 2147483649) (by decide +kernel) (by decide) (by decide) ?_
    refine x_goto (np := 15) (x := 16) (by decide +kernel) ?_
    refine x_retI (np := 17) (x := 0) (by decide +kernel) (by decide) (Or.inr ⟨by decide +kernel, by first | decide | omega, by first | decide | omega⟩) ⟨_, rfl, (by decide), ?_⟩
    refine x_retI (np := 17) (x := 0) (by decide +kernel) (by decide) (Or.inr ⟨by decide +kernel, by first | decide | omega, by first | decide | omega⟩) ⟨_, rfl, (by decide), ?_⟩
    refine x_ifz (k := 0) (tg := 81) (np := 34) (by decide +kernel) (by decide) (by decide) (fun q61 => ?_) (fun q62 => ?_)
    · have q61 : 2147483649 = 2147483648 := q61
      exfalso; omega
    have q62 : ¬ (2147483649 = 2147483648) := q62
    refine x_aload (np := 35) (x := 0) (by decide +kernel) rfl (x_nc_le (by decide)) ?_
    refine x_ldcB (i := 2) (idx := 147) (tx := "day") (by rw [tb_y183]; exact List.mem_of_getElem? (i := 37) rfl) (by decide) (by rw [tb_b183]; decide +kernel) ?_
    have m67 := Tq.fr hT f21 (by decide) (by decide)
    have m66 : Tq tB tN h34 := by rw [← e36]; exact Tq.oth m67 (by decide) (fun z => absurd z.1 (by decide))
    refine x_cI (t := 6) (mj := 172) (n := 2) (rc := 12) (ml := 2) (nr := 0) (np := 40) (as := [x_r 75, x_b (2 + 1)]) (rest := []) (lo1 := [x_r 75, x_b (2 + 1)]) (by decide +kernel) (by decide) (by decide +kernel) (x_rb_of (by decide +kernel)) rfl rfl (x_wr (by decide) (x_wB (by decide) x_wn)) x_wn (by decide) rfl (c172_75_S0 j35  (by decide) m66) (fun v63 h68 l64 q65 => ?_)
    obtain ⟨j69, f70, b71, c72, c73, c74⟩ := q65
    have f75 := Fr.trans f37 f70 (by decide)
    have q76 : h34 75 7 = h19 75 7 := by rw [← e36]; exact x_up_k (by decide)
    have b77 := jB (e := 7) 0 j69 rg_75_7_0_1 (by first | decide | omega) (by first | decide | omega)
    have q78 : h34 75 7 = h19 75 7 := by rw [← e36]; exact x_up_k (by decide)
    refine x_ifz (k := 0) (tg := 81) (np := 43) (by decide +kernel) (by decide) l64 (fun q79 => ?_) (fun q80 => ?_)
    · have q79 : v63 = 2147483648 := q79
      refine x_const (np := 82) (x := 9223372039002259456) (a := 2147483648) (by decide +kernel) (by decide) (by decide) ?_
      have b81 := jB (e := 0) 0 hJ rg_78_0_0_1 (by first | decide | omega) (by first | decide | omega)
      have q82 : h68 78 0 = h34 78 0 := jK 0 f70 rg_78_0_0_1 (by first | decide | omega) (by first | decide | omega) (by decide)
      have q83 : h34 78 0 = h19 78 0 := by rw [← e36]; exact x_up_i (by first | decide | omega)
      have q84 : h19 78 0 = h 78 0 := jK 0 f21 rg_78_0_0_1 (by first | decide | omega) (by first | decide | omega) (by decide)
      have q85 : h68 78 1 = h34 78 1 := jK 0 f70 rg_78_1_0_1 (by first | decide | omega) (by first | decide | omega) (by decide)
      have q86 : h34 78 1 = h19 78 1 := by rw [← e36]; exact x_up_i (by first | decide | omega)
      have q87 : h19 78 1 = h 78 1 := jK 0 f21 rg_78_1_0_1 (by first | decide | omega) (by first | decide | omega) (by decide)
      have b88 := jB (e := 2) 0 hJ rg_78_2_0_1 (by first | decide | omega) (by first | decide | omega)
      have q89 : h68 78 2 = h34 78 2 := jK 0 f70 rg_78_2_0_1 (by first | decide | omega) (by first | decide | omega) (by decide)
      have q90 : h34 78 2 = h19 78 2 := by rw [← e36]; exact x_up_i (by first | decide | omega)
      have q91 : h19 78 2 = h 78 2 := jK 0 f21 rg_78_2_0_1 (by first | decide | omega) (by first | decide | omega) (by decide)
      have q92 : h68 78 3 = h34 78 3 := jK 0 f70 rg_78_3_0_1 (by first | decide | omega) (by first | decide | omega) (by decide)
      have q93 : h34 78 3 = h19 78 3 := by rw [← e36]; exact x_up_i (by first | decide | omega)
      have q94 : h19 78 3 = h 78 3 := jK 0 f21 rg_78_3_0_1 (by first | decide | omega) (by first | decide | omega) (by decide)
      have b95 := jB (e := 4) 0 hJ rg_78_4_0_1 (by first | decide | omega) (by first | decide | omega)
      have q96 : h68 78 4 = h34 78 4 := jK 0 f70 rg_78_4_0_1 (by first | decide | omega) (by first | decide | omega) (by decide)
      have q97 : h34 78 4 = h19 78 4 := by rw [← e36]; exact x_up_i (by first | decide | omega)
      have q98 : h19 78 4 = h 78 4 := jK 0 f21 rg_78_4_0_1 (by first | decide | omega) (by first | decide | omega) (by decide)
      have b99 := jB (e := 5) 0 hJ rg_78_5_0_1 (by first | decide | omega) (by first | decide | omega)
      have q100 : h68 78 5 = h34 78 5 := jK 0 f70 rg_78_5_0_1 (by first | decide | omega) (by first | decide | omega) (by decide)
      have q101 : h34 78 5 = h19 78 5 := by rw [← e36]; exact x_up_i (by first | decide | omega)
      have q102 : h19 78 5 = h 78 5 := jK 0 f21 rg_78_5_0_1 (by first | decide | omega) (by first | decide | omega) (by decide)
      have q103 : h34 75 7 = h19 75 7 := by rw [← e36]; exact x_up_k (by decide)
      refine x_retI (np := 83) (x := 0) (by decide +kernel) (by decide) (Or.inr ⟨by decide +kernel, by first | decide | omega, by first | decide | omega⟩) ⟨_, rfl, (by decide), ?_⟩
      exact ⟨j69, f75, (by first | decide | omega), (fun z => by first | decide | omega), (fun z => by first | decide | omega), (fun z => by first | decide | omega), (fun z => by first | decide | omega), (fun z => by first | decide | omega), (fun z => by first | decide | omega), (fun z => absurd z (by first | decide | omega)), (Or.inr ⟨by first | decide | omega, (nm9.y c28 (by first | decide | omega) (by first | decide | omega) rfl (by first | decide | omega) rfl (wd9.f (Tw.no c74 (by first | decide | omega)) (congrArg (sk tB tN) (show h34 75 7 = h19 75 7 by first | decide | omega)) (by first | decide | omega)))⟩), (fun z => absurd z (by first | decide | omega))⟩
    have q80 : ¬ (v63 = 2147483648) := q80
    have b104 := c73 (by first | decide | omega)
    refine x_aload (np := 44) (x := 0) (by decide +kernel) rfl (x_nc_le (by decide)) ?_
    refine x_iload (np := 45) (x := 1) (by decide +kernel) rfl (by first | decide | omega) ?_
    refine x_const (np := 46) (x := 9223372043297226753) (a := 2147483649) (by decide +kernel) (by decide) (by decide) ?_
    refine x_iadd (np := 47) (x := 0) (v := (2147483809 + 4 * u8)) (by decide +kernel) (by first | decide | omega) (by decide) (by first | decide | omega) (by first | decide | omega) ?_
    refine x_const (np := 48) (x := 9223372039002259456) (a := 2147483648) (by decide +kernel) (by decide) (by decide) ?_
    refine x_nI (t := 6) (mj := 178) (n := 3) (rc := 12) (ml := 3) (nr := 0) (np := 51) (as := [x_r 75, iv_c (2147483809 + 4 * u8), iv_c 2147483648]) (rest := []) (lo1 := [x_r 75, iv_c (2147483809 + 4 * u8), iv_c 2147483648]) (by decide +kernel) (by decide) (by decide +kernel) (x_rb_of (by decide +kernel)) rfl rfl (x_wr (by decide) (x_wi (by first | decide | omega) (x_wi (by decide) x_wn))) x_wn (by decide) rfl ?_
    refine x_aload (np := 1) (x := 0) (by decide +kernel) rfl (x_nc_le (by decide)) ?_
    refine x_iload (np := 2) (x := 1) (by decide +kernel) rfl (by first | decide | omega) ?_
    refine x_aload (np := 3) (x := 0) (by decide +kernel) rfl (x_nc_le (by decide)) ?_
    refine x_iload (np := 4) (x := 2) (by decide +kernel) rfl (by decide) ?_
    refine x_const (np := 6) (x := 9223372086246899723) (a := 2147483659) (by decide +kernel) (by decide) (by decide) ?_
    have m108 := Tq.fr m66 f70 (by decide) (by decide)
    refine x_cI (t := 6) (mj := 174) (n := 3) (rc := 12) (ml := 4) (nr := 2) (np := 9) (as := [x_r 75, iv_c 2147483648, iv_c 2147483659]) (rest := [iv_c (2147483809 + 4 * u8), x_r 75]) (lo1 := [x_r 75, iv_c 2147483648, iv_c 2147483659, 147573952589676412928]) (by decide +kernel) (by decide) (by decide +kernel) (x_rb_of (by decide +kernel)) rfl rfl (x_wr (by decide) (x_wi (by decide) (x_wi (by decide) x_wn))) (x_wi (by first | decide | omega) (x_wr (by decide) x_wn)) (by decide) rfl (c174_75 j69  (by first | decide | omega) (by first | decide | omega) m108) (fun v105 h109 l106 q107 => ?_)
    obtain ⟨j110, f111, b112, c113, c114, c115, c116, c117, c118⟩ := q107
    have f119 := Fr.trans f75 f111 (by decide)
    have b120 := jB (e := 7) 0 j110 rg_75_7_0_1 (by first | decide | omega) (by first | decide | omega)
    have b121 := c117 (by first | decide | omega)
    refine x_nI (t := 6) (mj := 176) (n := 3) (rc := 12) (ml := 3) (nr := 0) (np := 12) (as := [x_r 75, iv_c (2147483809 + 4 * u8), iv_c v105]) (rest := []) (lo1 := [x_r 75, iv_c (2147483809 + 4 * u8), iv_c v105]) (by decide +kernel) (by decide) (by decide +kernel) (x_rb_of (by decide +kernel)) rfl rfl (x_wr (by decide) (x_wi (by first | decide | omega) (x_wi l106 x_wn))) x_wn (by decide) rfl ?_
    refine x_aload (np := 1) (x := 0) (by decide +kernel) rfl (x_nc_le (by decide)) ?_
    have q122 : h109 75 3 = 78 := by have z := jB (e := 3) 0 j110 rg_75_3_0_1 (by decide) (by decide); omega
    refine x_getR (np := 4) (x := 707) (f := 3) (q := 78) (by decide +kernel) (by decide) (by decide +kernel) q122 ?_
    refine x_iload (np := 5) (x := 1) (by decide +kernel) rfl (by first | decide | omega) ?_
    refine x_iload (np := 6) (x := 2) (by decide +kernel) rfl l106 ?_
    refine x_ast (np := 7) (x := 0) (kd := 1) (n := 290) (i := (161 + 4 * u8)) (by decide +kernel) (Or.inl rfl) (by decide +kernel) (by first | decide | omega) (by first | decide | omega) (by decide) l106 (fun z => absurd z (by decide)) ?_
    have j124 := jU (e := (161 + 4 * u8)) (v := v105) u8 j110 rg_78_161_4_10 (by first | decide | omega) (by first | decide | omega) (by first | decide | omega)
    have f126 := jF (e := (161 + 4 * u8)) (v := v105) u8 f119 rg_78_161_4_10 (by first | decide | omega) (by first | decide | omega) (by decide)
    generalize e125 : x_up h109 78 (161 + 4 * u8) v105 = h123 at j124 f126 ⊢
    refine x_iload (np := 8) (x := 2) (by decide +kernel) rfl l106 ?_
    refine x_ifz (k := 2) (tg := 15) (np := 11) (by decide +kernel) (by decide) l106 (fun q127 => ?_) (fun q128 => ?_)
    · have q127 : v105 < 2147483648 := q127
      refine x_const (np := 16) (x := 9223372039002259456) (a := 2147483648) (by decide +kernel) (by decide) (by decide) ?_
      refine x_retI (np := 17) (x := 0) (by decide +kernel) (by decide) (Or.inr ⟨by decide +kernel, by first | decide | omega, by first | decide | omega⟩) ⟨_, rfl, (by decide), ?_⟩
      refine x_retI (np := 13) (x := 0) (by decide +kernel) (by decide) (Or.inr ⟨by decide +kernel, by first | decide | omega, by first | decide | omega⟩) ⟨_, rfl, (by decide), ?_⟩
      refine x_ifz (k := 0) (tg := 81) (np := 54) (by decide +kernel) (by decide) (by decide) (fun q129 => ?_) (fun q130 => ?_)
      · have q129 : 2147483648 = 2147483648 := q129
        refine x_const (np := 82) (x := 9223372039002259456) (a := 2147483648) (by decide +kernel) (by decide) (by decide) ?_
        have b131 := jB (e := 0) 0 hJ rg_78_0_0_1 (by first | decide | omega) (by first | decide | omega)
        have q132 : h123 78 0 = h109 78 0 := by rw [← e125]; exact x_up_i (by first | decide | omega)
        have q133 : h109 78 0 = h68 78 0 := jK 0 f111 rg_78_0_0_1 (by first | decide | omega) (by first | decide | omega) (by decide)
        have q134 : h68 78 0 = h34 78 0 := jK 0 f70 rg_78_0_0_1 (by first | decide | omega) (by first | decide | omega) (by decide)
        have q135 : h34 78 0 = h19 78 0 := by rw [← e36]; exact x_up_i (by first | decide | omega)
        have q136 : h19 78 0 = h 78 0 := jK 0 f21 rg_78_0_0_1 (by first | decide | omega) (by first | decide | omega) (by decide)
        have q137 : h123 78 1 = h109 78 1 := by rw [← e125]; exact x_up_i (by first | decide | omega)
        have q138 : h109 78 1 = h68 78 1 := jK 0 f111 rg_78_1_0_1 (by first | decide | omega) (by first | decide | omega) (by decide)
        have q139 : h68 78 1 = h34 78 1 := jK 0 f70 rg_78_1_0_1 (by first | decide | omega) (by first | decide | omega) (by decide)
        have q140 : h34 78 1 = h19 78 1 := by rw [← e36]; exact x_up_i (by first | decide | omega)
        have q141 : h19 78 1 = h 78 1 := jK 0 f21 rg_78_1_0_1 (by first | decide | omega) (by first | decide | omega) (by decide)
        have b142 := jB (e := 2) 0 hJ rg_78_2_0_1 (by first | decide | omega) (by first | decide | omega)
        have q143 : h123 78 2 = h109 78 2 := by rw [← e125]; exact x_up_i (by first | decide | omega)
        have q144 : h109 78 2 = h68 78 2 := jK 0 f111 rg_78_2_0_1 (by first | decide | omega) (by first | decide | omega) (by decide)
        have q145 : h68 78 2 = h34 78 2 := jK 0 f70 rg_78_2_0_1 (by first | decide | omega) (by first | decide | omega) (by decide)
        have q146 : h34 78 2 = h19 78 2 := by rw [← e36]; exact x_up_i (by first | decide | omega)
        have q147 : h19 78 2 = h 78 2 := jK 0 f21 rg_78_2_0_1 (by first | decide | omega) (by first | decide | omega) (by decide)
        have q148 : h123 78 3 = h109 78 3 := by rw [← e125]; exact x_up_i (by first | decide | omega)
        have q149 : h109 78 3 = h68 78 3 := jK 0 f111 rg_78_3_0_1 (by first | decide | omega) (by first | decide | omega) (by decide)
        have q150 : h68 78 3 = h34 78 3 := jK 0 f70 rg_78_3_0_1 (by first | decide | omega) (by first | decide | omega) (by decide)
        have q151 : h34 78 3 = h19 78 3 := by rw [← e36]; exact x_up_i (by first | decide | omega)
        have q152 : h19 78 3 = h 78 3 := jK 0 f21 rg_78_3_0_1 (by first | decide | omega) (by first | decide | omega) (by decide)
        have b153 := jB (e := 4) 0 hJ rg_78_4_0_1 (by first | decide | omega) (by first | decide | omega)
        have q154 : h123 78 4 = h109 78 4 := by rw [← e125]; exact x_up_i (by first | decide | omega)
        have q155 : h109 78 4 = h68 78 4 := jK 0 f111 rg_78_4_0_1 (by first | decide | omega) (by first | decide | omega) (by decide)
        have q156 : h68 78 4 = h34 78 4 := jK 0 f70 rg_78_4_0_1 (by first | decide | omega) (by first | decide | omega) (by decide)
        have q157 : h34 78 4 = h19 78 4 := by rw [← e36]; exact x_up_i (by first | decide | omega)
        have q158 : h19 78 4 = h 78 4 := jK 0 f21 rg_78_4_0_1 (by first | decide | omega) (by first | decide | omega) (by decide)
        have b159 := jB (e := 5) 0 hJ rg_78_5_0_1 (by first | decide | omega) (by first | decide | omega)
        have q160 : h123 78 5 = h109 78 5 := by rw [← e125]; exact x_up_i (by first | decide | omega)
        have q161 : h109 78 5 = h68 78 5 := jK 0 f111 rg_78_5_0_1 (by first | decide | omega) (by first | decide | omega) (by decide)
        have q162 : h68 78 5 = h34 78 5 := jK 0 f70 rg_78_5_0_1 (by first | decide | omega) (by first | decide | omega) (by decide)
        have q163 : h34 78 5 = h19 78 5 := by rw [← e36]; exact x_up_i (by first | decide | omega)
        have q164 : h19 78 5 = h 78 5 := jK 0 f21 rg_78_5_0_1 (by first | decide | omega) (by first | decide | omega) (by decide)
        have q165 : h34 75 7 = h19 75 7 := by rw [← e36]; exact x_up_k (by decide)
        obtain ⟨w166, e167⟩ := Tw.yes c74 (by first | decide | omega)
        refine x_retI (np := 83) (x := 0) (by decide +kernel) (by decide) (Or.inr ⟨by decide +kernel, by first | decide | omega, by first | decide | omega⟩) ⟨_, rfl, (by decide), ?_⟩
        exact ⟨j124, f126, (by first | decide | omega), (fun z => by first | decide | omega), (fun z => by first | decide | omega), (fun z => by first | decide | omega), (fun z => by first | decide | omega), (fun z => by first | decide | omega), (fun z => by first | decide | omega), (fun z => absurd z (by first | decide | omega)), (Or.inr ⟨by first | decide | omega, (nm9.y c28 (by first | decide | omega) (by first | decide | omega) rfl (by first | decide | omega) rfl (wd9.y w166 (congrArg (sk tB tN) (show h34 75 7 = h19 75 7 by first | decide | omega)) e167 rfl (nm9.f c118 (by first | decide | omega) (by first | decide | omega) rfl (by first | decide | omega) (by first | decide | omega))))⟩), (fun z => absurd z (by first | decide | omega))⟩
      have q130 : ¬ (2147483648 = 2147483648) := q130
      exfalso; omega
    have q128 : ¬ (v105 < 2147483648) := q128
    have b168 := c114 (by first | decide | omega)
    have b169 := c115 (by first | decide | omega)
    have b170 := c116 (by first | decide | omega)
    refine x_const (np := 12) (x := 9223372043297226753) (a := 2147483649) (by decide +kernel) (by decide) (by decide) ?_
    refine x_goto (np := 15) (x := 16) (by decide +kernel) ?_
    refine x_retI (np := 17) (x := 0) (by decide +kernel) (by decide) (Or.inr ⟨by decide +kernel, by first | decide | omega, by first | decide | omega⟩) ⟨_, rfl, (by decide), ?_⟩
    refine x_retI (np := 13) (x := 0) (by decide +kernel) (by decide) (Or.inr ⟨by decide +kernel, by first | decide | omega, by first | decide | omega⟩) ⟨_, rfl, (by decide), ?_⟩
    refine x_ifz (k := 0) (tg := 81) (np := 54) (by decide +kernel) (by decide) (by decide) (fun q171 => ?_) (fun q172 => ?_)
    · have q171 : 2147483649 = 2147483648 := q171
      exfalso; omega
    have q172 : ¬ (2147483649 = 2147483648) := q172
    refine x_aload (np := 55) (x := 0) (by decide +kernel) rfl (x_nc_le (by decide)) ?_
    refine x_ldcB (i := 7) (idx := 167) (tx := "read") (by rw [tb_y183]; exact List.mem_of_getElem? (i := 46) rfl) (by decide) (by rw [tb_b183]; decide +kernel) ?_
    have m177 := Tq.fr m108 f111 (by decide) (by decide)
    have m176 : Tq tB tN h123 := by rw [← e125]; exact Tq.oth m177 (by decide) (fun z => absurd z.1 (by decide))
    refine x_cI (t := 6) (mj := 172) (n := 2) (rc := 12) (ml := 2) (nr := 0) (np := 60) (as := [x_r 75, x_b (7 + 1)]) (rest := []) (lo1 := [x_r 75, x_b (7 + 1)]) (by decide +kernel) (by decide) (by decide +kernel) (x_rb_of (by decide +kernel)) rfl rfl (x_wr (by decide) (x_wB (by decide) x_wn)) x_wn (by decide) rfl (c172_75_S0 j124  (by decide) m176) (fun v173 h178 l174 q175 => ?_)
    obtain ⟨j179, f180, b181, c182, c183, c184⟩ := q175
    have f185 := Fr.trans f126 f180 (by decide)
    have q186 : h123 75 7 = h109 75 7 := by rw [← e125]; exact x_up_k (by decide)
    have b187 := jB (e := 7) 0 j179 rg_75_7_0_1 (by first | decide | omega) (by first | decide | omega)
    have q188 : h123 75 7 = h109 75 7 := by rw [← e125]; exact x_up_k (by decide)
    refine x_ifz (k := 0) (tg := 81) (np := 63) (by decide +kernel) (by decide) l174 (fun q189 => ?_) (fun q190 => ?_)
    · have q189 : v173 = 2147483648 := q189
      refine x_const (np := 82) (x := 9223372039002259456) (a := 2147483648) (by decide +kernel) (by decide) (by decide) ?_
      have b191 := jB (e := 0) 0 hJ rg_78_0_0_1 (by first | decide | omega) (by first | decide | omega)
      have q192 : h178 78 0 = h123 78 0 := jK 0 f180 rg_78_0_0_1 (by first | decide | omega) (by first | decide | omega) (by decide)
      have q193 : h123 78 0 = h109 78 0 := by rw [← e125]; exact x_up_i (by first | decide | omega)
      have q194 : h109 78 0 = h68 78 0 := jK 0 f111 rg_78_0_0_1 (by first | decide | omega) (by first | decide | omega) (by decide)
      have q195 : h68 78 0 = h34 78 0 := jK 0 f70 rg_78_0_0_1 (by first | decide | omega) (by first | decide | omega) (by decide)
      have q196 : h34 78 0 = h19 78 0 := by rw [← e36]; exact x_up_i (by first | decide | omega)
      have q197 : h19 78 0 = h 78 0 := jK 0 f21 rg_78_0_0_1 (by first | decide | omega) (by first | decide | omega) (by decide)
      have q198 : h178 78 1 = h123 78 1 := jK 0 f180 rg_78_1_0_1 (by first | decide | omega) (by first | decide | omega) (by decide)
      have q199 : h123 78 1 = h109 78 1 := by rw [← e125]; exact x_up_i (by first | decide | omega)
      have q200 : h109 78 1 = h68 78 1 := jK 0 f111 rg_78_1_0_1 (by first | decide | omega) (by first | decide | omega) (by decide)
      have q201 : h68 78 1 = h34 78 1 := jK 0 f70 rg_78_1_0_1 (by first | decide | omega) (by first | decide | omega) (by decide)
      have q202 : h34 78 1 = h19 78 1 := by rw [← e36]; exact x_up_i (by first | decide | omega)
      have q203 : h19 78 1 = h 78 1 := jK 0 f21 rg_78_1_0_1 (by first | decide | omega) (by first | decide | omega) (by decide)
      have b204 := jB (e := 2) 0 hJ rg_78_2_0_1 (by first | decide | omega) (by first | decide | omega)
      have q205 : h178 78 2 = h123 78 2 := jK 0 f180 rg_78_2_0_1 (by first | decide | omega) (by first | decide | omega) (by decide)
      have q206 : h123 78 2 = h109 78 2 := by rw [← e125]; exact x_up_i (by first | decide | omega)
      have q207 : h109 78 2 = h68 78 2 := jK 0 f111 rg_78_2_0_1 (by first | decide | omega) (by first | decide | omega) (by decide)
      have q208 : h68 78 2 = h34 78 2 := jK 0 f70 rg_78_2_0_1 (by first | decide | omega) (by first | decide | omega) (by decide)
      have q209 : h34 78 2 = h19 78 2 := by rw [← e36]; exact x_up_i (by first | decide | omega)
      have q210 : h19 78 2 = h 78 2 := jK 0 f21 rg_78_2_0_1 (by first | decide | omega) (by first | decide | omega) (by decide)
      have q211 : h178 78 3 = h123 78 3 := jK 0 f180 rg_78_3_0_1 (by first | decide | omega) (by first | decide | omega) (by decide)
      have q212 : h123 78 3 = h109 78 3 := by rw [← e125]; exact x_up_i (by first | decide | omega)
      have q213 : h109 78 3 = h68 78 3 := jK 0 f111 rg_78_3_0_1 (by first | decide | omega) (by first | decide | omega) (by decide)
      have q214 : h68 78 3 = h34 78 3 := jK 0 f70 rg_78_3_0_1 (by first | decide | omega) (by first | decide | omega) (by decide)
      have q215 : h34 78 3 = h19 78 3 := by rw [← e36]; exact x_up_i (by first | decide | omega)
      have q216 : h19 78 3 = h 78 3 := jK 0 f21 rg_78_3_0_1 (by first | decide | omega) (by first | decide | omega) (by decide)
      have b217 := jB (e := 4) 0 hJ rg_78_4_0_1 (by first | decide | omega) (by first | decide | omega)
      have q218 : h178 78 4 = h123 78 4 := jK 0 f180 rg_78_4_0_1 (by first | decide | omega) (by first | decide | omega) (by decide)
      have q219 : h123 78 4 = h109 78 4 := by rw [← e125]; exact x_up_i (by first | decide | omega)
      have q220 : h109 78 4 = h68 78 4 := jK 0 f111 rg_78_4_0_1 (by first | decide | omega) (by first | decide | omega) (by decide)
      have q221 : h68 78 4 = h34 78 4 := jK 0 f70 rg_78_4_0_1 (by first | decide | omega) (by first | decide | omega) (by decide)
      have q222 : h34 78 4 = h19 78 4 := by rw [← e36]; exact x_up_i (by first | decide | omega)
      have q223 : h19 78 4 = h 78 4 := jK 0 f21 rg_78_4_0_1 (by first | decide | omega) (by first | decide | omega) (by decide)
      have b224 := jB (e := 5) 0 hJ rg_78_5_0_1 (by first | decide | omega) (by first | decide | omega)
      have q225 : h178 78 5 = h123 78 5 := jK 0 f180 rg_78_5_0_1 (by first | decide | omega) (by first | decide | omega) (by decide)
      have q226 : h123 78 5 = h109 78 5 := by rw [← e125]; exact x_up_i (by first | decide | omega)
      have q227 : h109 78 5 = h68 78 5 := jK 0 f111 rg_78_5_0_1 (by first | decide | omega) (by first | decide | omega) (by decide)
      have q228 : h68 78 5 = h34 78 5 := jK 0 f70 rg_78_5_0_1 (by first | decide | omega) (by first | decide | omega) (by decide)
      have q229 : h34 78 5 = h19 78 5 := by rw [← e36]; exact x_up_i (by first | decide | omega)
      have q230 : h19 78 5 = h 78 5 := jK 0 f21 rg_78_5_0_1 (by first | decide | omega) (by first | decide | omega) (by decide)
      have q231 : h34 75 7 = h19 75 7 := by rw [← e36]; exact x_up_k (by decide)
      obtain ⟨w232, e233⟩ := Tw.yes c74 (by first | decide | omega)
      have q234 : h123 75 7 = h109 75 7 := by rw [← e125]; exact x_up_k (by decide)
      refine x_retI (np := 83) (x := 0) (by decide +kernel) (by decide) (Or.inr ⟨by decide +kernel, by first | decide | omega, by first | decide | omega⟩) ⟨_, rfl, (by decide), ?_⟩
      exact ⟨j179, f185, (by first | decide | omega), (fun z => by first | decide | omega), (fun z => by first | decide | omega), (fun z => by first | decide | omega), (fun z => by first | decide | omega), (fun z => by first | decide | omega), (fun z => by first | decide | omega), (fun z => absurd z (by first | decide | omega)), (Or.inr ⟨by first | decide | omega, (nm9.y c28 (by first | decide | omega) (by first | decide | omega) rfl (by first | decide | omega) rfl (wd9.y w232 (congrArg (sk tB tN) (show h34 75 7 = h19 75 7 by first | decide | omega)) e233 rfl (nm9.y c118 (by first | decide | omega) (by first | decide | omega) rfl (by first | decide | omega) rfl (wd9.f (Tw.no c184 (by first | decide | omega)) (congrArg (sk tB tN) (show h123 75 7 = h109 75 7 by first | decide | omega)) (by first | decide | omega)))))⟩), (fun z => absurd z (by first | decide | omega))⟩
    have q190 : ¬ (v173 = 2147483648) := q190
    have b235 := c183 (by first | decide | omega)
    refine x_aload (np := 64) (x := 0) (by decide +kernel) rfl (x_nc_le (by decide)) ?_
    refine x_iload (np := 65) (x := 1) (by decide +kernel) rfl (by first | decide | omega) ?_
    refine x_const (np := 66) (x := 9223372047592194050) (a := 2147483650) (by decide +kernel) (by decide) (by decide) ?_
    refine x_iadd (np := 67) (x := 0) (v := (2147483810 + 4 * u8)) (by decide +kernel) (by first | decide | omega) (by decide) (by first | decide | omega) (by first | decide | omega) ?_
    refine x_aload (np := 68) (x := 0) (by decide +kernel) rfl (x_nc_le (by decide)) ?_
    have q236 : h178 75 3 = 78 := by have z := jB (e := 3) 0 j179 rg_75_3_0_1 (by decide) (by decide); omega
    refine x_getR (np := 71) (x := 707) (f := 3) (q := 78) (by decide +kernel) (by decide) (by decide +kernel) q236 ?_
    refine x_iload (np := 72) (x := 1) (by decide +kernel) rfl (by first | decide | omega) ?_
    refine x_const (np := 73) (x := 9223372043297226753) (a := 2147483649) (by decide +kernel) (by decide) (by decide) ?_
    refine x_iadd (np := 74) (x := 0) (v := (2147483809 + 4 * u8)) (by decide +kernel) (by first | decide | omega) (by decide) (by first | decide | omega) (by first | decide | omega) ?_
    have q237 : h178 78 (161 + 4 * u8) = h123 78 (161 + 4 * u8) := jK u8 f180 rg_78_161_4_10 (by first | decide | omega) (by first | decide | omega) (by decide)
    have q238 : h123 78 (161 + 4 * u8) = v105 := by rw [← e125]; exact x_up_at
    refine x_aldC (np := 75) (x := 0) (n := 290) (i := (161 + 4 * u8)) (q := v105) (by decide +kernel) (by decide +kernel) (by first | decide | omega) (by first | decide | omega) (by decide) (q237.trans q238) (fun l239 => ?_)
    refine x_nI (t := 6) (mj := 178) (n := 3) (rc := 12) (ml := 3) (nr := 0) (np := 78) (as := [x_r 75, iv_c (2147483810 + 4 * u8), iv_c v105]) (rest := []) (lo1 := [x_r 75, iv_c (2147483810 + 4 * u8), iv_c v105]) (by decide +kernel) (by decide) (by decide +kernel) (x_rb_of (by decide +kernel)) rfl rfl (x_wr (by decide) (x_wi (by first | decide | omega) (x_wi l106 x_wn))) x_wn (by decide) rfl ?_
    refine x_aload (np := 1) (x := 0) (by decide +kernel) rfl (x_nc_le (by decide)) ?_
    refine x_iload (np := 2) (x := 1) (by decide +kernel) rfl (by first | decide | omega) ?_
    refine x_aload (np := 3) (x := 0) (by decide +kernel) rfl (x_nc_le (by decide)) ?_
    refine x_iload (np := 4) (x := 2) (by decide +kernel) rfl l106 ?_
    refine x_const (np := 6) (x := 9223372086246899723) (a := 2147483659) (by decide +kernel) (by decide) (by decide) ?_
    have m243 := Tq.fr m176 f180 (by decide) (by decide)
    refine x_cI (t := 6) (mj := 174) (n := 3) (rc := 12) (ml := 4) (nr := 2) (np := 9) (as := [x_r 75, iv_c v105, iv_c 2147483659]) (rest := [iv_c (2147483810 + 4 * u8), x_r 75]) (lo1 := [x_r 75, iv_c v105, iv_c 2147483659, 147573952589676412928]) (by decide +kernel) (by decide) (by decide +kernel) (x_rb_of (by decide +kernel)) rfl rfl (x_wr (by decide) (x_wi l106 (x_wi (by decide) x_wn))) (x_wi (by first | decide | omega) (x_wr (by decide) x_wn)) (by decide) rfl (c174_75 j179  (by first | decide | omega) (by first | decide | omega) m243) (fun v240 h244 l241 q242 => ?_)
    obtain ⟨j245, f246, b247, c248, c249, c250, c251, c252, c253⟩ := q242
    have f254 := Fr.trans f185 f246 (by decide)
    have b255 := jB (e := 7) 0 j245 rg_75_7_0_1 (by first | decide | omega) (by first | decide | omega)
    have b256 := c252 (by first | decide | omega)
    refine x_nI (t := 6) (mj := 176) (n := 3) (rc := 12) (ml := 3) (nr := 0) (np := 12) (as := [x_r 75, iv_c (2147483810 + 4 * u8), iv_c v240]) (rest := []) (lo1 := [x_r 75, iv_c (2147483810 + 4 * u8), iv_c v240]) (by decide +kernel) (by decide) (by decide +kernel) (x_rb_of (by decide +kernel)) rfl rfl (x_wr (by decide) (x_wi (by first | decide | omega) (x_wi l241 x_wn))) x_wn (by decide) rfl ?_
    refine x_aload (np := 1) (x := 0) (by decide +kernel) rfl (x_nc_le (by decide)) ?_
    have q257 : h244 75 3 = 78 := by have z := jB (e := 3) 0 j245 rg_75_3_0_1 (by decide) (by decide); omega
    refine x_getR (np := 4) (x := 707) (f := 3) (q := 78) (by decide +kernel) (by decide) (by decide +kernel) q257 ?_
    refine x_iload (np := 5) (x := 1) (by decide +kernel) rfl (by first | decide | omega) ?_
    refine x_iload (np := 6) (x := 2) (by decide +kernel) rfl l241 ?_
    refine x_ast (np := 7) (x := 0) (kd := 1) (n := 290) (i := (162 + 4 * u8)) (by decide +kernel) (Or.inl rfl) (by decide +kernel) (by first | decide | omega) (by first | decide | omega) (by decide) l241 (fun z => absurd z (by decide)) ?_
    have j259 := jU (e := (162 + 4 * u8)) (v := v240) u8 j245 rg_78_162_4_10 (by first | decide | omega) (by first | decide | omega) (by first | decide | omega)
    have f261 := jF (e := (162 + 4 * u8)) (v := v240) u8 f254 rg_78_162_4_10 (by first | decide | omega) (by first | decide | omega) (by decide)
    generalize e260 : x_up h244 78 (162 + 4 * u8) v240 = h258 at j259 f261 ⊢
    refine x_iload (np := 8) (x := 2) (by decide +kernel) rfl l241 ?_
    refine x_ifz (k := 2) (tg := 15) (np := 11) (by decide +kernel) (by decide) l241 (fun q262 => ?_) (fun q263 => ?_)
    · have q262 : v240 < 2147483648 := q262
      refine x_const (np := 16) (x := 9223372039002259456) (a := 2147483648) (by decide +kernel) (by decide) (by decide) ?_
      refine x_retI (np := 17) (x := 0) (by decide +kernel) (by decide) (Or.inr ⟨by decide +kernel, by first | decide | omega, by first | decide | omega⟩) ⟨_, rfl, (by decide), ?_⟩
      refine x_retI (np := 13) (x := 0) (by decide +kernel) (by decide) (Or.inr ⟨by decide +kernel, by first | decide | omega, by first | decide | omega⟩) ⟨_, rfl, (by decide), ?_⟩
      refine x_ifz (k := 1) (tg := 83) (np := 81) (by decide +kernel) (by decide) (by decide) (fun q264 => ?_) (fun q265 => ?_)
      · have q264 : 2147483648 ≠ 2147483648 := q264
        exfalso; omega
      have q265 : ¬ (2147483648 ≠ 2147483648) := q265
      refine x_const (np := 82) (x := 9223372039002259456) (a := 2147483648) (by decide +kernel) (by decide) (by decide) ?_
      have b266 := jB (e := 0) 0 hJ rg_78_0_0_1 (by first | decide | omega) (by first | decide | omega)
      have q267 : h258 78 0 = h244 78 0 := by rw [← e260]; exact x_up_i (by first | decide | omega)
      have q268 : h244 78 0 = h178 78 0 := jK 0 f246 rg_78_0_0_1 (by first | decide | omega) (by first | decide | omega) (by decide)
      have q269 : h178 78 0 = h123 78 0 := jK 0 f180 rg_78_0_0_1 (by first | decide | omega) (by first | decide | omega) (by decide)
      have q270 : h123 78 0 = h109 78 0 := by rw [← e125]; exact x_up_i (by first | decide | omega)
      have q271 : h109 78 0 = h68 78 0 := jK 0 f111 rg_78_0_0_1 (by first | decide | omega) (by first | decide | omega) (by decide)
      have q272 : h68 78 0 = h34 78 0 := jK 0 f70 rg_78_0_0_1 (by first | decide | omega) (by first | decide | omega) (by decide)
      have q273 : h34 78 0 = h19 78 0 := by rw [← e36]; exact x_up_i (by first | decide | omega)
      have q274 : h19 78 0 = h 78 0 := jK 0 f21 rg_78_0_0_1 (by first | decide | omega) (by first | decide | omega) (by decide)
      have q275 : h258 78 1 = h244 78 1 := by rw [← e260]; exact x_up_i (by first | decide | omega)
      have q276 : h244 78 1 = h178 78 1 := jK 0 f246 rg_78_1_0_1 (by first | decide | omega) (by first | decide | omega) (by decide)
      have q277 : h178 78 1 = h123 78 1 := jK 0 f180 rg_78_1_0_1 (by first | decide | omega) (by first | decide | omega) (by decide)
      have q278 : h123 78 1 = h109 78 1 := by rw [← e125]; exact x_up_i (by first | decide | omega)
      have q279 : h109 78 1 = h68 78 1 := jK 0 f111 rg_78_1_0_1 (by first | decide | omega) (by first | decide | omega) (by decide)
      have q280 : h68 78 1 = h34 78 1 := jK 0 f70 rg_78_1_0_1 (by first | decide | omega) (by first | decide | omega) (by decide)
      have q281 : h34 78 1 = h19 78 1 := by rw [← e36]; exact x_up_i (by first | decide | omega)
      have q282 : h19 78 1 = h 78 1 := jK 0 f21 rg_78_1_0_1 (by first | decide | omega) (by first | decide | omega) (by decide)
      have b283 := jB (e := 2) 0 hJ rg_78_2_0_1 (by first | decide | omega) (by first | decide | omega)
      have q284 : h258 78 2 = h244 78 2 := by rw [← e260]; exact x_up_i (by first | decide | omega)
      have q285 : h244 78 2 = h178 78 2 := jK 0 f246 rg_78_2_0_1 (by first | decide | omega) (by first | decide | omega) (by decide)
      have q286 : h178 78 2 = h123 78 2 := jK 0 f180 rg_78_2_0_1 (by first | decide | omega) (by first | decide | omega) (by decide)
      have q287 : h123 78 2 = h109 78 2 := by rw [← e125]; exact x_up_i (by first | decide | omega)
      have q288 : h109 78 2 = h68 78 2 := jK 0 f111 rg_78_2_0_1 (by first | decide | omega) (by first | decide | omega) (by decide)
      have q289 : h68 78 2 = h34 78 2 := jK 0 f70 rg_78_2_0_1 (by first | decide | omega) (by first | decide | omega) (by decide)
      have q290 : h34 78 2 = h19 78 2 := by rw [← e36]; exact x_up_i (by first | decide | omega)
      have q291 : h19 78 2 = h 78 2 := jK 0 f21 rg_78_2_0_1 (by first | decide | omega) (by first | decide | omega) (by decide)
      have q292 : h258 78 3 = h244 78 3 := by rw [← e260]; exact x_up_i (by first | decide | omega)
      have q293 : h244 78 3 = h178 78 3 := jK 0 f246 rg_78_3_0_1 (by first | decide | omega) (by first | decide | omega) (by decide)
      have q294 : h178 78 3 = h123 78 3 := jK 0 f180 rg_78_3_0_1 (by first | decide | omega) (by first | decide | omega) (by decide)
      have q295 : h123 78 3 = h109 78 3 := by rw [← e125]; exact x_up_i (by first | decide | omega)
      have q296 : h109 78 3 = h68 78 3 := jK 0 f111 rg_78_3_0_1 (by first | decide | omega) (by first | decide | omega) (by decide)
      have q297 : h68 78 3 = h34 78 3 := jK 0 f70 rg_78_3_0_1 (by first | decide | omega) (by first | decide | omega) (by decide)
      have q298 : h34 78 3 = h19 78 3 := by rw [← e36]; exact x_up_i (by first | decide | omega)
      have q299 : h19 78 3 = h 78 3 := jK 0 f21 rg_78_3_0_1 (by first | decide | omega) (by first | decide | omega) (by decide)
      have b300 := jB (e := 4) 0 hJ rg_78_4_0_1 (by first | decide | omega) (by first | decide | omega)
      have q301 : h258 78 4 = h244 78 4 := by rw [← e260]; exact x_up_i (by first | decide | omega)
      have q302 : h244 78 4 = h178 78 4 := jK 0 f246 rg_78_4_0_1 (by first | decide | omega) (by first | decide | omega) (by decide)
      have q303 : h178 78 4 = h123 78 4 := jK 0 f180 rg_78_4_0_1 (by first | decide | omega) (by first | decide | omega) (by decide)
      have q304 : h123 78 4 = h109 78 4 := by rw [← e125]; exact x_up_i (by first | decide | omega)
      have q305 : h109 78 4 = h68 78 4 := jK 0 f111 rg_78_4_0_1 (by first | decide | omega) (by first | decide | omega) (by decide)
      have q306 : h68 78 4 = h34 78 4 := jK 0 f70 rg_78_4_0_1 (by first | decide | omega) (by first | decide | omega) (by decide)
      have q307 : h34 78 4 = h19 78 4 := by rw [← e36]; exact x_up_i (by first | decide | omega)
      have q308 : h19 78 4 = h 78 4 := jK 0 f21 rg_78_4_0_1 (by first | decide | omega) (by first | decide | omega) (by decide)
      have b309 := jB (e := 5) 0 hJ rg_78_5_0_1 (by first | decide | omega) (by first | decide | omega)
      have q310 : h258 78 5 = h244 78 5 := by rw [← e260]; exact x_up_i (by first | decide | omega)
      have q311 : h244 78 5 = h178 78 5 := jK 0 f246 rg_78_5_0_1 (by first | decide | omega) (by first | decide | omega) (by decide)
      have q312 : h178 78 5 = h123 78 5 := jK 0 f180 rg_78_5_0_1 (by first | decide | omega) (by first | decide | omega) (by decide)
      have q313 : h123 78 5 = h109 78 5 := by rw [← e125]; exact x_up_i (by first | decide | omega)
      have q314 : h109 78 5 = h68 78 5 := jK 0 f111 rg_78_5_0_1 (by first | decide | omega) (by first | decide | omega) (by decide)
      have q315 : h68 78 5 = h34 78 5 := jK 0 f70 rg_78_5_0_1 (by first | decide | omega) (by first | decide | omega) (by decide)
      have q316 : h34 78 5 = h19 78 5 := by rw [← e36]; exact x_up_i (by first | decide | omega)
      have q317 : h19 78 5 = h 78 5 := jK 0 f21 rg_78_5_0_1 (by first | decide | omega) (by first | decide | omega) (by decide)
      have q318 : h34 75 7 = h19 75 7 := by rw [← e36]; exact x_up_k (by decide)
      obtain ⟨w319, e320⟩ := Tw.yes c74 (by first | decide | omega)
      have q321 : h123 75 7 = h109 75 7 := by rw [← e125]; exact x_up_k (by decide)
      obtain ⟨w322, e323⟩ := Tw.yes c184 (by first | decide | omega)
      refine x_retI (np := 83) (x := 0) (by decide +kernel) (by decide) (Or.inr ⟨by decide +kernel, by first | decide | omega, by first | decide | omega⟩) ⟨_, rfl, (by decide), ?_⟩
      exact ⟨j259, f261, (by first | decide | omega), (fun z => by first | decide | omega), (fun z => by first | decide | omega), (fun z => by first | decide | omega), (fun z => by first | decide | omega), (fun z => by first | decide | omega), (fun z => by first | decide | omega), (fun z => absurd z (by first | decide | omega)), (Or.inr ⟨by first | decide | omega, (nm9.y c28 (by first | decide | omega) (by first | decide | omega) rfl (by first | decide | omega) rfl (wd9.y w319 (congrArg (sk tB tN) (show h34 75 7 = h19 75 7 by first | decide | omega)) e320 rfl (nm9.y c118 (by first | decide | omega) (by first | decide | omega) rfl (by first | decide | omega) rfl (wd9.y w322 (congrArg (sk tB tN) (show h123 75 7 = h109 75 7 by first | decide | omega)) e323 rfl (nm9.f c253 (by first | decide | omega) (by first | decide | omega) rfl (by first | decide | omega) (by first | decide | omega))))))⟩), (fun z => absurd z (by first | decide | omega))⟩
    have q263 : ¬ (v240 < 2147483648) := q263
    have b324 := c249 (by first | decide | omega)
    have b325 := c250 (by first | decide | omega)
    have b326 := c251 (by first | decide | omega)
    refine x_const (np := 12) (x := 9223372043297226753) (a := 2147483649) (by decide +kernel) (by decide) (by decide) ?_
    refine x_goto (np := 15) (x := 16) (by decide +kernel) ?_
    refine x_retI (np := 17) (x := 0) (by decide +kernel) (by decide) (Or.inr ⟨by decide +kernel, by first | decide | omega, by first | decide | omega⟩) ⟨_, rfl, (by decide), ?_⟩
    refine x_retI (np := 13) (x := 0) (by decide +kernel) (by decide) (Or.inr ⟨by decide +kernel, by first | decide | omega, by first | decide | omega⟩) ⟨_, rfl, (by decide), ?_⟩
    refine x_ifz (k := 1) (tg := 83) (np := 81) (by decide +kernel) (by decide) (by decide) (fun q327 => ?_) (fun q328 => ?_)
    · have q327 : 2147483649 ≠ 2147483648 := q327
      refine x_aload (np := 84) (x := 0) (by decide +kernel) rfl (x_nc_le (by decide)) ?_
      have q329 : h258 75 3 = 78 := by have z := jB (e := 3) 0 j259 rg_75_3_0_1 (by decide) (by decide); omega
      refine x_getR (np := 87) (x := 707) (f := 3) (q := 78) (by decide +kernel) (by decide) (by decide +kernel) q329 ?_
      refine x_iload (np := 88) (x := 1) (by decide +kernel) rfl (by first | decide | omega) ?_
      refine x_const (np := 89) (x := 9223372051887161347) (a := 2147483651) (by decide +kernel) (by decide) (by decide) ?_
      refine x_iadd (np := 90) (x := 0) (v := (2147483811 + 4 * u8)) (by decide +kernel) (by first | decide | omega) (by decide) (by first | decide | omega) (by first | decide | omega) ?_
      refine x_const (np := 91) (x := 9223372034707292159) (a := 2147483647) (by decide +kernel) (by decide) (by decide) ?_
      refine x_ast (np := 92) (x := 0) (kd := 1) (n := 290) (i := (163 + 4 * u8)) (by decide +kernel) (Or.inl rfl) (by decide +kernel) (by first | decide | omega) (by first | decide | omega) (by decide) (by decide) (fun z => absurd z (by decide)) ?_
      have j331 := jU (e := (163 + 4 * u8)) (v := 2147483647) u8 j259 rg_78_163_4_10 (by first | decide | omega) (by first | decide | omega) (by first | decide | omega)
      have f333 := jF (e := (163 + 4 * u8)) (v := 2147483647) u8 f261 rg_78_163_4_10 (by first | decide | omega) (by first | decide | omega) (by decide)
      generalize e332 : x_up h258 78 (163 + 4 * u8) 2147483647 = h330 at j331 f333 ⊢
      refine x_aload (np := 93) (x := 0) (by decide +kernel) rfl (x_nc_le (by decide)) ?_
      have q334 : h330 75 3 = 78 := by have z := jB (e := 3) 0 j331 rg_75_3_0_1 (by decide) (by decide); omega
      refine x_getR (np := 96) (x := 707) (f := 3) (q := 78) (by decide +kernel) (by decide) (by decide +kernel) q334 ?_
      refine x_const (np := 97) (x := 9223372051887161347) (a := 2147483651) (by decide +kernel) (by decide) (by decide) ?_
      refine x_dup2 (np := 98) (x := 0) (by decide +kernel) (by have z := (iw_c_lt (a := 2147483651) (by decide)).1; omega) (by have z := x_nc_le (k := 78) (by decide); unfold x_r; omega) ?_
      have q335 : h330 78 3 = h258 78 3 := by rw [← e332]; exact x_up_i (by first | decide | omega)
      have q336 : h258 78 3 = h244 78 3 := by rw [← e260]; exact x_up_i (by first | decide | omega)
      have q337 : h244 78 3 = h178 78 3 := jK 0 f246 rg_78_3_0_1 (by first | decide | omega) (by first | decide | omega) (by decide)
      have q338 : h178 78 3 = h123 78 3 := jK 0 f180 rg_78_3_0_1 (by first | decide | omega) (by first | decide | omega) (by decide)
      have q339 : h123 78 3 = h109 78 3 := by rw [← e125]; exact x_up_i (by first | decide | omega)
      have q340 : h109 78 3 = h68 78 3 := jK 0 f111 rg_78_3_0_1 (by first | decide | omega) (by first | decide | omega) (by decide)
      have q341 : h68 78 3 = h34 78 3 := jK 0 f70 rg_78_3_0_1 (by first | decide | omega) (by first | decide | omega) (by decide)
      have q342 : h34 78 3 = h19 78 3 := by rw [← e36]; exact x_up_i (by first | decide | omega)
      have q343 : h19 78 3 = h 78 3 := jK 0 f21 rg_78_3_0_1 (by first | decide | omega) (by first | decide | omega) (by decide)
      refine x_aldC (np := 99) (x := 0) (n := 290) (i := 3) (q := (h 78 3)) (by decide +kernel) (by decide +kernel) (by first | decide | omega) (by first | decide | omega) (by decide) ((((((((q335.trans q336).trans q337).trans q338).trans q339).trans q340).trans q341).trans q342).trans q343) (fun l344 => ?_)
      refine x_const (np := 100) (x := 9223372043297226753) (a := 2147483649) (by decide +kernel) (by decide) (by decide) ?_
      refine x_iadd (np := 101) (x := 0) (v := (1 + (h 78 3))) (by decide +kernel) l3 (by decide) (by first | decide | omega) (by first | decide | omega) ?_
      refine x_ast (np := 102) (x := 0) (kd := 1) (n := 290) (i := 3) (by decide +kernel) (Or.inl rfl) (by decide +kernel) (by first | decide | omega) (by first | decide | omega) (by decide) (by first | decide | omega) (fun z => absurd z (by decide)) ?_
      have j346 := jU (e := 3) (v := (1 + (h 78 3))) 0 j331 rg_78_3_0_1 (by first | decide | omega) (by first | decide | omega) (by first | decide | omega)
      have f348 := jF (e := 3) (v := (1 + (h 78 3))) 0 f333 rg_78_3_0_1 (by first | decide | omega) (by first | decide | omega) (by decide)
      generalize e347 : x_up h330 78 3 (1 + (h 78 3)) = h345 at j346 f348 ⊢
      refine x_const (np := 103) (x := 9223372043297226753) (a := 2147483649) (by decide +kernel) (by decide) (by decide) ?_
      have b349 := jB (e := 0) 0 hJ rg_78_0_0_1 (by first | decide | omega) (by first | decide | omega)
      have q350 : h345 78 0 = h330 78 0 := by rw [← e347]; exact x_up_i (by first | decide | omega)
      have q351 : h330 78 0 = h258 78 0 := by rw [← e332]; exact x_up_i (by first | decide | omega)
      have q352 : h258 78 0 = h244 78 0 := by rw [← e260]; exact x_up_i (by first | decide | omega)
      have q353 : h244 78 0 = h178 78 0 := jK 0 f246 rg_78_0_0_1 (by first | decide | omega) (by first | decide | omega) (by decide)
      have q354 : h178 78 0 = h123 78 0 := jK 0 f180 rg_78_0_0_1 (by first | decide | omega) (by first | decide | omega) (by decide)
      have q355 : h123 78 0 = h109 78 0 := by rw [← e125]; exact x_up_i (by first | decide | omega)
      have q356 : h109 78 0 = h68 78 0 := jK 0 f111 rg_78_0_0_1 (by first | decide | omega) (by first | decide | omega) (by decide)
      have q357 : h68 78 0 = h34 78 0 := jK 0 f70 rg_78_0_0_1 (by first | decide | omega) (by first | decide | omega) (by decide)
      have q358 : h34 78 0 = h19 78 0 := by rw [← e36]; exact x_up_i (by first | decide | omega)
      have q359 : h19 78 0 = h 78 0 := jK 0 f21 rg_78_0_0_1 (by first | decide | omega) (by first | decide | omega) (by decide)
      have q360 : h345 78 1 = h330 78 1 := by rw [← e347]; exact x_up_i (by first | decide | omega)
      have q361 : h330 78 1 = h258 78 1 := by rw [← e332]; exact x_up_i (by first | decide | omega)
      have q362 : h258 78 1 = h244 78 1 := by rw [← e260]; exact x_up_i (by first | decide | omega)
      have q363 : h244 78 1 = h178 78 1 := jK 0 f246 rg_78_1_0_1 (by first | decide | omega) (by first | decide | omega) (by decide)
      have q364 : h178 78 1 = h123 78 1 := jK 0 f180 rg_78_1_0_1 (by first | decide | omega) (by first | decide | omega) (by decide)
      have q365 : h123 78 1 = h109 78 1 := by rw [← e125]; exact x_up_i (by first | decide | omega)
      have q366 : h109 78 1 = h68 78 1 := jK 0 f111 rg_78_1_0_1 (by first | decide | omega) (by first | decide | omega) (by decide)
      have q367 : h68 78 1 = h34 78 1 := jK 0 f70 rg_78_1_0_1 (by first | decide | omega) (by first | decide | omega) (by decide)
      have q368 : h34 78 1 = h19 78 1 := by rw [← e36]; exact x_up_i (by first | decide | omega)
      have q369 : h19 78 1 = h 78 1 := jK 0 f21 rg_78_1_0_1 (by first | decide | omega) (by first | decide | omega) (by decide)
      have b370 := jB (e := 2) 0 hJ rg_78_2_0_1 (by first | decide | omega) (by first | decide | omega)
      have q371 : h345 78 2 = h330 78 2 := by rw [← e347]; exact x_up_i (by first | decide | omega)
      have q372 : h330 78 2 = h258 78 2 := by rw [← e332]; exact x_up_i (by first | decide | omega)
      have q373 : h258 78 2 = h244 78 2 := by rw [← e260]; exact x_up_i (by first | decide | omega)
      have q374 : h244 78 2 = h178 78 2 := jK 0 f246 rg_78_2_0_1 (by first | decide | omega) (by first | decide | omega) (by decide)
      have q375 : h178 78 2 = h123 78 2 := jK 0 f180 rg_78_2_0_1 (by first | decide | omega) (by first | decide | omega) (by decide)
      have q376 : h123 78 2 = h109 78 2 := by rw [← e125]; exact x_up_i (by first | decide | omega)
      have q377 : h109 78 2 = h68 78 2 := jK 0 f111 rg_78_2_0_1 (by first | decide | omega) (by first | decide | omega) (by decide)
      have q378 : h68 78 2 = h34 78 2 := jK 0 f70 rg_78_2_0_1 (by first | decide | omega) (by first | decide | omega) (by decide)
      have q379 : h34 78 2 = h19 78 2 := by rw [← e36]; exact x_up_i (by first | decide | omega)
      have q380 : h19 78 2 = h 78 2 := jK 0 f21 rg_78_2_0_1 (by first | decide | omega) (by first | decide | omega) (by decide)
      have q381 : h345 78 3 = (1 + (h 78 3)) := by rw [← e347]; exact x_up_at
      have b382 := jB (e := 4) 0 hJ rg_78_4_0_1 (by first | decide | omega) (by first | decide | omega)
      have q383 : h345 78 4 = h330 78 4 := by rw [← e347]; exact x_up_i (by first | decide | omega)
      have q384 : h330 78 4 = h258 78 4 := by rw [← e332]; exact x_up_i (by first | decide | omega)
      have q385 : h258 78 4 = h244 78 4 := by rw [← e260]; exact x_up_i (by first | decide | omega)
      have q386 : h244 78 4 = h178 78 4 := jK 0 f246 rg_78_4_0_1 (by first | decide | omega) (by first | decide | omega) (by decide)
      have q387 : h178 78 4 = h123 78 4 := jK 0 f180 rg_78_4_0_1 (by first | decide | omega) (by first | decide | omega) (by decide)
      have q388 : h123 78 4 = h109 78 4 := by rw [← e125]; exact x_up_i (by first | decide | omega)
      have q389 : h109 78 4 = h68 78 4 := jK 0 f111 rg_78_4_0_1 (by first | decide | omega) (by first | decide | omega) (by decide)
      have q390 : h68 78 4 = h34 78 4 := jK 0 f70 rg_78_4_0_1 (by first | decide | omega) (by first | decide | omega) (by decide)
      have q391 : h34 78 4 = h19 78 4 := by rw [← e36]; exact x_up_i (by first | decide | omega)
      have q392 : h19 78 4 = h 78 4 := jK 0 f21 rg_78_4_0_1 (by first | decide | omega) (by first | decide | omega) (by decide)
      have b393 := jB (e := 5) 0 hJ rg_78_5_0_1 (by first | decide | omega) (by first | decide | omega)
      have q394 : h345 78 5 = h330 78 5 := by rw [← e347]; exact x_up_i (by first | decide | omega)
      have q395 : h330 78 5 = h258 78 5 := by rw [← e332]; exact x_up_i (by first | decide | omega)
      have q396 : h258 78 5 = h244 78 5 := by rw [← e260]; exact x_up_i (by first | decide | omega)
      have q397 : h244 78 5 = h178 78 5 := jK 0 f246 rg_78_5_0_1 (by first | decide | omega) (by first | decide | omega) (by decide)
      have q398 : h178 78 5 = h123 78 5 := jK 0 f180 rg_78_5_0_1 (by first | decide | omega) (by first | decide | omega) (by decide)
      have q399 : h123 78 5 = h109 78 5 := by rw [← e125]; exact x_up_i (by first | decide | omega)
      have q400 : h109 78 5 = h68 78 5 := jK 0 f111 rg_78_5_0_1 (by first | decide | omega) (by first | decide | omega) (by decide)
      have q401 : h68 78 5 = h34 78 5 := jK 0 f70 rg_78_5_0_1 (by first | decide | omega) (by first | decide | omega) (by decide)
      have q402 : h34 78 5 = h19 78 5 := by rw [← e36]; exact x_up_i (by first | decide | omega)
      have q403 : h19 78 5 = h 78 5 := jK 0 f21 rg_78_5_0_1 (by first | decide | omega) (by first | decide | omega) (by decide)
      have m413 := Cl.fr hC f21 (by decide)
      have m412 : Cl h34 := by rw [← e36]; exact Cl.upR (e := (160 + 4 * u8)) (v := v16) u8 m413 rg_76_160_4_10 (by first | decide | omega) (by first | decide | omega) (by first | decide | omega)
      have m411 := Cl.fr m412 f70 (by decide)
      have m410 := Cl.fr m411 f111 (by decide)
      have m409 : Cl h123 := by rw [← e125]; exact Cl.upR (e := (161 + 4 * u8)) (v := v105) u8 m410 rg_76_161_4_10 (by first | decide | omega) (by first | decide | omega) (by first | decide | omega)
      have m408 := Cl.fr m409 f180 (by decide)
      have m407 := Cl.fr m408 f246 (by decide)
      have m406 : Cl h258 := by rw [← e260]; exact Cl.upR (e := (162 + 4 * u8)) (v := v240) u8 m407 rg_76_162_4_10 (by first | decide | omega) (by first | decide | omega) (by first | decide | omega)
      have m405 : Cl h330 := by rw [← e332]; exact Cl.upR (e := (163 + 4 * u8)) (v := 2147483647) u8 m406 rg_76_163_4_10 (by first | decide | omega) (by first | decide | omega) (by first | decide | omega)
      have m404 : Cl h345 := by rw [← e347]; exact Cl.upR (e := 3) (v := (1 + (h 78 3))) 0 m405 rg_76_3_0_1 (by first | decide | omega) (by first | decide | omega) (by first | decide | omega)
      have q414 : h34 75 7 = h19 75 7 := by rw [← e36]; exact x_up_k (by decide)
      obtain ⟨w415, e416⟩ := Tw.yes c74 (by first | decide | omega)
      have q417 : h123 75 7 = h109 75 7 := by rw [← e125]; exact x_up_k (by decide)
      obtain ⟨w418, e419⟩ := Tw.yes c184 (by first | decide | omega)
      have q420 : h345 75 7 = h330 75 7 := by rw [← e347]; exact x_up_k (by decide)
      have q421 : h330 75 7 = h258 75 7 := by rw [← e332]; exact x_up_k (by decide)
      have q422 : h258 75 7 = h244 75 7 := by rw [← e260]; exact x_up_k (by decide)
      have q423 : h345 78 3 = (1 + (h 78 3)) := by rw [← e347]; exact x_up_at
      have q424 : h345 78 (163 + 4 * u8) = h330 78 (163 + 4 * u8) := by rw [← e347]; exact x_up_i (by first | decide | omega)
      have q425 : h330 78 (163 + 4 * u8) = 2147483647 := by rw [← e332]; exact x_up_at
      have m426 : ∀ u, u < 10 → u ≠ u8 → wdr h345 u = wdr h u := fun u hu hne => (Eq.trans (show wdr h345 u = wdr h330 u by rw [← e347]; exact wdr_i (by first | decide | omega)) (Eq.trans (show wdr h330 u = wdr h258 u by rw [← e332]; exact wdr_i (by first | decide | omega)) (Eq.trans (show wdr h258 u = wdr h244 u by rw [← e260]; exact wdr_i (by first | decide | omega)) (Eq.trans (wdr_gr f246 (by decide) u hu) (Eq.trans (wdr_gr f180 (by decide) u hu) (Eq.trans (show wdr h123 u = wdr h109 u by rw [← e125]; exact wdr_i (by first | decide | omega)) (Eq.trans (wdr_gr f111 (by decide) u hu) (Eq.trans (wdr_gr f70 (by decide) u hu) (Eq.trans (show wdr h34 u = wdr h19 u by rw [← e36]; exact wdr_i (by first | decide | omega)) (wdr_gr f21 (by decide) u hu))))))))))
      refine x_retI (np := 104) (x := 0) (by decide +kernel) (by decide) (Or.inr ⟨by decide +kernel, by first | decide | omega, by first | decide | omega⟩) ⟨_, rfl, (by decide), ?_⟩
      exact ⟨j346, f348, (by first | decide | omega), (fun z => by first | decide | omega), (fun z => by first | decide | omega), (fun z => by first | decide | omega), (fun z => by first | decide | omega), (fun z => by first | decide | omega), (fun z => by first | decide | omega), (fun _ => m404), (Or.inr ⟨by first | decide | omega, (nm9.y c28 (by first | decide | omega) (by first | decide | omega) rfl (by first | decide | omega) rfl (wd9.y w415 (congrArg (sk tB tN) (show h34 75 7 = h19 75 7 by first | decide | omega)) e416 rfl (nm9.y c118 (by first | decide | omega) (by first | decide | omega) rfl (by first | decide | omega) rfl (wd9.y w418 (congrArg (sk tB tN) (show h123 75 7 = h109 75 7 by first | decide | omega)) e419 rfl (nm9.y c253 (by first | decide | omega) (by first | decide | omega) rfl (by first | decide | omega) rfl (fin9.mk (by first | decide | omega) (congrArg (sk tB tN) (show h244 75 7 = h345 75 7 by first | decide | omega))))))))⟩), (fun _ => Wl.one (u0 := u8) (by first | decide | omega) (by first | decide | omega) (show h345 78 (163 + 4 * u8) = 2147483647 by first | decide | omega) m426)⟩
    have q328 : ¬ (2147483649 ≠ 2147483648) := q328
    exfalso; omega
  have q5 : ¬ ((h 78 3) ≠ 2147483658) := q5
  refine x_const (np := 12) (x := 9223372039002259456) (a := 2147483648) (by decide +kernel) (by decide) (by decide) ?_
  have b427 := jB (e := 0) 0 hJ rg_78_0_0_1 (by first | decide | omega) (by first | decide | omega)
  have b428 := jB (e := 2) 0 hJ rg_78_2_0_1 (by first | decide | omega) (by first | decide | omega)
  have b429 := jB (e := 4) 0 hJ rg_78_4_0_1 (by first | decide | omega) (by first | decide | omega)
  have b430 := jB (e := 5) 0 hJ rg_78_5_0_1 (by first | decide | omega) (by first | decide | omega)
  have b431 := jB (e := 0) 0 hJ rg_76_0_0_1 (by first | decide | omega) (by first | decide | omega)
  refine x_retI (np := 13) (x := 0) (by decide +kernel) (by decide) (Or.inr ⟨by decide +kernel, by first | decide | omega, by first | decide | omega⟩) ⟨_, rfl, (by decide), ?_⟩
  exact ⟨hJ, hF, (by first | decide | omega), (fun z => by first | decide | omega), (fun z => by first | decide | omega), (fun z => by first | decide | omega), (fun z => by first | decide | omega), (fun z => by first | decide | omega), (fun z => by first | decide | omega), (fun z => absurd z (by first | decide | omega)), (Or.inl ⟨by first | decide | omega, by first | decide | omega⟩), (fun z => absurd z (by first | decide | omega))⟩
set_option maxHeartbeats 0 in
/-- LentNamesModel.readCourt()Z -/
theorem c182_75 {sc : Nat × Nat} {d  : Nat} {h : xh} {tB : Nat → Nat} {tN : Nat} (hJ : J h) (hC : Cl h) (hT : Tq tB tN h) : X sc 182 (d + 6) (xI fun r h' => J h' ∧ Fr 273678337 h h' ∧ (2147483648 ≤ r ∧ r ≤ 2147483649) ∧ (r = 2147483649 → h' 78 0 = h 78 0) ∧ (r = 2147483649 → h' 78 1 = h 78 1) ∧ (r = 2147483649 → h' 78 2 = h 78 2) ∧ (r = 2147483649 → h' 78 3 = h 78 3) ∧ (r = 2147483649 → h' 78 4 = h 78 4) ∧ (r = 2147483649 → h' 78 5 = h 78 5) ∧ (r = 2147483649 → Cl h') ∧ court9 tB tN (sk tB tN (h 75 7)) (rs r (sk tB tN (h' 75 7)))) 0 0 0 [x_r 75, 147573952589676412928] [] h := by
  have hF := Fr.refl 273678337 h
  refine x_aload (np := 1) (x := 0) (by decide +kernel) rfl (x_nc_le (by decide)) ?_
  refine x_ldcB (i := 2) (idx := 147) (tx := "day") (by rw [tb_y182]; exact List.mem_of_getElem? (i := 37) rfl) (by decide) (by rw [tb_b182]; decide +kernel) ?_
  refine x_cI (t := 6) (mj := 172) (n := 2) (rc := 12) (ml := 2) (nr := 0) (np := 6) (as := [x_r 75, x_b (2 + 1)]) (rest := []) (lo1 := [x_r 75, x_b (2 + 1)]) (by decide +kernel) (by decide) (by decide +kernel) (x_rb_of (by decide +kernel)) rfl rfl (x_wr (by decide) (x_wB (by decide) x_wn)) x_wn (by decide) rfl (c172_75_S0 hJ  (by decide) hT) (fun v1 h4 l2 q3 => ?_)
  obtain ⟨j5, f6, b7, c8, c9, c10⟩ := q3
  have f11 := Fr.trans hF f6 (by decide)
  have b12 := jB (e := 7) 0 hJ rg_75_7_0_1 (by first | decide | omega) (by first | decide | omega)
  have b13 := jB (e := 7) 0 j5 rg_75_7_0_1 (by first | decide | omega) (by first | decide | omega)
  refine x_ifz (k := 0) (tg := 19) (np := 9) (by decide +kernel) (by decide) l2 (fun q14 => ?_) (fun q15 => ?_)
  · have q14 : v1 = 2147483648 := q14
    refine x_const (np := 20) (x := 9223372034707292159) (a := 2147483647) (by decide +kernel) (by decide) (by decide) ?_
    refine x_istore (np := 21) (x := 1) (lo' := [x_r 75, iv_c 2147483647]) (by decide +kernel) (by decide) (Nat.le_of_ble_eq_true rfl) rfl ?_
    refine x_iload (np := 22) (x := 1) (by decide +kernel) rfl (by decide) ?_
    refine x_ifz (k := 3) (tg := 27) (np := 25) (by decide +kernel) (by decide) (by decide) (fun q16 => ?_) (fun q17 => ?_)
    · have q16 : 2147483648 ≤ 2147483647 := q16
      exfalso; omega
    have q17 : ¬ (2147483648 ≤ 2147483647) := q17
    refine x_const (np := 26) (x := 9223372039002259456) (a := 2147483648) (by decide +kernel) (by decide) (by decide) ?_
    have b18 := jB (e := 0) 0 hJ rg_78_0_0_1 (by first | decide | omega) (by first | decide | omega)
    have q19 : h4 78 0 = h 78 0 := jK 0 f6 rg_78_0_0_1 (by first | decide | omega) (by first | decide | omega) (by decide)
    have q20 : h4 78 1 = h 78 1 := jK 0 f6 rg_78_1_0_1 (by first | decide | omega) (by first | decide | omega) (by decide)
    have b21 := jB (e := 2) 0 hJ rg_78_2_0_1 (by first | decide | omega) (by first | decide | omega)
    have q22 : h4 78 2 = h 78 2 := jK 0 f6 rg_78_2_0_1 (by first | decide | omega) (by first | decide | omega) (by decide)
    have b23 := jB (e := 3) 0 hJ rg_78_3_0_1 (by first | decide | omega) (by first | decide | omega)
    have q24 : h4 78 3 = h 78 3 := jK 0 f6 rg_78_3_0_1 (by first | decide | omega) (by first | decide | omega) (by decide)
    have b25 := jB (e := 4) 0 hJ rg_78_4_0_1 (by first | decide | omega) (by first | decide | omega)
    have q26 : h4 78 4 = h 78 4 := jK 0 f6 rg_78_4_0_1 (by first | decide | omega) (by first | decide | omega) (by decide)
    have b27 := jB (e := 5) 0 hJ rg_78_5_0_1 (by first | decide | omega) (by first | decide | omega)
    have q28 : h4 78 5 = h 78 5 := jK 0 f6 rg_78_5_0_1 (by first | decide | omega) (by first | decide | omega) (by decide)
    have b29 := jB (e := 0) 0 hJ rg_76_0_0_1 (by first | decide | omega) (by first | decide | omega)
    refine x_retI (np := 27) (x := 0) (by decide +kernel) (by decide) (Or.inr ⟨by decide +kernel, by first | decide | omega, by first | decide | omega⟩) ⟨_, rfl, (by decide), ?_⟩
    exact ⟨j5, f11, (by first | decide | omega), (fun z => by first | decide | omega), (fun z => by first | decide | omega), (fun z => by first | decide | omega), (fun z => by first | decide | omega), (fun z => by first | decide | omega), (fun z => by first | decide | omega), (fun z => absurd z (by first | decide | omega)), (wd9.f (Tw.no c10 (by first | decide | omega)) rfl (by first | decide | omega))⟩
  have q15 : ¬ (v1 = 2147483648) := q15
  have b30 := c9 (by first | decide | omega)
  refine x_aload (np := 10) (x := 0) (by decide +kernel) rfl (x_nc_le (by decide)) ?_
  refine x_const (np := 11) (x := 9223372039002259456) (a := 2147483648) (by decide +kernel) (by decide) (by decide) ?_
  refine x_const (np := 13) (x := 9223372086246899723) (a := 2147483659) (by decide +kernel) (by decide) (by decide) ?_
  have m34 := Tq.fr hT f6 (by decide) (by decide)
  refine x_cI (t := 6) (mj := 174) (n := 3) (rc := 12) (ml := 4) (nr := 0) (np := 16) (as := [x_r 75, iv_c 2147483648, iv_c 2147483659]) (rest := []) (lo1 := [x_r 75, iv_c 2147483648, iv_c 2147483659, 147573952589676412928]) (by decide +kernel) (by decide) (by decide +kernel) (x_rb_of (by decide +kernel)) rfl rfl (x_wr (by decide) (x_wi (by decide) (x_wi (by decide) x_wn))) x_wn (by decide) rfl (c174_75 j5  (by first | decide | omega) (by first | decide | omega) m34) (fun v31 h35 l32 q33 => ?_)
  obtain ⟨j36, f37, b38, c39, c40, c41, c42, c43, c44⟩ := q33
  have f45 := Fr.trans f11 f37 (by decide)
  have b46 := jB (e := 7) 0 j36 rg_75_7_0_1 (by first | decide | omega) (by first | decide | omega)
  have b47 := c43 (by first | decide | omega)
  refine x_goto (np := 19) (x := 20) (by decide +kernel) ?_
  refine x_istore (np := 21) (x := 1) (lo' := [x_r 75, iv_c v31]) (by decide +kernel) l32 (Nat.le_of_ble_eq_true rfl) rfl ?_
  refine x_iload (np := 22) (x := 1) (by decide +kernel) rfl l32 ?_
  refine x_ifz (k := 3) (tg := 27) (np := 25) (by decide +kernel) (by decide) l32 (fun q48 => ?_) (fun q49 => ?_)
  · have q48 : 2147483648 ≤ v31 := q48
    have b50 := c40 (by first | decide | omega)
    have b51 := c41 (by first | decide | omega)
    have b52 := c42 (by first | decide | omega)
    refine x_aload (np := 28) (x := 0) (by decide +kernel) rfl (x_nc_le (by decide)) ?_
    have q53 : h35 75 3 = 78 := by have z := jB (e := 3) 0 j36 rg_75_3_0_1 (by decide) (by decide); omega
    refine x_getR (np := 31) (x := 707) (f := 3) (q := 78) (by decide +kernel) (by decide) (by decide +kernel) q53 ?_
    refine x_const (np := 33) (x := 9223372069067030535) (a := 2147483655) (by decide +kernel) (by decide) (by decide) ?_
    refine x_dup2 (np := 34) (x := 0) (by decide +kernel) (by have z := (iw_c_lt (a := 2147483655) (by decide)).1; omega) (by have z := x_nc_le (k := 78) (by decide); unfold x_r; omega) ?_
    have q54 : h35 78 7 = h4 78 7 := jK 0 f37 rg_78_7_0_1 (by first | decide | omega) (by first | decide | omega) (by decide)
    have q55 : h4 78 7 = h 78 7 := jK 0 f6 rg_78_7_0_1 (by first | decide | omega) (by first | decide | omega) (by decide)
    refine x_aldC (np := 35) (x := 0) (n := 290) (i := 7) (q := (h 78 7)) (by decide +kernel) (by decide +kernel) (by first | decide | omega) (by first | decide | omega) (by decide) (q54.trans q55) (fun l56 => ?_)
    refine x_const (np := 36) (x := 9223372043297226753) (a := 2147483649) (by decide +kernel) (by decide) (by decide) ?_
    refine x_iload (np := 37) (x := 1) (by decide +kernel) rfl l32 ?_
    refine x_any (np := 38) (k9 := 3) (by decide +kernel) (by decide) (by decide) l32 (fun v57 l58 => ?_)
    refine x_any (np := 39) (k9 := 1) (by decide +kernel) (by decide) l56 l58 (fun v59 l60 => ?_)
    refine x_ast (np := 40) (x := 0) (kd := 1) (n := 290) (i := 7) (by decide +kernel) (Or.inl rfl) (by decide +kernel) (by first | decide | omega) (by first | decide | omega) (by decide) l60 (fun z => absurd z (by decide)) ?_
    have j62 := jU (e := 7) (v := v59) 0 j36 rg_78_7_0_1 (by first | decide | omega) (by first | decide | omega) (by first | decide | omega)
    have f64 := jF (e := 7) (v := v59) 0 f45 rg_78_7_0_1 (by first | decide | omega) (by first | decide | omega) (by decide)
    generalize e63 : x_up h35 78 7 v59 = h61 at j62 f64 ⊢
    refine x_const (np := 41) (x := 9223372043297226753) (a := 2147483649) (by decide +kernel) (by decide) (by decide) ?_
    have b65 := jB (e := 0) 0 hJ rg_78_0_0_1 (by first | decide | omega) (by first | decide | omega)
    have q66 : h61 78 0 = h35 78 0 := by rw [← e63]; exact x_up_i (by first | decide | omega)
    have q67 : h35 78 0 = h4 78 0 := jK 0 f37 rg_78_0_0_1 (by first | decide | omega) (by first | decide | omega) (by decide)
    have q68 : h4 78 0 = h 78 0 := jK 0 f6 rg_78_0_0_1 (by first | decide | omega) (by first | decide | omega) (by decide)
    have q69 : h61 78 1 = h35 78 1 := by rw [← e63]; exact x_up_i (by first | decide | omega)
    have q70 : h35 78 1 = h4 78 1 := jK 0 f37 rg_78_1_0_1 (by first | decide | omega) (by first | decide | omega) (by decide)
    have q71 : h4 78 1 = h 78 1 := jK 0 f6 rg_78_1_0_1 (by first | decide | omega) (by first | decide | omega) (by decide)
    have b72 := jB (e := 2) 0 hJ rg_78_2_0_1 (by first | decide | omega) (by first | decide | omega)
    have q73 : h61 78 2 = h35 78 2 := by rw [← e63]; exact x_up_i (by first | decide | omega)
    have q74 : h35 78 2 = h4 78 2 := jK 0 f37 rg_78_2_0_1 (by first | decide | omega) (by first | decide | omega) (by decide)
    have q75 : h4 78 2 = h 78 2 := jK 0 f6 rg_78_2_0_1 (by first | decide | omega) (by first | decide | omega) (by decide)
    have b76 := jB (e := 3) 0 hJ rg_78_3_0_1 (by first | decide | omega) (by first | decide | omega)
    have q77 : h61 78 3 = h35 78 3 := by rw [← e63]; exact x_up_i (by first | decide | omega)
    have q78 : h35 78 3 = h4 78 3 := jK 0 f37 rg_78_3_0_1 (by first | decide | omega) (by first | decide | omega) (by decide)
    have q79 : h4 78 3 = h 78 3 := jK 0 f6 rg_78_3_0_1 (by first | decide | omega) (by first | decide | omega) (by decide)
    have b80 := jB (e := 4) 0 hJ rg_78_4_0_1 (by first | decide | omega) (by first | decide | omega)
    have q81 : h61 78 4 = h35 78 4 := by rw [← e63]; exact x_up_i (by first | decide | omega)
    have q82 : h35 78 4 = h4 78 4 := jK 0 f37 rg_78_4_0_1 (by first | decide | omega) (by first | decide | omega) (by decide)
    have q83 : h4 78 4 = h 78 4 := jK 0 f6 rg_78_4_0_1 (by first | decide | omega) (by first | decide | omega) (by decide)
    have b84 := jB (e := 5) 0 hJ rg_78_5_0_1 (by first | decide | omega) (by first | decide | omega)
    have q85 : h61 78 5 = h35 78 5 := by rw [← e63]; exact x_up_i (by first | decide | omega)
    have q86 : h35 78 5 = h4 78 5 := jK 0 f37 rg_78_5_0_1 (by first | decide | omega) (by first | decide | omega) (by decide)
    have q87 : h4 78 5 = h 78 5 := jK 0 f6 rg_78_5_0_1 (by first | decide | omega) (by first | decide | omega) (by decide)
    have m90 := Cl.fr hC f6 (by decide)
    have m89 := Cl.fr m90 f37 (by decide)
    have m88 : Cl h61 := by rw [← e63]; exact Cl.upR (e := 7) (v := v59) 0 m89 rg_76_7_0_1 (by first | decide | omega) (by first | decide | omega) (by first | decide | omega)
    have b91 := jB (e := 0) 0 hJ rg_76_0_0_1 (by first | decide | omega) (by first | decide | omega)
    obtain ⟨w92, e93⟩ := Tw.yes c10 (by first | decide | omega)
    have q94 : h61 75 7 = h35 75 7 := by rw [← e63]; exact x_up_k (by decide)
    refine x_retI (np := 42) (x := 0) (by decide +kernel) (by decide) (Or.inr ⟨by decide +kernel, by first | decide | omega, by first | decide | omega⟩) ⟨_, rfl, (by decide), ?_⟩
    exact ⟨j62, f64, (by first | decide | omega), (fun z => by first | decide | omega), (fun z => by first | decide | omega), (fun z => by first | decide | omega), (fun z => by first | decide | omega), (fun z => by first | decide | omega), (fun z => by first | decide | omega), (fun _ => m88), (wd9.y w92 rfl e93 rfl (nm9.y c44 (by first | decide | omega) (by first | decide | omega) rfl (by first | decide | omega) rfl (fin9.mk (by first | decide | omega) (congrArg (sk tB tN) (show h35 75 7 = h61 75 7 by first | decide | omega)))))⟩
  have q49 : ¬ (2147483648 ≤ v31) := q49
  refine x_const (np := 26) (x := 9223372039002259456) (a := 2147483648) (by decide +kernel) (by decide) (by decide) ?_
  have b95 := jB (e := 0) 0 hJ rg_78_0_0_1 (by first | decide | omega) (by first | decide | omega)
  have q96 : h35 78 0 = h4 78 0 := jK 0 f37 rg_78_0_0_1 (by first | decide | omega) (by first | decide | omega) (by decide)
  have q97 : h4 78 0 = h 78 0 := jK 0 f6 rg_78_0_0_1 (by first | decide | omega) (by first | decide | omega) (by decide)
  have q98 : h35 78 1 = h4 78 1 := jK 0 f37 rg_78_1_0_1 (by first | decide | omega) (by first | decide | omega) (by decide)
  have q99 : h4 78 1 = h 78 1 := jK 0 f6 rg_78_1_0_1 (by first | decide | omega) (by first | decide | omega) (by decide)
  have b100 := jB (e := 2) 0 hJ rg_78_2_0_1 (by first | decide | omega) (by first | decide | omega)
  have q101 : h35 78 2 = h4 78 2 := jK 0 f37 rg_78_2_0_1 (by first | decide | omega) (by first | decide | omega) (by decide)
  have q102 : h4 78 2 = h 78 2 := jK 0 f6 rg_78_2_0_1 (by first | decide | omega) (by first | decide | omega) (by decide)
  have b103 := jB (e := 3) 0 hJ rg_78_3_0_1 (by first | decide | omega) (by first | decide | omega)
  have q104 : h35 78 3 = h4 78 3 := jK 0 f37 rg_78_3_0_1 (by first | decide | omega) (by first | decide | omega) (by decide)
  have q105 : h4 78 3 = h 78 3 := jK 0 f6 rg_78_3_0_1 (by first | decide | omega) (by first | decide | omega) (by decide)
  have b106 := jB (e := 4) 0 hJ rg_78_4_0_1 (by first | decide | omega) (by first | decide | omega)
  have q107 : h35 78 4 = h4 78 4 := jK 0 f37 rg_78_4_0_1 (by first | decide | omega) (by first | decide | omega) (by decide)
  have q108 : h4 78 4 = h 78 4 := jK 0 f6 rg_78_4_0_1 (by first | decide | omega) (by first | decide | omega) (by decide)
  have b109 := jB (e := 5) 0 hJ rg_78_5_0_1 (by first | decide | omega) (by first | decide | omega)
  have q110 : h35 78 5 = h4 78 5 := jK 0 f37 rg_78_5_0_1 (by first | decide | omega) (by first | decide | omega) (by decide)
  have q111 : h4 78 5 = h 78 5 := jK 0 f6 rg_78_5_0_1 (by first | decide | omega) (by first | decide | omega) (by decide)
  have b112 := jB (e := 0) 0 hJ rg_76_0_0_1 (by first | decide | omega) (by first | decide | omega)
  obtain ⟨w113, e114⟩ := Tw.yes c10 (by first | decide | omega)
  refine x_retI (np := 27) (x := 0) (by decide +kernel) (by decide) (Or.inr ⟨by decide +kernel, by first | decide | omega, by first | decide | omega⟩) ⟨_, rfl, (by decide), ?_⟩
  exact ⟨j36, f45, (by first | decide | omega), (fun z => by first | decide | omega), (fun z => by first | decide | omega), (fun z => by first | decide | omega), (fun z => by first | decide | omega), (fun z => by first | decide | omega), (fun z => by first | decide | omega), (fun z => absurd z (by first | decide | omega)), (wd9.y w113 rfl e114 rfl (nm9.f c44 (by first | decide | omega) (by first | decide | omega) rfl (by first | decide | omega) (by first | decide | omega)))⟩
set_option maxHeartbeats 0 in
/-- LentNamesModel.readDies()Z -/
theorem c181_75 {sc : Nat × Nat} {d  : Nat} {h : xh} {tB : Nat → Nat} {tN : Nat} (hJ : J h) (hC : Cl h) (hT : Tq tB tN h) : X sc 181 (d + 6) (xI fun r h' => J h' ∧ Fr 2305843009218936833 h h' ∧ (2147483648 ≤ r ∧ r ≤ 2147483649) ∧ (r = 2147483649 → h' 78 0 = h 78 0) ∧ (r = 2147483649 → h' 78 1 = h 78 1) ∧ (r = 2147483649 → h' 78 2 = h 78 2) ∧ (r = 2147483649 → h' 78 3 = h 78 3) ∧ (r = 2147483649 → h' 78 4 = h 78 4) ∧ (r = 2147483649 → h' 78 5 = h 78 5) ∧ (r = 2147483649 → Cl h') ∧ dies9 tB tN (h 76 0) (sk tB tN (h 75 7)) (rs r (sk tB tN (h' 75 7))) ∧ (r = 2147483649 → Dx tB tN (h 76 0) (sk tB tN (h 75 7)) (xd h) (xd h'))) 0 0 0 [x_r 75, 147573952589676412928, 147573952589676412928] [] h := by
  have hF := Fr.refl 2305843009218936833 h
  refine x_aload (np := 1) (x := 0) (by decide +kernel) rfl (x_nc_le (by decide)) ?_
  refine x_const (np := 2) (x := 9223372039002259456) (a := 2147483648) (by decide +kernel) (by decide) (by decide) ?_
  refine x_aload (np := 3) (x := 0) (by decide +kernel) rfl (x_nc_le (by decide)) ?_
  refine x_nI (t := 6) (mj := 157) (n := 1) (rc := 12) (ml := 1) (nr := 2) (np := 6) (as := [x_r 75]) (rest := [iv_c 2147483648, x_r 75]) (lo1 := [x_r 75]) (by decide +kernel) (by decide) (by decide +kernel) (x_rb_of (by decide +kernel)) rfl rfl (x_wr (by decide) x_wn) (x_wi (by decide) (x_wr (by decide) x_wn)) (by decide) rfl ?_
  refine x_aload (np := 1) (x := 0) (by decide +kernel) rfl (x_nc_le (by decide)) ?_
  have q1 : h 75 1 = 76 := by have z := jB (e := 1) 0 hJ rg_75_1_0_1 (by decide) (by decide); omega
  refine x_getR (np := 4) (x := 705) (f := 1) (q := 76) (by decide +kernel) (by decide) (by decide +kernel) q1 ?_
  refine x_const (np := 5) (x := 9223372039002259456) (a := 2147483648) (by decide +kernel) (by decide) (by decide) ?_
  have b2 := jB (e := 0) 0 hJ rg_76_0_0_1 (by first | decide | omega) (by first | decide | omega)
  refine x_aldC (np := 6) (x := 0) (n := 1952) (i := 0) (q := (h 76 0)) (by decide +kernel) (by decide +kernel) (by first | decide | omega) (by first | decide | omega) (by decide) rfl (fun l3 => ?_)
  refine x_retI (np := 7) (x := 0) (by decide +kernel) l3 (Or.inl (by decide +kernel)) ⟨_, rfl, l3, ?_⟩
  refine x_const (np := 7) (x := 9223372043297226753) (a := 2147483649) (by decide +kernel) (by decide) (by decide) ?_
  obtain ⟨v4, q5⟩ : ∃ z, z + 2147483649 = (h 76 0) + 2147483648 := ⟨(h 76 0) + 2147483648 - 2147483649, by first | decide | omega⟩
  refine x_isub (np := 8) (x := 0) (v := v4) (by decide +kernel) l3 (by decide) (by first | decide | omega) (by first | decide | omega) ?_
  refine x_cI (t := 6) (mj := 174) (n := 3) (rc := 12) (ml := 4) (nr := 0) (np := 11) (as := [x_r 75, iv_c 2147483648, iv_c v4]) (rest := []) (lo1 := [x_r 75, iv_c 2147483648, iv_c v4, 147573952589676412928]) (by decide +kernel) (by decide) (by decide +kernel) (x_rb_of (by decide +kernel)) rfl rfl (x_wr (by decide) (x_wi (by decide) (x_wi (by first | decide | omega) x_wn))) x_wn (by decide) rfl (c174_75 hJ  (by first | decide | omega) (by first | decide | omega) hT) (fun v6 h9 l7 q8 => ?_)
  obtain ⟨j10, f11, b12, c13, c14, c15, c16, c17, c18⟩ := q8
  have f19 := Fr.trans hF f11 (by decide)
  have b20 := jB (e := 7) 0 hJ rg_75_7_0_1 (by first | decide | omega) (by first | decide | omega)
  have b21 := jB (e := 7) 0 j10 rg_75_7_0_1 (by first | decide | omega) (by first | decide | omega)
  have b22 := c17 (by first | decide | omega)
  refine x_istore (np := 12) (x := 1) (lo' := [x_r 75, iv_c v6, 147573952589676412928]) (by decide +kernel) l7 (Nat.le_of_ble_eq_true rfl) rfl ?_
  refine x_iload (np := 13) (x := 1) (by decide +kernel) rfl l7 ?_
  refine x_ifz (k := 2) (tg := 35) (np := 16) (by decide +kernel) (by decide) l7 (fun q23 => ?_) (fun q24 => ?_)
  · have q23 : v6 < 2147483648 := q23
    refine x_const (np := 36) (x := 9223372034707292159) (a := 2147483647) (by decide +kernel) (by decide) (by decide) ?_
    refine x_istore (np := 37) (x := 2) (lo' := [x_r 75, iv_c v6, iv_c 2147483647]) (by decide +kernel) (by decide) (Nat.le_of_ble_eq_true rfl) rfl ?_
    refine x_iload (np := 38) (x := 2) (by decide +kernel) rfl (by decide) ?_
    refine x_ifz (k := 3) (tg := 43) (np := 41) (by decide +kernel) (by decide) (by decide) (fun q25 => ?_) (fun q26 => ?_)
    · have q25 : 2147483648 ≤ 2147483647 := q25
      exfalso; omega
    have q26 : ¬ (2147483648 ≤ 2147483647) := q26
    refine x_const (np := 42) (x := 9223372039002259456) (a := 2147483648) (by decide +kernel) (by decide) (by decide) ?_
    have b27 := jB (e := 0) 0 hJ rg_78_0_0_1 (by first | decide | omega) (by first | decide | omega)
    have q28 : h9 78 0 = h 78 0 := jK 0 f11 rg_78_0_0_1 (by first | decide | omega) (by first | decide | omega) (by decide)
    have q29 : h9 78 1 = h 78 1 := jK 0 f11 rg_78_1_0_1 (by first | decide | omega) (by first | decide | omega) (by decide)
    have b30 := jB (e := 2) 0 hJ rg_78_2_0_1 (by first | decide | omega) (by first | decide | omega)
    have q31 : h9 78 2 = h 78 2 := jK 0 f11 rg_78_2_0_1 (by first | decide | omega) (by first | decide | omega) (by decide)
    have b32 := jB (e := 3) 0 hJ rg_78_3_0_1 (by first | decide | omega) (by first | decide | omega)
    have q33 : h9 78 3 = h 78 3 := jK 0 f11 rg_78_3_0_1 (by first | decide | omega) (by first | decide | omega) (by decide)
    have b34 := jB (e := 4) 0 hJ rg_78_4_0_1 (by first | decide | omega) (by first | decide | omega)
    have q35 : h9 78 4 = h 78 4 := jK 0 f11 rg_78_4_0_1 (by first | decide | omega) (by first | decide | omega) (by decide)
    have b36 := jB (e := 5) 0 hJ rg_78_5_0_1 (by first | decide | omega) (by first | decide | omega)
    have q37 : h9 78 5 = h 78 5 := jK 0 f11 rg_78_5_0_1 (by first | decide | omega) (by first | decide | omega) (by decide)
    refine x_retI (np := 43) (x := 0) (by decide +kernel) (by decide) (Or.inr ⟨by decide +kernel, by first | decide | omega, by first | decide | omega⟩) ⟨_, rfl, (by decide), ?_⟩
    exact ⟨j10, f19, (by first | decide | omega), (fun z => by first | decide | omega), (fun z => by first | decide | omega), (fun z => by first | decide | omega), (fun z => by first | decide | omega), (fun z => by first | decide | omega), (fun z => by first | decide | omega), (fun z => absurd z (by first | decide | omega)), (nm9.f c18 (by first | decide | omega) (by first | decide | omega) rfl (by first | decide | omega) (by first | decide | omega)), (fun z => absurd z (by first | decide | omega))⟩
  have q24 : ¬ (v6 < 2147483648) := q24
  have b38 := c14 (by first | decide | omega)
  have b39 := c15 (by first | decide | omega)
  have b40 := c16 (by first | decide | omega)
  refine x_aload (np := 17) (x := 0) (by decide +kernel) rfl (x_nc_le (by decide)) ?_
  refine x_ldcB (i := 2) (idx := 147) (tx := "day") (by rw [tb_y181]; exact List.mem_of_getElem? (i := 37) rfl) (by decide) (by rw [tb_b181]; decide +kernel) ?_
  have m44 := Tq.fr hT f11 (by decide) (by decide)
  refine x_cI (t := 6) (mj := 172) (n := 2) (rc := 12) (ml := 2) (nr := 0) (np := 22) (as := [x_r 75, x_b (2 + 1)]) (rest := []) (lo1 := [x_r 75, x_b (2 + 1)]) (by decide +kernel) (by decide) (by decide +kernel) (x_rb_of (by decide +kernel)) rfl rfl (x_wr (by decide) (x_wB (by decide) x_wn)) x_wn (by decide) rfl (c172_75_S0 j10  (by decide) m44) (fun v41 h45 l42 q43 => ?_)
  obtain ⟨j46, f47, b48, c49, c50, c51⟩ := q43
  have f52 := Fr.trans f19 f47 (by decide)
  have b53 := jB (e := 7) 0 j46 rg_75_7_0_1 (by first | decide | omega) (by first | decide | omega)
  refine x_ifz (k := 0) (tg := 35) (np := 25) (by decide +kernel) (by decide) l42 (fun q54 => ?_) (fun q55 => ?_)
  · have q54 : v41 = 2147483648 := q54
    refine x_const (np := 36) (x := 9223372034707292159) (a := 2147483647) (by decide +kernel) (by decide) (by decide) ?_
    refine x_istore (np := 37) (x := 2) (lo' := [x_r 75, iv_c v6, iv_c 2147483647]) (by decide +kernel) (by decide) (Nat.le_of_ble_eq_true rfl) rfl ?_
    refine x_iload (np := 38) (x := 2) (by decide +kernel) rfl (by decide) ?_
    refine x_ifz (k := 3) (tg := 43) (np := 41) (by decide +kernel) (by decide) (by decide) (fun q56 => ?_) (fun q57 => ?_)
    · have q56 : 2147483648 ≤ 2147483647 := q56
      exfalso; omega
    have q57 : ¬ (2147483648 ≤ 2147483647) := q57
    refine x_const (np := 42) (x := 9223372039002259456) (a := 2147483648) (by decide +kernel) (by decide) (by decide) ?_
    have b58 := jB (e := 0) 0 hJ rg_78_0_0_1 (by first | decide | omega) (by first | decide | omega)
    have q59 : h45 78 0 = h9 78 0 := jK 0 f47 rg_78_0_0_1 (by first | decide | omega) (by first | decide | omega) (by decide)
    have q60 : h9 78 0 = h 78 0 := jK 0 f11 rg_78_0_0_1 (by first | decide | omega) (by first | decide | omega) (by decide)
    have q61 : h45 78 1 = h9 78 1 := jK 0 f47 rg_78_1_0_1 (by first | decide | omega) (by first | decide | omega) (by decide)
    have q62 : h9 78 1 = h 78 1 := jK 0 f11 rg_78_1_0_1 (by first | decide | omega) (by first | decide | omega) (by decide)
    have b63 := jB (e := 2) 0 hJ rg_78_2_0_1 (by first | decide | omega) (by first | decide | omega)
    have q64 : h45 78 2 = h9 78 2 := jK 0 f47 rg_78_2_0_1 (by first | decide | omega) (by first | decide | omega) (by decide)
    have q65 : h9 78 2 = h 78 2 := jK 0 f11 rg_78_2_0_1 (by first | decide | omega) (by first | decide | omega) (by decide)
    have b66 := jB (e := 3) 0 hJ rg_78_3_0_1 (by first | decide | omega) (by first | decide | omega)
    have q67 : h45 78 3 = h9 78 3 := jK 0 f47 rg_78_3_0_1 (by first | decide | omega) (by first | decide | omega) (by decide)
    have q68 : h9 78 3 = h 78 3 := jK 0 f11 rg_78_3_0_1 (by first | decide | omega) (by first | decide | omega) (by decide)
    have b69 := jB (e := 4) 0 hJ rg_78_4_0_1 (by first | decide | omega) (by first | decide | omega)
    have q70 : h45 78 4 = h9 78 4 := jK 0 f47 rg_78_4_0_1 (by first | decide | omega) (by first | decide | omega) (by decide)
    have q71 : h9 78 4 = h 78 4 := jK 0 f11 rg_78_4_0_1 (by first | decide | omega) (by first | decide | omega) (by decide)
    have b72 := jB (e := 5) 0 hJ rg_78_5_0_1 (by first | decide | omega) (by first | decide | omega)
    have q73 : h45 78 5 = h9 78 5 := jK 0 f47 rg_78_5_0_1 (by first | decide | omega) (by first | decide | omega) (by decide)
    have q74 : h9 78 5 = h 78 5 := jK 0 f11 rg_78_5_0_1 (by first | decide | omega) (by first | decide | omega) (by decide)
    refine x_retI (np := 43) (x := 0) (by decide +kernel) (by decide) (Or.inr ⟨by decide +kernel, by first | decide | omega, by first | decide | omega⟩) ⟨_, rfl, (by decide), ?_⟩
    exact ⟨j46, f52, (by first | decide | omega), (fun z => by first | decide | omega), (fun z => by first | decide | omega), (fun z => by first | decide | omega), (fun z => by first | decide | omega), (fun z => by first | decide | omega), (fun z => by first | decide | omega), (fun z => absurd z (by first | decide | omega)), (nm9.y c18 (by first | decide | omega) (by first | decide | omega) rfl (by first | decide | omega) rfl (wd9.f (Tw.no c51 (by first | decide | omega)) rfl (by first | decide | omega))), (fun z => absurd z (by first | decide | omega))⟩
  have q55 : ¬ (v41 = 2147483648) := q55
  have b75 := c50 (by first | decide | omega)
  refine x_aload (np := 26) (x := 0) (by decide +kernel) rfl (x_nc_le (by decide)) ?_
  refine x_const (np := 27) (x := 9223372039002259456) (a := 2147483648) (by decide +kernel) (by decide) (by decide) ?_
  refine x_const (np := 29) (x := 9223372086246899723) (a := 2147483659) (by decide +kernel) (by decide) (by decide) ?_
  have m79 := Tq.fr m44 f47 (by decide) (by decide)
  refine x_cI (t := 6) (mj := 174) (n := 3) (rc := 12) (ml := 4) (nr := 0) (np := 32) (as := [x_r 75, iv_c 2147483648, iv_c 2147483659]) (rest := []) (lo1 := [x_r 75, iv_c 2147483648, iv_c 2147483659, 147573952589676412928]) (by decide +kernel) (by decide) (by decide +kernel) (x_rb_of (by decide +kernel)) rfl rfl (x_wr (by decide) (x_wi (by decide) (x_wi (by decide) x_wn))) x_wn (by decide) rfl (c174_75 j46  (by first | decide | omega) (by first | decide | omega) m79) (fun v76 h80 l77 q78 => ?_)
  obtain ⟨j81, f82, b83, c84, c85, c86, c87, c88, c89⟩ := q78
  have f90 := Fr.trans f52 f82 (by decide)
  have b91 := jB (e := 7) 0 j81 rg_75_7_0_1 (by first | decide | omega) (by first | decide | omega)
  have b92 := c88 (by first | decide | omega)
  refine x_goto (np := 35) (x := 36) (by decide +kernel) ?_
  refine x_istore (np := 37) (x := 2) (lo' := [x_r 75, iv_c v6, iv_c v76]) (by decide +kernel) l77 (Nat.le_of_ble_eq_true rfl) rfl ?_
  refine x_iload (np := 38) (x := 2) (by decide +kernel) rfl l77 ?_
  refine x_ifz (k := 3) (tg := 43) (np := 41) (by decide +kernel) (by decide) l77 (fun q93 => ?_) (fun q94 => ?_)
  · have q93 : 2147483648 ≤ v76 := q93
    have b95 := c85 (by first | decide | omega)
    have b96 := c86 (by first | decide | omega)
    have b97 := c87 (by first | decide | omega)
    refine x_aload (np := 44) (x := 0) (by decide +kernel) rfl (x_nc_le (by decide)) ?_
    have q98 : h80 75 3 = 78 := by have z := jB (e := 3) 0 j81 rg_75_3_0_1 (by decide) (by decide); omega
    refine x_getR (np := 47) (x := 707) (f := 3) (q := 78) (by decide +kernel) (by decide) (by decide +kernel) q98 ?_
    refine x_const (np := 49) (x := 9223372073361997832) (a := 2147483656) (by decide +kernel) (by decide) (by decide) ?_
    refine x_iload (np := 50) (x := 1) (by decide +kernel) rfl l7 ?_
    refine x_iadd (np := 51) (x := 0) (v := (8 + v6)) (by decide +kernel) (by decide) l7 (by first | decide | omega) (by first | decide | omega) ?_
    refine x_aload (np := 52) (x := 0) (by decide +kernel) rfl (x_nc_le (by decide)) ?_
    have q99 : h80 75 3 = 78 := by have z := jB (e := 3) 0 j81 rg_75_3_0_1 (by decide) (by decide); omega
    refine x_getR (np := 55) (x := 707) (f := 3) (q := 78) (by decide +kernel) (by decide) (by decide +kernel) q99 ?_
    refine x_const (np := 57) (x := 9223372073361997832) (a := 2147483656) (by decide +kernel) (by decide) (by decide) ?_
    refine x_iload (np := 58) (x := 1) (by decide +kernel) rfl l7 ?_
    refine x_iadd (np := 59) (x := 0) (v := (8 + v6)) (by decide +kernel) (by decide) l7 (by first | decide | omega) (by first | decide | omega) ?_
    obtain ⟨u100, q101⟩ : ∃ z, v6 = 2147483648 + z := ⟨v6 - 2147483648, by first | decide | omega⟩
    have q102 : h80 78 (8 + u100) = h45 78 (8 + u100) := jK u100 f82 rg_78_8_1_6 (by first | decide | omega) (by first | decide | omega) (by decide)
    have q103 : h45 78 (8 + u100) = h9 78 (8 + u100) := jK u100 f47 rg_78_8_1_6 (by first | decide | omega) (by first | decide | omega) (by decide)
    have q104 : h9 78 (8 + u100) = h 78 (8 + u100) := jK u100 f11 rg_78_8_1_6 (by first | decide | omega) (by first | decide | omega) (by decide)
    have b105 := jB (e := (8 + u100)) u100 hJ rg_78_8_1_6 (by first | decide | omega) (by first | decide | omega)
    refine x_aldC (np := 60) (x := 0) (n := 290) (i := (8 + u100)) (q := (h 78 (8 + u100))) (by decide +kernel) (by decide +kernel) (by first | decide | omega) (by first | decide | omega) (by decide) ((q102.trans q103).trans q104) (fun l106 => ?_)
    refine x_iload (np := 61) (x := 2) (by decide +kernel) rfl l77 ?_
    refine x_min (np := 64) (by decide +kernel) l106 l77 (Nat.le_trans (x_wi l77 (x_wi l106 (x_wi (by first | decide | omega) (x_wr (by decide) x_wn)))) (by decide)) ?_
    obtain ⟨v107, q108⟩ : ∃ w, w = min (h 78 (8 + u100)) v76 := ⟨_, rfl⟩
    rw [← q108]
    have b109 : v107 ≤ (h 78 (8 + u100)) ∧ v107 ≤ v76 := by first | decide | omega
    refine x_ast (np := 65) (x := 0) (kd := 1) (n := 290) (i := (8 + u100)) (by decide +kernel) (Or.inl rfl) (by decide +kernel) (by first | decide | omega) (by first | decide | omega) (by decide) (by first | decide | omega) (fun z => absurd z (by decide)) ?_
    have j111 := jU (e := (8 + u100)) (v := v107) u100 j81 rg_78_8_1_6 (by first | decide | omega) (by first | decide | omega) (by first | decide | omega)
    have f113 := jF (e := (8 + u100)) (v := v107) u100 f90 rg_78_8_1_6 (by first | decide | omega) (by first | decide | omega) (by decide)
    generalize e112 : x_up h80 78 (8 + u100) v107 = h110 at j111 f113 ⊢
    refine x_const (np := 66) (x := 9223372043297226753) (a := 2147483649) (by decide +kernel) (by decide) (by decide) ?_
    have b114 := jB (e := 0) 0 hJ rg_78_0_0_1 (by first | decide | omega) (by first | decide | omega)
    have q115 : h110 78 0 = h80 78 0 := by rw [← e112]; exact x_up_i (by first | decide | omega)
    have q116 : h80 78 0 = h45 78 0 := jK 0 f82 rg_78_0_0_1 (by first | decide | omega) (by first | decide | omega) (by decide)
    have q117 : h45 78 0 = h9 78 0 := jK 0 f47 rg_78_0_0_1 (by first | decide | omega) (by first | decide | omega) (by decide)
    have q118 : h9 78 0 = h 78 0 := jK 0 f11 rg_78_0_0_1 (by first | decide | omega) (by first | decide | omega) (by decide)
    have q119 : h110 78 1 = h80 78 1 := by rw [← e112]; exact x_up_i (by first | decide | omega)
    have q120 : h80 78 1 = h45 78 1 := jK 0 f82 rg_78_1_0_1 (by first | decide | omega) (by first | decide | omega) (by decide)
    have q121 : h45 78 1 = h9 78 1 := jK 0 f47 rg_78_1_0_1 (by first | decide | omega) (by first | decide | omega) (by decide)
    have q122 : h9 78 1 = h 78 1 := jK 0 f11 rg_78_1_0_1 (by first | decide | omega) (by first | decide | omega) (by decide)
    have b123 := jB (e := 2) 0 hJ rg_78_2_0_1 (by first | decide | omega) (by first | decide | omega)
    have q124 : h110 78 2 = h80 78 2 := by rw [← e112]; exact x_up_i (by first | decide | omega)
    have q125 : h80 78 2 = h45 78 2 := jK 0 f82 rg_78_2_0_1 (by first | decide | omega) (by first | decide | omega) (by decide)
    have q126 : h45 78 2 = h9 78 2 := jK 0 f47 rg_78_2_0_1 (by first | decide | omega) (by first | decide | omega) (by decide)
    have q127 : h9 78 2 = h 78 2 := jK 0 f11 rg_78_2_0_1 (by first | decide | omega) (by first | decide | omega) (by decide)
    have b128 := jB (e := 3) 0 hJ rg_78_3_0_1 (by first | decide | omega) (by first | decide | omega)
    have q129 : h110 78 3 = h80 78 3 := by rw [← e112]; exact x_up_i (by first | decide | omega)
    have q130 : h80 78 3 = h45 78 3 := jK 0 f82 rg_78_3_0_1 (by first | decide | omega) (by first | decide | omega) (by decide)
    have q131 : h45 78 3 = h9 78 3 := jK 0 f47 rg_78_3_0_1 (by first | decide | omega) (by first | decide | omega) (by decide)
    have q132 : h9 78 3 = h 78 3 := jK 0 f11 rg_78_3_0_1 (by first | decide | omega) (by first | decide | omega) (by decide)
    have b133 := jB (e := 4) 0 hJ rg_78_4_0_1 (by first | decide | omega) (by first | decide | omega)
    have q134 : h110 78 4 = h80 78 4 := by rw [← e112]; exact x_up_i (by first | decide | omega)
    have q135 : h80 78 4 = h45 78 4 := jK 0 f82 rg_78_4_0_1 (by first | decide | omega) (by first | decide | omega) (by decide)
    have q136 : h45 78 4 = h9 78 4 := jK 0 f47 rg_78_4_0_1 (by first | decide | omega) (by first | decide | omega) (by decide)
    have q137 : h9 78 4 = h 78 4 := jK 0 f11 rg_78_4_0_1 (by first | decide | omega) (by first | decide | omega) (by decide)
    have b138 := jB (e := 5) 0 hJ rg_78_5_0_1 (by first | decide | omega) (by first | decide | omega)
    have q139 : h110 78 5 = h80 78 5 := by rw [← e112]; exact x_up_i (by first | decide | omega)
    have q140 : h80 78 5 = h45 78 5 := jK 0 f82 rg_78_5_0_1 (by first | decide | omega) (by first | decide | omega) (by decide)
    have q141 : h45 78 5 = h9 78 5 := jK 0 f47 rg_78_5_0_1 (by first | decide | omega) (by first | decide | omega) (by decide)
    have q142 : h9 78 5 = h 78 5 := jK 0 f11 rg_78_5_0_1 (by first | decide | omega) (by first | decide | omega) (by decide)
    have m146 := Cl.fr hC f11 (by decide)
    have m145 := Cl.fr m146 f47 (by decide)
    have m144 := Cl.fr m145 f82 (by decide)
    have m143 : Cl h110 := by rw [← e112]; exact Cl.upR (e := (8 + u100)) (v := v107) u100 m144 rg_76_8_1_6 (by first | decide | omega) (by first | decide | omega) (by first | decide | omega)
    obtain ⟨w147, e148⟩ := Tw.yes c51 (by first | decide | omega)
    have q149 : h110 75 7 = h80 75 7 := by rw [← e112]; exact x_up_k (by decide)
    have q150 : h110 78 (8 + u100) = v107 := by rw [← e112]; exact x_up_at
    have q151 : h80 78 (8 + u100) = h45 78 (8 + u100) := jK u100 f82 rg_78_8_1_6 (by first | decide | omega) (by first | decide | omega) (by decide)
    have q152 : h45 78 (8 + u100) = h9 78 (8 + u100) := jK u100 f47 rg_78_8_1_6 (by first | decide | omega) (by first | decide | omega) (by decide)
    have q153 : h9 78 (8 + u100) = h 78 (8 + u100) := jK u100 f11 rg_78_8_1_6 (by first | decide | omega) (by first | decide | omega) (by decide)
    have m154 : ∀ u, u < 6 → xd h80 u = xd h u := fun u hu => (Eq.trans (xd_gr f82 (by decide) u hu) (Eq.trans (xd_gr f47 (by decide) u hu) (xd_gr f11 (by decide) u hu)))
    obtain ⟨w155, e156⟩ := Tw.yes c51 (by first | decide | omega)
    refine x_retI (np := 67) (x := 0) (by decide +kernel) (by decide) (Or.inr ⟨by decide +kernel, by first | decide | omega, by first | decide | omega⟩) ⟨_, rfl, (by decide), ?_⟩
    exact ⟨j111, f113, (by first | decide | omega), (fun z => by first | decide | omega), (fun z => by first | decide | omega), (fun z => by first | decide | omega), (fun z => by first | decide | omega), (fun z => by first | decide | omega), (fun z => by first | decide | omega), (fun _ => m143), (nm9.y c18 (by first | decide | omega) (by first | decide | omega) rfl (by first | decide | omega) rfl (wd9.y w147 rfl e148 rfl (nm9.y c89 (by first | decide | omega) (by first | decide | omega) rfl (by first | decide | omega) rfl (fin9.mk (by first | decide | omega) (congrArg (sk tB tN) (show h80 75 7 = h110 75 7 by first | decide | omega)))))), (fun _ => (Dx.mk (σ := xd h80) (σ' := xd h110) c18 (by first | decide | omega) (by first | decide | omega) rfl (by first | decide | omega) w155 rfl e156 c89 (by first | decide | omega) (by first | decide | omega) rfl (by first | decide | omega) (fun b hb => by rw [← e112]; exact xd_at (u := u100) (w := v76) (by first | decide | omega) (by first | decide | omega) b hb)).mp m154 (fun _ _ => rfl))⟩
  have q94 : ¬ (2147483648 ≤ v76) := q94
  refine x_const (np := 42) (x := 9223372039002259456) (a := 2147483648) (by decide +kernel) (by decide) (by decide) ?_
  have b157 := jB (e := 0) 0 hJ rg_78_0_0_1 (by first | decide | omega) (by first | decide | omega)
  have q158 : h80 78 0 = h45 78 0 := jK 0 f82 rg_78_0_0_1 (by first | decide | omega) (by first | decide | omega) (by decide)
  have q159 : h45 78 0 = h9 78 0 := jK 0 f47 rg_78_0_0_1 (by first | decide | omega) (by first | decide | omega) (by decide)
  have q160 : h9 78 0 = h 78 0 := jK 0 f11 rg_78_0_0_1 (by first | decide | omega) (by first | decide | omega) (by decide)
  have q161 : h80 78 1 = h45 78 1 := jK 0 f82 rg_78_1_0_1 (by first | decide | omega) (by first | decide | omega) (by decide)
  have q162 : h45 78 1 = h9 78 1 := jK 0 f47 rg_78_1_0_1 (by first | decide | omega) (by first | decide | omega) (by decide)
  have q163 : h9 78 1 = h 78 1 := jK 0 f11 rg_78_1_0_1 (by first | decide | omega) (by first | decide | omega) (by decide)
  have b164 := jB (e := 2) 0 hJ rg_78_2_0_1 (by first | decide | omega) (by first | decide | omega)
  have q165 : h80 78 2 = h45 78 2 := jK 0 f82 rg_78_2_0_1 (by first | decide | omega) (by first | decide | omega) (by decide)
  have q166 : h45 78 2 = h9 78 2 := jK 0 f47 rg_78_2_0_1 (by first | decide | omega) (by first | decide | omega) (by decide)
  have q167 : h9 78 2 = h 78 2 := jK 0 f11 rg_78_2_0_1 (by first | decide | omega) (by first | decide | omega) (by decide)
  have b168 := jB (e := 3) 0 hJ rg_78_3_0_1 (by first | decide | omega) (by first | decide | omega)
  have q169 : h80 78 3 = h45 78 3 := jK 0 f82 rg_78_3_0_1 (by first | decide | omega) (by first | decide | omega) (by decide)
  have q170 : h45 78 3 = h9 78 3 := jK 0 f47 rg_78_3_0_1 (by first | decide | omega) (by first | decide | omega) (by decide)
  have q171 : h9 78 3 = h 78 3 := jK 0 f11 rg_78_3_0_1 (by first | decide | omega) (by first | decide | omega) (by decide)
  have b172 := jB (e := 4) 0 hJ rg_78_4_0_1 (by first | decide | omega) (by first | decide | omega)
  have q173 : h80 78 4 = h45 78 4 := jK 0 f82 rg_78_4_0_1 (by first | decide | omega) (by first | decide | omega) (by decide)
  have q174 : h45 78 4 = h9 78 4 := jK 0 f47 rg_78_4_0_1 (by first | decide | omega) (by first | decide | omega) (by decide)
  have q175 : h9 78 4 = h 78 4 := jK 0 f11 rg_78_4_0_1 (by first | decide | omega) (by first | decide | omega) (by decide)
  have b176 := jB (e := 5) 0 hJ rg_78_5_0_1 (by first | decide | omega) (by first | decide | omega)
  have q177 : h80 78 5 = h45 78 5 := jK 0 f82 rg_78_5_0_1 (by first | decide | omega) (by first | decide | omega) (by decide)
  have q178 : h45 78 5 = h9 78 5 := jK 0 f47 rg_78_5_0_1 (by first | decide | omega) (by first | decide | omega) (by decide)
  have q179 : h9 78 5 = h 78 5 := jK 0 f11 rg_78_5_0_1 (by first | decide | omega) (by first | decide | omega) (by decide)
  obtain ⟨w180, e181⟩ := Tw.yes c51 (by first | decide | omega)
  refine x_retI (np := 43) (x := 0) (by decide +kernel) (by decide) (Or.inr ⟨by decide +kernel, by first | decide | omega, by first | decide | omega⟩) ⟨_, rfl, (by decide), ?_⟩
  exact ⟨j81, f90, (by first | decide | omega), (fun z => by first | decide | omega), (fun z => by first | decide | omega), (fun z => by first | decide | omega), (fun z => by first | decide | omega), (fun z => by first | decide | omega), (fun z => by first | decide | omega), (fun z => absurd z (by first | decide | omega)), (nm9.y c18 (by first | decide | omega) (by first | decide | omega) rfl (by first | decide | omega) rfl (wd9.y w180 rfl e181 rfl (nm9.f c89 (by first | decide | omega) (by first | decide | omega) rfl (by first | decide | omega) (by first | decide | omega)))), (fun z => absurd z (by first | decide | omega))⟩
set_option maxHeartbeats 0 in
/-- LentNamesModel.readLate()Z -/
theorem c180_75 {sc : Nat × Nat} {d  : Nat} {h : xh} {tB : Nat → Nat} {tN : Nat} (hJ : J h) (hC : Cl h) (hT : Tq tB tN h) : X sc 180 (d + 6) (xI fun r h' => J h' ∧ Fr 273678337 h h' ∧ (2147483648 ≤ r ∧ r ≤ 2147483649) ∧ (r = 2147483649 → h' 78 0 = h 78 0) ∧ (r = 2147483649 → h' 78 1 = h 78 1) ∧ (r = 2147483649 → h' 78 2 = h 78 2) ∧ (r = 2147483649 → h' 78 3 = h 78 3) ∧ (r = 2147483649 → h' 78 4 = h 78 4) ∧ (r = 2147483649 → h' 78 5 = h 78 5) ∧ (r = 2147483649 → Cl h') ∧ late9 tB tN (h 78 2) (sk tB tN (h 75 7)) (rs r (sk tB tN (h' 75 7)))) 0 0 0 [x_r 75, 147573952589676412928] [] h := by
  have hF := Fr.refl 273678337 h
  refine x_aload (np := 1) (x := 0) (by decide +kernel) rfl (x_nc_le (by decide)) ?_
  refine x_const (np := 2) (x := 9223372039002259456) (a := 2147483648) (by decide +kernel) (by decide) (by decide) ?_
  refine x_aload (np := 3) (x := 0) (by decide +kernel) rfl (x_nc_le (by decide)) ?_
  have q1 : h 75 3 = 78 := by have z := jB (e := 3) 0 hJ rg_75_3_0_1 (by decide) (by decide); omega
  refine x_getR (np := 6) (x := 707) (f := 3) (q := 78) (by decide +kernel) (by decide) (by decide +kernel) q1 ?_
  refine x_const (np := 7) (x := 9223372047592194050) (a := 2147483650) (by decide +kernel) (by decide) (by decide) ?_
  have b2 := jB (e := 2) 0 hJ rg_78_2_0_1 (by first | decide | omega) (by first | decide | omega)
  refine x_aldC (np := 8) (x := 0) (n := 290) (i := 2) (q := (h 78 2)) (by decide +kernel) (by decide +kernel) (by first | decide | omega) (by first | decide | omega) (by decide) rfl (fun l3 => ?_)
  refine x_const (np := 9) (x := 9223372043297226753) (a := 2147483649) (by decide +kernel) (by decide) (by decide) ?_
  obtain ⟨v4, q5⟩ : ∃ z, z + 2147483649 = (h 78 2) + 2147483648 := ⟨(h 78 2) + 2147483648 - 2147483649, by first | decide | omega⟩
  refine x_isub (np := 10) (x := 0) (v := v4) (by decide +kernel) l3 (by decide) (by first | decide | omega) (by first | decide | omega) ?_
  refine x_cI (t := 6) (mj := 174) (n := 3) (rc := 12) (ml := 4) (nr := 0) (np := 13) (as := [x_r 75, iv_c 2147483648, iv_c v4]) (rest := []) (lo1 := [x_r 75, iv_c 2147483648, iv_c v4, 147573952589676412928]) (by decide +kernel) (by decide) (by decide +kernel) (x_rb_of (by decide +kernel)) rfl rfl (x_wr (by decide) (x_wi (by decide) (x_wi (by first | decide | omega) x_wn))) x_wn (by decide) rfl (c174_75 hJ  (by first | decide | omega) (by first | decide | omega) hT) (fun v6 h9 l7 q8 => ?_)
  obtain ⟨j10, f11, b12, c13, c14, c15, c16, c17, c18⟩ := q8
  have f19 := Fr.trans hF f11 (by decide)
  have b20 := jB (e := 7) 0 hJ rg_75_7_0_1 (by first | decide | omega) (by first | decide | omega)
  have b21 := jB (e := 7) 0 j10 rg_75_7_0_1 (by first | decide | omega) (by first | decide | omega)
  have b22 := c17 (by first | decide | omega)
  refine x_istore (np := 14) (x := 1) (lo' := [x_r 75, iv_c v6]) (by decide +kernel) l7 (Nat.le_of_ble_eq_true rfl) rfl ?_
  refine x_iload (np := 15) (x := 1) (by decide +kernel) rfl l7 ?_
  refine x_ifz (k := 2) (tg := 55) (np := 18) (by decide +kernel) (by decide) l7 (fun q23 => ?_) (fun q24 => ?_)
  · have q23 : v6 < 2147483648 := q23
    refine x_const (np := 56) (x := 9223372039002259456) (a := 2147483648) (by decide +kernel) (by decide) (by decide) ?_
    have b25 := jB (e := 0) 0 hJ rg_78_0_0_1 (by first | decide | omega) (by first | decide | omega)
    have q26 : h9 78 0 = h 78 0 := jK 0 f11 rg_78_0_0_1 (by first | decide | omega) (by first | decide | omega) (by decide)
    have q27 : h9 78 1 = h 78 1 := jK 0 f11 rg_78_1_0_1 (by first | decide | omega) (by first | decide | omega) (by decide)
    have q28 : h9 78 2 = h 78 2 := jK 0 f11 rg_78_2_0_1 (by first | decide | omega) (by first | decide | omega) (by decide)
    have b29 := jB (e := 3) 0 hJ rg_78_3_0_1 (by first | decide | omega) (by first | decide | omega)
    have q30 : h9 78 3 = h 78 3 := jK 0 f11 rg_78_3_0_1 (by first | decide | omega) (by first | decide | omega) (by decide)
    have b31 := jB (e := 4) 0 hJ rg_78_4_0_1 (by first | decide | omega) (by first | decide | omega)
    have q32 : h9 78 4 = h 78 4 := jK 0 f11 rg_78_4_0_1 (by first | decide | omega) (by first | decide | omega) (by decide)
    have b33 := jB (e := 5) 0 hJ rg_78_5_0_1 (by first | decide | omega) (by first | decide | omega)
    have q34 : h9 78 5 = h 78 5 := jK 0 f11 rg_78_5_0_1 (by first | decide | omega) (by first | decide | omega) (by decide)
    have b35 := jB (e := 0) 0 hJ rg_76_0_0_1 (by first | decide | omega) (by first | decide | omega)
    refine x_retI (np := 57) (x := 0) (by decide +kernel) (by decide) (Or.inr ⟨by decide +kernel, by first | decide | omega, by first | decide | omega⟩) ⟨_, rfl, (by decide), ?_⟩
    exact ⟨j10, f19, (by first | decide | omega), (fun z => by first | decide | omega), (fun z => by first | decide | omega), (fun z => by first | decide | omega), (fun z => by first | decide | omega), (fun z => by first | decide | omega), (fun z => by first | decide | omega), (fun z => absurd z (by first | decide | omega)), (nm9.f c18 (by first | decide | omega) (by first | decide | omega) rfl (by first | decide | omega) (by first | decide | omega))⟩
  have q24 : ¬ (v6 < 2147483648) := q24
  have b36 := c14 (by first | decide | omega)
  have b37 := c15 (by first | decide | omega)
  have b38 := c16 (by first | decide | omega)
  refine x_aload (np := 19) (x := 0) (by decide +kernel) rfl (x_nc_le (by decide)) ?_
  refine x_ldcB (i := 18) (idx := 160) (tx := "by") (by rw [tb_y180]; exact List.mem_of_getElem? (i := 42) rfl) (by decide) (by rw [tb_b180]; decide +kernel) ?_
  have m42 := Tq.fr hT f11 (by decide) (by decide)
  refine x_cI (t := 6) (mj := 172) (n := 2) (rc := 12) (ml := 2) (nr := 0) (np := 24) (as := [x_r 75, x_b (18 + 1)]) (rest := []) (lo1 := [x_r 75, x_b (18 + 1)]) (by decide +kernel) (by decide) (by decide +kernel) (x_rb_of (by decide +kernel)) rfl rfl (x_wr (by decide) (x_wB (by decide) x_wn)) x_wn (by decide) rfl (c172_75_S0 j10  (by decide) m42) (fun v39 h43 l40 q41 => ?_)
  obtain ⟨j44, f45, b46, c47, c48, c49⟩ := q41
  have f50 := Fr.trans f19 f45 (by decide)
  have b51 := jB (e := 7) 0 j44 rg_75_7_0_1 (by first | decide | omega) (by first | decide | omega)
  refine x_ifz (k := 0) (tg := 55) (np := 27) (by decide +kernel) (by decide) l40 (fun q52 => ?_) (fun q53 => ?_)
  · have q52 : v39 = 2147483648 := q52
    refine x_const (np := 56) (x := 9223372039002259456) (a := 2147483648) (by decide +kernel) (by decide) (by decide) ?_
    have b54 := jB (e := 0) 0 hJ rg_78_0_0_1 (by first | decide | omega) (by first | decide | omega)
    have q55 : h43 78 0 = h9 78 0 := jK 0 f45 rg_78_0_0_1 (by first | decide | omega) (by first | decide | omega) (by decide)
    have q56 : h9 78 0 = h 78 0 := jK 0 f11 rg_78_0_0_1 (by first | decide | omega) (by first | decide | omega) (by decide)
    have q57 : h43 78 1 = h9 78 1 := jK 0 f45 rg_78_1_0_1 (by first | decide | omega) (by first | decide | omega) (by decide)
    have q58 : h9 78 1 = h 78 1 := jK 0 f11 rg_78_1_0_1 (by first | decide | omega) (by first | decide | omega) (by decide)
    have q59 : h43 78 2 = h9 78 2 := jK 0 f45 rg_78_2_0_1 (by first | decide | omega) (by first | decide | omega) (by decide)
    have q60 : h9 78 2 = h 78 2 := jK 0 f11 rg_78_2_0_1 (by first | decide | omega) (by first | decide | omega) (by decide)
    have b61 := jB (e := 3) 0 hJ rg_78_3_0_1 (by first | decide | omega) (by first | decide | omega)
    have q62 : h43 78 3 = h9 78 3 := jK 0 f45 rg_78_3_0_1 (by first | decide | omega) (by first | decide | omega) (by decide)
    have q63 : h9 78 3 = h 78 3 := jK 0 f11 rg_78_3_0_1 (by first | decide | omega) (by first | decide | omega) (by decide)
    have b64 := jB (e := 4) 0 hJ rg_78_4_0_1 (by first | decide | omega) (by first | decide | omega)
    have q65 : h43 78 4 = h9 78 4 := jK 0 f45 rg_78_4_0_1 (by first | decide | omega) (by first | decide | omega) (by decide)
    have q66 : h9 78 4 = h 78 4 := jK 0 f11 rg_78_4_0_1 (by first | decide | omega) (by first | decide | omega) (by decide)
    have b67 := jB (e := 5) 0 hJ rg_78_5_0_1 (by first | decide | omega) (by first | decide | omega)
    have q68 : h43 78 5 = h9 78 5 := jK 0 f45 rg_78_5_0_1 (by first | decide | omega) (by first | decide | omega) (by decide)
    have q69 : h9 78 5 = h 78 5 := jK 0 f11 rg_78_5_0_1 (by first | decide | omega) (by first | decide | omega) (by decide)
    have b70 := jB (e := 0) 0 hJ rg_76_0_0_1 (by first | decide | omega) (by first | decide | omega)
    refine x_retI (np := 57) (x := 0) (by decide +kernel) (by decide) (Or.inr ⟨by decide +kernel, by first | decide | omega, by first | decide | omega⟩) ⟨_, rfl, (by decide), ?_⟩
    exact ⟨j44, f50, (by first | decide | omega), (fun z => by first | decide | omega), (fun z => by first | decide | omega), (fun z => by first | decide | omega), (fun z => by first | decide | omega), (fun z => by first | decide | omega), (fun z => by first | decide | omega), (fun z => absurd z (by first | decide | omega)), (nm9.y c18 (by first | decide | omega) (by first | decide | omega) rfl (by first | decide | omega) rfl (wd9.f (Tw.no c49 (by first | decide | omega)) rfl (by first | decide | omega)))⟩
  have q53 : ¬ (v39 = 2147483648) := q53
  have b71 := c48 (by first | decide | omega)
  refine x_aload (np := 28) (x := 0) (by decide +kernel) rfl (x_nc_le (by decide)) ?_
  refine x_const (np := 30) (x := 9223372124901605396) (a := 2147483668) (by decide +kernel) (by decide) (by decide) ?_
  refine x_const (np := 32) (x := 9223372069067030535) (a := 2147483655) (by decide +kernel) (by decide) (by decide) ?_
  refine x_iload (np := 33) (x := 1) (by decide +kernel) rfl l7 ?_
  obtain ⟨u72, q73⟩ : ∃ z, v6 = 2147483648 + z := ⟨v6 - 2147483648, by first | decide | omega⟩
  refine x_imul (np := 34) (x := 0) (i := 7) (j := u72) (v := (2147483648 + 7 * u72)) (by decide +kernel) (by first | decide | omega) (by first | decide | omega) (by first | decide | omega) (by first | decide | omega) (by decide) l7 ?_
  refine x_iadd (np := 35) (x := 0) (v := (2147483668 + 7 * u72)) (by decide +kernel) (by decide) (by first | decide | omega) (by first | decide | omega) (by first | decide | omega) ?_
  refine x_const (np := 37) (x := 9223372064772063238) (a := 2147483654) (by decide +kernel) (by decide) (by decide) ?_
  refine x_iadd (np := 38) (x := 0) (v := (2147483674 + 7 * u72)) (by decide +kernel) (by first | decide | omega) (by decide) (by first | decide | omega) (by first | decide | omega) ?_
  refine x_aload (np := 39) (x := 0) (by decide +kernel) rfl (x_nc_le (by decide)) ?_
  refine x_const (np := 40) (x := 9223372043297226753) (a := 2147483649) (by decide +kernel) (by decide) (by decide) ?_
  refine x_const (np := 42) (x := 9223372090541867020) (a := 2147483660) (by decide +kernel) (by decide) (by decide) ?_
  have m78 := Tq.fr m42 f45 (by decide) (by decide)
  refine x_cI (t := 6) (mj := 174) (n := 3) (rc := 12) (ml := 4) (nr := 2) (np := 45) (as := [x_r 75, iv_c 2147483649, iv_c 2147483660]) (rest := [iv_c (2147483674 + 7 * u72), x_r 75]) (lo1 := [x_r 75, iv_c 2147483649, iv_c 2147483660, 147573952589676412928]) (by decide +kernel) (by decide) (by decide +kernel) (x_rb_of (by decide +kernel)) rfl rfl (x_wr (by decide) (x_wi (by decide) (x_wi (by decide) x_wn))) (x_wi (by first | decide | omega) (x_wr (by decide) x_wn)) (by decide) rfl (c174_75 j44  (by first | decide | omega) (by first | decide | omega) m78) (fun v75 h79 l76 q77 => ?_)
  obtain ⟨j80, f81, b82, c83, c84, c85, c86, c87, c88⟩ := q77
  have f89 := Fr.trans f50 f81 (by decide)
  have b90 := jB (e := 7) 0 j80 rg_75_7_0_1 (by first | decide | omega) (by first | decide | omega)
  have b91 := c87 (by first | decide | omega)
  refine x_nI (t := 6) (mj := 176) (n := 3) (rc := 12) (ml := 3) (nr := 0) (np := 48) (as := [x_r 75, iv_c (2147483674 + 7 * u72), iv_c v75]) (rest := []) (lo1 := [x_r 75, iv_c (2147483674 + 7 * u72), iv_c v75]) (by decide +kernel) (by decide) (by decide +kernel) (x_rb_of (by decide +kernel)) rfl rfl (x_wr (by decide) (x_wi (by first | decide | omega) (x_wi l76 x_wn))) x_wn (by decide) rfl ?_
  refine x_aload (np := 1) (x := 0) (by decide +kernel) rfl (x_nc_le (by decide)) ?_
  have q92 : h79 75 3 = 78 := by have z := jB (e := 3) 0 j80 rg_75_3_0_1 (by decide) (by decide); omega
  refine x_getR (np := 4) (x := 707) (f := 3) (q := 78) (by decide +kernel) (by decide) (by decide +kernel) q92 ?_
  refine x_iload (np := 5) (x := 1) (by decide +kernel) rfl (by first | decide | omega) ?_
  refine x_iload (np := 6) (x := 2) (by decide +kernel) rfl l76 ?_
  refine x_ast (np := 7) (x := 0) (kd := 1) (n := 290) (i := (26 + 7 * u72)) (by decide +kernel) (Or.inl rfl) (by decide +kernel) (by first | decide | omega) (by first | decide | omega) (by decide) l76 (fun z => absurd z (by decide)) ?_
  have j94 := jU (e := (26 + 7 * u72)) (v := v75) u72 j80 rg_78_26_7_20 (by first | decide | omega) (by first | decide | omega) (by first | decide | omega)
  have f96 := jF (e := (26 + 7 * u72)) (v := v75) u72 f89 rg_78_26_7_20 (by first | decide | omega) (by first | decide | omega) (by decide)
  generalize e95 : x_up h79 78 (26 + 7 * u72) v75 = h93 at j94 f96 ⊢
  refine x_iload (np := 8) (x := 2) (by decide +kernel) rfl l76 ?_
  refine x_ifz (k := 2) (tg := 15) (np := 11) (by decide +kernel) (by decide) l76 (fun q97 => ?_) (fun q98 => ?_)
  · have q97 : v75 < 2147483648 := q97
    refine x_const (np := 16) (x := 9223372039002259456) (a := 2147483648) (by decide +kernel) (by decide) (by decide) ?_
    refine x_retI (np := 17) (x := 0) (by decide +kernel) (by decide) (Or.inr ⟨by decide +kernel, by first | decide | omega, by first | decide | omega⟩) ⟨_, rfl, (by decide), ?_⟩
    refine x_ifz (k := 0) (tg := 55) (np := 51) (by decide +kernel) (by decide) (by decide) (fun q99 => ?_) (fun q100 => ?_)
    · have q99 : 2147483648 = 2147483648 := q99
      refine x_const (np := 56) (x := 9223372039002259456) (a := 2147483648) (by decide +kernel) (by decide) (by decide) ?_
      have b101 := jB (e := 0) 0 hJ rg_78_0_0_1 (by first | decide | omega) (by first | decide | omega)
      have q102 : h93 78 0 = h79 78 0 := by rw [← e95]; exact x_up_i (by first | decide | omega)
      have q103 : h79 78 0 = h43 78 0 := jK 0 f81 rg_78_0_0_1 (by first | decide | omega) (by first | decide | omega) (by decide)
      have q104 : h43 78 0 = h9 78 0 := jK 0 f45 rg_78_0_0_1 (by first | decide | omega) (by first | decide | omega) (by decide)
      have q105 : h9 78 0 = h 78 0 := jK 0 f11 rg_78_0_0_1 (by first | decide | omega) (by first | decide | omega) (by decide)
      have q106 : h93 78 1 = h79 78 1 := by rw [← e95]; exact x_up_i (by first | decide | omega)
      have q107 : h79 78 1 = h43 78 1 := jK 0 f81 rg_78_1_0_1 (by first | decide | omega) (by first | decide | omega) (by decide)
      have q108 : h43 78 1 = h9 78 1 := jK 0 f45 rg_78_1_0_1 (by first | decide | omega) (by first | decide | omega) (by decide)
      have q109 : h9 78 1 = h 78 1 := jK 0 f11 rg_78_1_0_1 (by first | decide | omega) (by first | decide | omega) (by decide)
      have q110 : h93 78 2 = h79 78 2 := by rw [← e95]; exact x_up_i (by first | decide | omega)
      have q111 : h79 78 2 = h43 78 2 := jK 0 f81 rg_78_2_0_1 (by first | decide | omega) (by first | decide | omega) (by decide)
      have q112 : h43 78 2 = h9 78 2 := jK 0 f45 rg_78_2_0_1 (by first | decide | omega) (by first | decide | omega) (by decide)
      have q113 : h9 78 2 = h 78 2 := jK 0 f11 rg_78_2_0_1 (by first | decide | omega) (by first | decide | omega) (by decide)
      have b114 := jB (e := 3) 0 hJ rg_78_3_0_1 (by first | decide | omega) (by first | decide | omega)
      have q115 : h93 78 3 = h79 78 3 := by rw [← e95]; exact x_up_i (by first | decide | omega)
      have q116 : h79 78 3 = h43 78 3 := jK 0 f81 rg_78_3_0_1 (by first | decide | omega) (by first | decide | omega) (by decide)
      have q117 : h43 78 3 = h9 78 3 := jK 0 f45 rg_78_3_0_1 (by first | decide | omega) (by first | decide | omega) (by decide)
      have q118 : h9 78 3 = h 78 3 := jK 0 f11 rg_78_3_0_1 (by first | decide | omega) (by first | decide | omega) (by decide)
      have b119 := jB (e := 4) 0 hJ rg_78_4_0_1 (by first | decide | omega) (by first | decide | omega)
      have q120 : h93 78 4 = h79 78 4 := by rw [← e95]; exact x_up_i (by first | decide | omega)
      have q121 : h79 78 4 = h43 78 4 := jK 0 f81 rg_78_4_0_1 (by first | decide | omega) (by first | decide | omega) (by decide)
      have q122 : h43 78 4 = h9 78 4 := jK 0 f45 rg_78_4_0_1 (by first | decide | omega) (by first | decide | omega) (by decide)
      have q123 : h9 78 4 = h 78 4 := jK 0 f11 rg_78_4_0_1 (by first | decide | omega) (by first | decide | omega) (by decide)
      have b124 := jB (e := 5) 0 hJ rg_78_5_0_1 (by first | decide | omega) (by first | decide | omega)
      have q125 : h93 78 5 = h79 78 5 := by rw [← e95]; exact x_up_i (by first | decide | omega)
      have q126 : h79 78 5 = h43 78 5 := jK 0 f81 rg_78_5_0_1 (by first | decide | omega) (by first | decide | omega) (by decide)
      have q127 : h43 78 5 = h9 78 5 := jK 0 f45 rg_78_5_0_1 (by first | decide | omega) (by first | decide | omega) (by decide)
      have q128 : h9 78 5 = h 78 5 := jK 0 f11 rg_78_5_0_1 (by first | decide | omega) (by first | decide | omega) (by decide)
      have b129 := jB (e := 0) 0 hJ rg_76_0_0_1 (by first | decide | omega) (by first | decide | omega)
      obtain ⟨w130, e131⟩ := Tw.yes c49 (by first | decide | omega)
      refine x_retI (np := 57) (x := 0) (by decide +kernel) (by decide) (Or.inr ⟨by decide +kernel, by first | decide | omega, by first | decide | omega⟩) ⟨_, rfl, (by decide), ?_⟩
      exact ⟨j94, f96, (by first | decide | omega), (fun z => by first | decide | omega), (fun z => by first | decide | omega), (fun z => by first | decide | omega), (fun z => by first | decide | omega), (fun z => by first | decide | omega), (fun z => by first | decide | omega), (fun z => absurd z (by first | decide | omega)), (nm9.y c18 (by first | decide | omega) (by first | decide | omega) rfl (by first | decide | omega) rfl (wd9.y w130 rfl e131 rfl (nm9.f c88 (by first | decide | omega) (by first | decide | omega) rfl (by first | decide | omega) (by first | decide | omega))))⟩
    have q100 : ¬ (2147483648 = 2147483648) := q100
    exfalso; omega
  have q98 : ¬ (v75 < 2147483648) := q98
  have b132 := c84 (by first | decide | omega)
  have b133 := c85 (by first | decide | omega)
  have b134 := c86 (by first | decide | omega)
  refine x_const (np := 12) (x := 9223372043297226753) (a := 2147483649) (by decide +kernel) (by decide) (by decide) ?_
  refine x_goto (np := 15) (x := 16) (by decide +kernel) ?_
  refine x_retI (np := 17) (x := 0) (by decide +kernel) (by decide) (Or.inr ⟨by decide +kernel, by first | decide | omega, by first | decide | omega⟩) ⟨_, rfl, (by decide), ?_⟩
  refine x_ifz (k := 0) (tg := 55) (np := 51) (by decide +kernel) (by decide) (by decide) (fun q135 => ?_) (fun q136 => ?_)
  · have q135 : 2147483649 = 2147483648 := q135
    exfalso; omega
  have q136 : ¬ (2147483649 = 2147483648) := q136
  refine x_const (np := 52) (x := 9223372043297226753) (a := 2147483649) (by decide +kernel) (by decide) (by decide) ?_
  refine x_goto (np := 55) (x := 56) (by decide +kernel) ?_
  have b137 := jB (e := 0) 0 hJ rg_78_0_0_1 (by first | decide | omega) (by first | decide | omega)
  have q138 : h93 78 0 = h79 78 0 := by rw [← e95]; exact x_up_i (by first | decide | omega)
  have q139 : h79 78 0 = h43 78 0 := jK 0 f81 rg_78_0_0_1 (by first | decide | omega) (by first | decide | omega) (by decide)
  have q140 : h43 78 0 = h9 78 0 := jK 0 f45 rg_78_0_0_1 (by first | decide | omega) (by first | decide | omega) (by decide)
  have q141 : h9 78 0 = h 78 0 := jK 0 f11 rg_78_0_0_1 (by first | decide | omega) (by first | decide | omega) (by decide)
  have q142 : h93 78 1 = h79 78 1 := by rw [← e95]; exact x_up_i (by first | decide | omega)
  have q143 : h79 78 1 = h43 78 1 := jK 0 f81 rg_78_1_0_1 (by first | decide | omega) (by first | decide | omega) (by decide)
  have q144 : h43 78 1 = h9 78 1 := jK 0 f45 rg_78_1_0_1 (by first | decide | omega) (by first | decide | omega) (by decide)
  have q145 : h9 78 1 = h 78 1 := jK 0 f11 rg_78_1_0_1 (by first | decide | omega) (by first | decide | omega) (by decide)
  have q146 : h93 78 2 = h79 78 2 := by rw [← e95]; exact x_up_i (by first | decide | omega)
  have q147 : h79 78 2 = h43 78 2 := jK 0 f81 rg_78_2_0_1 (by first | decide | omega) (by first | decide | omega) (by decide)
  have q148 : h43 78 2 = h9 78 2 := jK 0 f45 rg_78_2_0_1 (by first | decide | omega) (by first | decide | omega) (by decide)
  have q149 : h9 78 2 = h 78 2 := jK 0 f11 rg_78_2_0_1 (by first | decide | omega) (by first | decide | omega) (by decide)
  have b150 := jB (e := 3) 0 hJ rg_78_3_0_1 (by first | decide | omega) (by first | decide | omega)
  have q151 : h93 78 3 = h79 78 3 := by rw [← e95]; exact x_up_i (by first | decide | omega)
  have q152 : h79 78 3 = h43 78 3 := jK 0 f81 rg_78_3_0_1 (by first | decide | omega) (by first | decide | omega) (by decide)
  have q153 : h43 78 3 = h9 78 3 := jK 0 f45 rg_78_3_0_1 (by first | decide | omega) (by first | decide | omega) (by decide)
  have q154 : h9 78 3 = h 78 3 := jK 0 f11 rg_78_3_0_1 (by first | decide | omega) (by first | decide | omega) (by decide)
  have b155 := jB (e := 4) 0 hJ rg_78_4_0_1 (by first | decide | omega) (by first | decide | omega)
  have q156 : h93 78 4 = h79 78 4 := by rw [← e95]; exact x_up_i (by first | decide | omega)
  have q157 : h79 78 4 = h43 78 4 := jK 0 f81 rg_78_4_0_1 (by first | decide | omega) (by first | decide | omega) (by decide)
  have q158 : h43 78 4 = h9 78 4 := jK 0 f45 rg_78_4_0_1 (by first | decide | omega) (by first | decide | omega) (by decide)
  have q159 : h9 78 4 = h 78 4 := jK 0 f11 rg_78_4_0_1 (by first | decide | omega) (by first | decide | omega) (by decide)
  have b160 := jB (e := 5) 0 hJ rg_78_5_0_1 (by first | decide | omega) (by first | decide | omega)
  have q161 : h93 78 5 = h79 78 5 := by rw [← e95]; exact x_up_i (by first | decide | omega)
  have q162 : h79 78 5 = h43 78 5 := jK 0 f81 rg_78_5_0_1 (by first | decide | omega) (by first | decide | omega) (by decide)
  have q163 : h43 78 5 = h9 78 5 := jK 0 f45 rg_78_5_0_1 (by first | decide | omega) (by first | decide | omega) (by decide)
  have q164 : h9 78 5 = h 78 5 := jK 0 f11 rg_78_5_0_1 (by first | decide | omega) (by first | decide | omega) (by decide)
  have m168 := Cl.fr hC f11 (by decide)
  have m167 := Cl.fr m168 f45 (by decide)
  have m166 := Cl.fr m167 f81 (by decide)
  have m165 : Cl h93 := by rw [← e95]; exact Cl.upR (e := (26 + 7 * u72)) (v := v75) u72 m166 rg_76_26_7_20 (by first | decide | omega) (by first | decide | omega) (by first | decide | omega)
  have b169 := jB (e := 0) 0 hJ rg_76_0_0_1 (by first | decide | omega) (by first | decide | omega)
  obtain ⟨w170, e171⟩ := Tw.yes c49 (by first | decide | omega)
  have q172 : h93 75 7 = h79 75 7 := by rw [← e95]; exact x_up_k (by decide)
  refine x_retI (np := 57) (x := 0) (by decide +kernel) (by decide) (Or.inr ⟨by decide +kernel, by first | decide | omega, by first | decide | omega⟩) ⟨_, rfl, (by decide), ?_⟩
  exact ⟨j94, f96, (by first | decide | omega), (fun z => by first | decide | omega), (fun z => by first | decide | omega), (fun z => by first | decide | omega), (fun z => by first | decide | omega), (fun z => by first | decide | omega), (fun z => by first | decide | omega), (fun _ => m165), (nm9.y c18 (by first | decide | omega) (by first | decide | omega) rfl (by first | decide | omega) rfl (wd9.y w170 rfl e171 rfl (nm9.y c88 (by first | decide | omega) (by first | decide | omega) rfl (by first | decide | omega) rfl (fin9.mk (by first | decide | omega) (congrArg (sk tB tN) (show h79 75 7 = h93 75 7 by first | decide | omega))))))⟩
set_option maxHeartbeats 0 in
/-- LentNamesModel.readLend()Z -/
theorem c179_75 {sc : Nat × Nat} {d  : Nat} {h : xh} {tB : Nat → Nat} {tN : Nat} (hJ : J h) (hC : Cl h) (hT : Tq tB tN h) : X sc 179 (d + 6) (xI fun r h' => J h' ∧ Fr 273678337 h h' ∧ (2147483648 ≤ r ∧ r ≤ 2147483649) ∧ (r = 2147483649 → h' 78 0 = h 78 0) ∧ (r = 2147483649 → h' 78 1 = h 78 1) ∧ (r = 2147483649 → h' 78 2 = h 78 2 + 1) ∧ (r = 2147483649 → h' 78 3 = h 78 3) ∧ (r = 2147483649 → h' 78 4 = h 78 4) ∧ (r = 2147483649 → h' 78 5 = h 78 5) ∧ (r = 2147483649 → Cl h') ∧ ((h 78 2 = 2147483668 ∧ r = 2147483648) ∨ (h 78 2 ≠ 2147483668 ∧ loan9 tB tN (h 76 0) (sk tB tN (h 75 7)) (rs r (sk tB tN (h' 75 7)))))) 0 0 0 [x_r 75, 147573952589676412928] [] h := by
  have hF := Fr.refl 273678337 h
  refine x_aload (np := 1) (x := 0) (by decide +kernel) rfl (x_nc_le (by decide)) ?_
  have q1 : h 75 3 = 78 := by have z := jB (e := 3) 0 hJ rg_75_3_0_1 (by decide) (by decide); omega
  refine x_getR (np := 4) (x := 707) (f := 3) (q := 78) (by decide +kernel) (by decide) (by decide +kernel) q1 ?_
  refine x_const (np := 5) (x := 9223372047592194050) (a := 2147483650) (by decide +kernel) (by decide) (by decide) ?_
  have b2 := jB (e := 2) 0 hJ rg_78_2_0_1 (by first | decide | omega) (by first | decide | omega)
  refine x_aldC (np := 6) (x := 0) (n := 290) (i := 2) (q := (h 78 2)) (by decide +kernel) (by decide +kernel) (by first | decide | omega) (by first | decide | omega) (by decide) rfl (fun l3 => ?_)
  refine x_const (np := 8) (x := 9223372124901605396) (a := 2147483668) (by decide +kernel) (by decide) (by decide) ?_
  refine x_icmp (k := 1) (tg := 13) (np := 11) (by decide +kernel) (by decide) l3 (by decide) (fun q4 => ?_) (fun q5 => ?_)
  · have q4 : (h 78 2) ≠ 2147483668 := q4
    refine x_const (np := 15) (x := 9223372124901605396) (a := 2147483668) (by decide +kernel) (by decide) (by decide) ?_
    refine x_const (np := 17) (x := 9223372069067030535) (a := 2147483655) (by decide +kernel) (by decide) (by decide) ?_
    refine x_aload (np := 18) (x := 0) (by decide +kernel) rfl (x_nc_le (by decide)) ?_
    have q6 : h 75 3 = 78 := by have z := jB (e := 3) 0 hJ rg_75_3_0_1 (by decide) (by decide); omega
    refine x_getR (np := 21) (x := 707) (f := 3) (q := 78) (by decide +kernel) (by decide) (by decide +kernel) q6 ?_
    refine x_const (np := 22) (x := 9223372047592194050) (a := 2147483650) (by decide +kernel) (by decide) (by decide) ?_
    refine x_aldC (np := 23) (x := 0) (n := 290) (i := 2) (q := (h 78 2)) (by decide +kernel) (by decide +kernel) (by first | decide | omega) (by first | decide | omega) (by decide) rfl (fun l7 => ?_)
    obtain ⟨u8, q9⟩ : ∃ z, (h 78 2) = 2147483648 + z := ⟨(h 78 2) - 2147483648, by first | decide | omega⟩
    refine x_imul (np := 24) (x := 0) (i := 7) (j := u8) (v := (2147483648 + 7 * u8)) (by decide +kernel) (by first | decide | omega) (by first | decide | omega) (by first | decide | omega) (by first | decide | omega) (by decide) l3 ?_
    refine x_iadd (np := 25) (x := 0) (v := (2147483668 + 7 * u8)) (by decide +kernel) (by decide) (by first | decide | omega) (by first | decide | omega) (by first | decide | omega) ?_
    refine x_istore (np := 26) (x := 1) (lo' := [x_r 75, iv_c (2147483668 + 7 * u8)]) (by decide +kernel) (by first | decide | omega) (Nat.le_of_ble_eq_true rfl) rfl ?_
    refine x_aload (np := 27) (x := 0) (by decide +kernel) rfl (x_nc_le (by decide)) ?_
    refine x_iload (np := 28) (x := 1) (by decide +kernel) rfl (by first | decide | omega) ?_
    refine x_nI (t := 6) (mj := 177) (n := 2) (rc := 12) (ml := 2) (nr := 0) (np := 31) (as := [x_r 75, iv_c (2147483668 + 7 * u8)]) (rest := []) (lo1 := [x_r 75, iv_c (2147483668 + 7 * u8)]) (by decide +kernel) (by decide) (by decide +kernel) (x_rb_of (by decide +kernel)) rfl rfl (x_wr (by decide) (x_wi (by first | decide | omega) x_wn)) x_wn (by decide) rfl ?_
    refine x_aload (np := 1) (x := 0) (by decide +kernel) rfl (x_nc_le (by decide)) ?_
    refine x_iload (np := 2) (x := 1) (by decide +kernel) rfl (by first | decide | omega) ?_
    refine x_aload (np := 3) (x := 0) (by decide +kernel) rfl (x_nc_le (by decide)) ?_
    refine x_const (np := 4) (x := 9223372039002259456) (a := 2147483648) (by decide +kernel) (by decide) (by decide) ?_
    refine x_aload (np := 5) (x := 0) (by decide +kernel) rfl (x_nc_le (by decide)) ?_
    refine x_nI (t := 6) (mj := 157) (n := 1) (rc := 12) (ml := 1) (nr := 4) (np := 8) (as := [x_r 75]) (rest := [iv_c 2147483648, x_r 75, iv_c (2147483668 + 7 * u8), x_r 75]) (lo1 := [x_r 75]) (by decide +kernel) (by decide) (by decide +kernel) (x_rb_of (by decide +kernel)) rfl rfl (x_wr (by decide) x_wn) (x_wi (by decide) (x_wr (by decide) (x_wi (by first | decide | omega) (x_wr (by decide) x_wn)))) (by decide) rfl ?_
    refine x_aload (np := 1) (x := 0) (by decide +kernel) rfl (x_nc_le (by decide)) ?_
    have q11 : h 75 1 = 76 := by have z := jB (e := 1) 0 hJ rg_75_1_0_1 (by decide) (by decide); omega
    refine x_getR (np := 4) (x := 705) (f := 1) (q := 76) (by decide +kernel) (by decide) (by decide +kernel) q11 ?_
    refine x_const (np := 5) (x := 9223372039002259456) (a := 2147483648) (by decide +kernel) (by decide) (by decide) ?_
    have b12 := jB (e := 0) 0 hJ rg_76_0_0_1 (by first | decide | omega) (by first | decide | omega)
    refine x_aldC (np := 6) (x := 0) (n := 1952) (i := 0) (q := (h 76 0)) (by decide +kernel) (by decide +kernel) (by first | decide | omega) (by first | decide | omega) (by decide) rfl (fun l13 => ?_)
    refine x_retI (np := 7) (x := 0) (by decide +kernel) l13 (Or.inl (by decide +kernel)) ⟨_, rfl, l13, ?_⟩
    refine x_const (np := 9) (x := 9223372043297226753) (a := 2147483649) (by decide +kernel) (by decide) (by decide) ?_
    obtain ⟨v14, q15⟩ : ∃ z, z + 2147483649 = (h 76 0) + 2147483648 := ⟨(h 76 0) + 2147483648 - 2147483649, by first | decide | omega⟩
    refine x_isub (np := 10) (x := 0) (v := v14) (by decide +kernel) l13 (by decide) (by first | decide | omega) (by first | decide | omega) ?_
    refine x_cI (t := 6) (mj := 174) (n := 3) (rc := 12) (ml := 4) (nr := 2) (np := 13) (as := [x_r 75, iv_c 2147483648, iv_c v14]) (rest := [iv_c (2147483668 + 7 * u8), x_r 75]) (lo1 := [x_r 75, iv_c 2147483648, iv_c v14, 147573952589676412928]) (by decide +kernel) (by decide) (by decide +kernel) (x_rb_of (by decide +kernel)) rfl rfl (x_wr (by decide) (x_wi (by decide) (x_wi (by first | decide | omega) x_wn))) (x_wi (by first | decide | omega) (x_wr (by decide) x_wn)) (by decide) rfl (c174_75 hJ  (by first | decide | omega) (by first | decide | omega) hT) (fun v16 h19 l17 q18 => ?_)
    obtain ⟨j20, f21, b22, c23, c24, c25, c26, c27, c28⟩ := q18
    have f29 := Fr.trans hF f21 (by decide)
    have b30 := jB (e := 7) 0 hJ rg_75_7_0_1 (by first | decide | omega) (by first | decide | omega)
    have b31 := jB (e := 7) 0 j20 rg_75_7_0_1 (by first | decide | omega) (by first | decide | omega)
    have b32 := c27 (by first | decide | omega)
    refine x_nI (t := 6) (mj := 176) (n := 3) (rc := 12) (ml := 3) (nr := 0) (np := 16) (as := [x_r 75, iv_c (2147483668 + 7 * u8), iv_c v16]) (rest := []) (lo1 := [x_r 75, iv_c (2147483668 + 7 * u8), iv_c v16]) (by decide +kernel) (by decide) (by decide +kernel) (x_rb_of (by decide +kernel)) rfl rfl (x_wr (by decide) (x_wi (by first | decide | omega) (x_wi l17 x_wn))) x_wn (by decide) rfl ?_
    refine x_aload (np := 1) (x := 0) (by decide +kernel) rfl (x_nc_le (by decide)) ?_
    have q33 : h19 75 3 = 78 := by have z := jB (e := 3) 0 j20 rg_75_3_0_1 (by decide) (by decide); omega
    refine x_getR (np := 4) (x := 707) (f := 3) (q := 78) (by decide +kernel) (by decide) (by decide +kernel) q33 ?_
    refine x_iload (np := 5) (x := 1) (by decide +kernel) rfl (by first | decide | omega) ?_
    refine x_iload (np := 6) (x := 2) (by decide +kernel) rfl l17 ?_
    refine x_ast (np := 7) (x := 0) (kd := 1) (n := 290) (i := (20 + 7 * u8)) (by decide +kernel) (Or.inl rfl) (by decide +kernel) (by first | decide | omega) (by first | decide | omega) (by decide) l17 (fun z => absurd z (by decide)) ?_
    have j35 := jU (e := (20 + 7 * u8)) (v := v16) u8 j20 rg_78_20_7_20 (by first | decide | omega) (by first | decide | omega) (by first | decide | omega)
    have f37 := jF (e := (20 + 7 * u8)) (v := v16) u8 f29 rg_78_20_7_20 (by first | decide | omega) (by first | decide | omega) (by decide)
    generalize e36 : x_up h19 78 (20 + 7 * u8) v16 = h34 at j35 f37 ⊢
    refine x_iload (np := 8) (x := 2) (by decide +kernel) rfl l17 ?_
    refine x_ifz (k := 2) (tg := 15) (np := 11) (by decide +kernel) (by decide) l17 (fun q38 => ?_) (fun q39 => ?_)
    · have q38 : v16 < 2147483648 := q38
      refine x_const (np := 16) (x := 9223372039002259456) (a := 2147483648) (by decide +kernel) (by decide) (by decide) ?_
      refine x_retI (np := 17) (x := 0) (by decide +kernel) (by decide) (Or.inr ⟨by decide +kernel, by first | decide | omega, by first | decide | omega⟩) ⟨_, rfl, (by decide), ?_⟩
      refine x_retI (np := 17) (x := 0) (by decide +kernel) (by decide) (Or.inr ⟨by decide +kernel, by first | decide | omega, by first | decide | omega⟩) ⟨_, rfl, (by decide), ?_⟩
      refine x_ifz (k := 0) (tg := 99) (np := 34) (by decide +kernel) (by decide) (by decide) (fun q40 => ?_) (fun q41 => ?_)
      · have q40 : 2147483648 = 2147483648 := q40
        refine x_const (np := 100) (x := 9223372039002259456) (a := 2147483648) (by decide +kernel) (by decide) (by decide) ?_
        have b42 := jB (e := 0) 0 hJ rg_78_0_0_1 (by first | decide | omega) (by first | decide | omega)
        have q43 : h34 78 0 = h19 78 0 := by rw [← e36]; exact x_up_i (by first | decide | omega)
        have q44 : h19 78 0 = h 78 0 := jK 0 f21 rg_78_0_0_1 (by first | decide | omega) (by first | decide | omega) (by decide)
        have q45 : h34 78 1 = h19 78 1 := by rw [← e36]; exact x_up_i (by first | decide | omega)
        have q46 : h19 78 1 = h 78 1 := jK 0 f21 rg_78_1_0_1 (by first | decide | omega) (by first | decide | omega) (by decide)
        have q47 : h34 78 2 = h19 78 2 := by rw [← e36]; exact x_up_i (by first | decide | omega)
        have q48 : h19 78 2 = h 78 2 := jK 0 f21 rg_78_2_0_1 (by first | decide | omega) (by first | decide | omega) (by decide)
        have b49 := jB (e := 3) 0 hJ rg_78_3_0_1 (by first | decide | omega) (by first | decide | omega)
        have q50 : h34 78 3 = h19 78 3 := by rw [← e36]; exact x_up_i (by first | decide | omega)
        have q51 : h19 78 3 = h 78 3 := jK 0 f21 rg_78_3_0_1 (by first | decide | omega) (by first | decide | omega) (by decide)
        have b52 := jB (e := 4) 0 hJ rg_78_4_0_1 (by first | decide | omega) (by first | decide | omega)
        have q53 : h34 78 4 = h19 78 4 := by rw [← e36]; exact x_up_i (by first | decide | omega)
        have q54 : h19 78 4 = h 78 4 := jK 0 f21 rg_78_4_0_1 (by first | decide | omega) (by first | decide | omega) (by decide)
        have b55 := jB (e := 5) 0 hJ rg_78_5_0_1 (by first | decide | omega) (by first | decide | omega)
        have q56 : h34 78 5 = h19 78 5 := by rw [← e36]; exact x_up_i (by first | decide | omega)
        have q57 : h19 78 5 = h 78 5 := jK 0 f21 rg_78_5_0_1 (by first | decide | omega) (by first | decide | omega) (by decide)
        refine x_retI (np := 101) (x := 0) (by decide +kernel) (by decide) (Or.inr ⟨by decide +kernel, by first | decide | omega, by first | decide | omega⟩) ⟨_, rfl, (by decide), ?_⟩
        exact ⟨j35, f37, (by first | decide | omega), (fun z => by first | decide | omega), (fun z => by first | decide | omega), (fun z => by first | decide | omega), (fun z => by first | decide | omega), (fun z => by first | decide | omega), (fun z => by first | decide | omega), (fun z => absurd z (by first | decide | omega)), (Or.inr ⟨by first | decide | omega, (nm9.f c28 (by first | decide | omega) (by first | decide | omega) rfl (by first | decide | omega) (by first | decide | omega))⟩)⟩
      have q41 : ¬ (2147483648 = 2147483648) := q41
      exfalso; omega
    have q39 : ¬ (v16 < 2147483648) := q39
    have b58 := c24 (by first | decide | omega)
    have b59 := c25 (by first | decide | omega)
    have b60 := c26 (by first | decide | omega)
    refine x_const (np := 12) (x := 9223372043297226753) (a := 2147483649) (by decide +kernel) (by decide) (by decide) ?_
    refine x_goto (np := 15) (x := 16) (by decide +kernel) ?_
    refine x_retI (np := 17) (x := 0) (by decide +kernel) (by decide) (Or.inr ⟨by decide +kernel, by first | decide | omega, by first | decide | omega⟩) ⟨_, rfl, (by decide), ?_⟩
    refine x_retI (np := 17) (x := 0) (by decide +kernel) (by decide) (Or.inr ⟨by decide +kernel, by first | decide | omega, by first | decide | omega⟩) ⟨_, rfl, (by decide), ?_⟩
    refine x_ifz (k := 0) (tg := 99) (np := 34) (by decide +kernel) (by decide) (by decide) (fun q61 => ?_) (fun q62 => ?_)
    · have q61 : 2147483649 = 2147483648 := q61
      exfalso; omega
    have q62 : ¬ (2147483649 = 2147483648) := q62
    refine x_aload (np := 35) (x := 0) (by decide +kernel) rfl (x_nc_le (by decide)) ?_
    refine x_ldcB (i := 1) (idx := 142) (tx := "to") (by rw [tb_y179]; exact List.mem_of_getElem? (i := 36) rfl) (by decide) (by rw [tb_b179]; decide +kernel) ?_
    have m67 := Tq.fr hT f21 (by decide) (by decide)
    have m66 : Tq tB tN h34 := by rw [← e36]; exact Tq.oth m67 (by decide) (fun z => absurd z.1 (by decide))
    refine x_cI (t := 6) (mj := 172) (n := 2) (rc := 12) (ml := 2) (nr := 0) (np := 40) (as := [x_r 75, x_b (1 + 1)]) (rest := []) (lo1 := [x_r 75, x_b (1 + 1)]) (by decide +kernel) (by decide) (by decide +kernel) (x_rb_of (by decide +kernel)) rfl rfl (x_wr (by decide) (x_wB (by decide) x_wn)) x_wn (by decide) rfl (c172_75_S0 j35  (by decide) m66) (fun v63 h68 l64 q65 => ?_)
    obtain ⟨j69, f70, b71, c72, c73, c74⟩ := q65
    have f75 := Fr.trans f37 f70 (by decide)
    have q76 : h34 75 7 = h19 75 7 := by rw [← e36]; exact x_up_k (by decide)
    have b77 := jB (e := 7) 0 j69 rg_75_7_0_1 (by first | decide | omega) (by first | decide | omega)
    have q78 : h34 75 7 = h19 75 7 := by rw [← e36]; exact x_up_k (by decide)
    refine x_ifz (k := 0) (tg := 99) (np := 43) (by decide +kernel) (by decide) l64 (fun q79 => ?_) (fun q80 => ?_)
    · have q79 : v63 = 2147483648 := q79
      refine x_const (np := 100) (x := 9223372039002259456) (a := 2147483648) (by decide +kernel) (by decide) (by decide) ?_
      have b81 := jB (e := 0) 0 hJ rg_78_0_0_1 (by first | decide | omega) (by first | decide | omega)
      have q82 : h68 78 0 = h34 78 0 := jK 0 f70 rg_78_0_0_1 (by first | decide | omega) (by first | decide | omega) (by decide)
      have q83 : h34 78 0 = h19 78 0 := by rw [← e36]; exact x_up_i (by first | decide | omega)
      have q84 : h19 78 0 = h 78 0 := jK 0 f21 rg_78_0_0_1 (by first | decide | omega) (by first | decide | omega) (by decide)
      have q85 : h68 78 1 = h34 78 1 := jK 0 f70 rg_78_1_0_1 (by first | decide | omega) (by first | decide | omega) (by decide)
      have q86 : h34 78 1 = h19 78 1 := by rw [← e36]; exact x_up_i (by first | decide | omega)
      have q87 : h19 78 1 = h 78 1 := jK 0 f21 rg_78_1_0_1 (by first | decide | omega) (by first | decide | omega) (by decide)
      have q88 : h68 78 2 = h34 78 2 := jK 0 f70 rg_78_2_0_1 (by first | decide | omega) (by first | decide | omega) (by decide)
      have q89 : h34 78 2 = h19 78 2 := by rw [← e36]; exact x_up_i (by first | decide | omega)
      have q90 : h19 78 2 = h 78 2 := jK 0 f21 rg_78_2_0_1 (by first | decide | omega) (by first | decide | omega) (by decide)
      have b91 := jB (e := 3) 0 hJ rg_78_3_0_1 (by first | decide | omega) (by first | decide | omega)
      have q92 : h68 78 3 = h34 78 3 := jK 0 f70 rg_78_3_0_1 (by first | decide | omega) (by first | decide | omega) (by decide)
      have q93 : h34 78 3 = h19 78 3 := by rw [← e36]; exact x_up_i (by first | decide | omega)
      have q94 : h19 78 3 = h 78 3 := jK 0 f21 rg_78_3_0_1 (by first | decide | omega) (by first | decide | omega) (by decide)
      have b95 := jB (e := 4) 0 hJ rg_78_4_0_1 (by first | decide | omega) (by first | decide | omega)
      have q96 : h68 78 4 = h34 78 4 := jK 0 f70 rg_78_4_0_1 (by first | decide | omega) (by first | decide | omega) (by decide)
      have q97 : h34 78 4 = h19 78 4 := by rw [← e36]; exact x_up_i (by first | decide | omega)
      have q98 : h19 78 4 = h 78 4 := jK 0 f21 rg_78_4_0_1 (by first | decide | omega) (by first | decide | omega) (by decide)
      have b99 := jB (e := 5) 0 hJ rg_78_5_0_1 (by first | decide | omega) (by first | decide | omega)
      have q100 : h68 78 5 = h34 78 5 := jK 0 f70 rg_78_5_0_1 (by first | decide | omega) (by first | decide | omega) (by decide)
      have q101 : h34 78 5 = h19 78 5 := by rw [← e36]; exact x_up_i (by first | decide | omega)
      have q102 : h19 78 5 = h 78 5 := jK 0 f21 rg_78_5_0_1 (by first | decide | omega) (by first | decide | omega) (by decide)
      have q103 : h34 75 7 = h19 75 7 := by rw [← e36]; exact x_up_k (by decide)
      refine x_retI (np := 101) (x := 0) (by decide +kernel) (by decide) (Or.inr ⟨by decide +kernel, by first | decide | omega, by first | decide | omega⟩) ⟨_, rfl, (by decide), ?_⟩
      exact ⟨j69, f75, (by first | decide | omega), (fun z => by first | decide | omega), (fun z => by first | decide | omega), (fun z => by first | decide | omega), (fun z => by first | decide | omega), (fun z => by first | decide | omega), (fun z => by first | decide | omega), (fun z => absurd z (by first | decide | omega)), (Or.inr ⟨by first | decide | omega, (nm9.y c28 (by first | decide | omega) (by first | decide | omega) rfl (by first | decide | omega) rfl (wd9.f (Tw.no c74 (by first | decide | omega)) (congrArg (sk tB tN) (show h34 75 7 = h19 75 7 by first | decide | omega)) (by first | decide | omega)))⟩)⟩
    have q80 : ¬ (v63 = 2147483648) := q80
    have b104 := c73 (by first | decide | omega)
    refine x_aload (np := 44) (x := 0) (by decide +kernel) rfl (x_nc_le (by decide)) ?_
    refine x_iload (np := 45) (x := 1) (by decide +kernel) rfl (by first | decide | omega) ?_
    refine x_const (np := 46) (x := 9223372043297226753) (a := 2147483649) (by decide +kernel) (by decide) (by decide) ?_
    refine x_iadd (np := 47) (x := 0) (v := (2147483669 + 7 * u8)) (by decide +kernel) (by first | decide | omega) (by decide) (by first | decide | omega) (by first | decide | omega) ?_
    refine x_nI (t := 6) (mj := 177) (n := 2) (rc := 12) (ml := 2) (nr := 0) (np := 50) (as := [x_r 75, iv_c (2147483669 + 7 * u8)]) (rest := []) (lo1 := [x_r 75, iv_c (2147483669 + 7 * u8)]) (by decide +kernel) (by decide) (by decide +kernel) (x_rb_of (by decide +kernel)) rfl rfl (x_wr (by decide) (x_wi (by first | decide | omega) x_wn)) x_wn (by decide) rfl ?_
    refine x_aload (np := 1) (x := 0) (by decide +kernel) rfl (x_nc_le (by decide)) ?_
    refine x_iload (np := 2) (x := 1) (by decide +kernel) rfl (by first | decide | omega) ?_
    refine x_aload (np := 3) (x := 0) (by decide +kernel) rfl (x_nc_le (by decide)) ?_
    refine x_const (np := 4) (x := 9223372039002259456) (a := 2147483648) (by decide +kernel) (by decide) (by decide) ?_
    refine x_aload (np := 5) (x := 0) (by decide +kernel) rfl (x_nc_le (by decide)) ?_
    refine x_nI (t := 6) (mj := 157) (n := 1) (rc := 12) (ml := 1) (nr := 4) (np := 8) (as := [x_r 75]) (rest := [iv_c 2147483648, x_r 75, iv_c (2147483669 + 7 * u8), x_r 75]) (lo1 := [x_r 75]) (by decide +kernel) (by decide) (by decide +kernel) (x_rb_of (by decide +kernel)) rfl rfl (x_wr (by decide) x_wn) (x_wi (by decide) (x_wr (by decide) (x_wi (by first | decide | omega) (x_wr (by decide) x_wn)))) (by decide) rfl ?_
    refine x_aload (np := 1) (x := 0) (by decide +kernel) rfl (x_nc_le (by decide)) ?_
    have q105 : h68 75 1 = 76 := by have z := jB (e := 1) 0 j69 rg_75_1_0_1 (by decide) (by decide); omega
    refine x_getR (np := 4) (x := 705) (f := 1) (q := 76) (by decide +kernel) (by decide) (by decide +kernel) q105 ?_
    refine x_const (np := 5) (x := 9223372039002259456) (a := 2147483648) (by decide +kernel) (by decide) (by decide) ?_
    have q106 : h68 76 0 = h34 76 0 := jK 0 f70 rg_76_0_0_1 (by first | decide | omega) (by first | decide | omega) (by decide)
    have q107 : h34 76 0 = h19 76 0 := by rw [← e36]; exact x_up_k (by decide)
    have q108 : h19 76 0 = h 76 0 := jK 0 f21 rg_76_0_0_1 (by first | decide | omega) (by first | decide | omega) (by decide)
    refine x_aldC (np := 6) (x := 0) (n := 1952) (i := 0) (q := (h 76 0)) (by decide +kernel) (by decide +kernel) (by first | decide | omega) (by first | decide | omega) (by decide) ((q106.trans q107).trans q108) (fun l109 => ?_)
    refine x_retI (np := 7) (x := 0) (by decide +kernel) l13 (Or.inl (by decide +kernel)) ⟨_, rfl, l13, ?_⟩
    refine x_const (np := 9) (x := 9223372043297226753) (a := 2147483649) (by decide +kernel) (by decide) (by decide) ?_
    obtain ⟨v110, q111⟩ : ∃ z, z + 2147483649 = (h 76 0) + 2147483648 := ⟨(h 76 0) + 2147483648 - 2147483649, by first | decide | omega⟩
    refine x_isub (np := 10) (x := 0) (v := v110) (by decide +kernel) l13 (by decide) (by first | decide | omega) (by first | decide | omega) ?_
    have m115 := Tq.fr m66 f70 (by decide) (by decide)
    refine x_cI (t := 6) (mj := 174) (n := 3) (rc := 12) (ml := 4) (nr := 2) (np := 13) (as := [x_r 75, iv_c 2147483648, iv_c v110]) (rest := [iv_c (2147483669 + 7 * u8), x_r 75]) (lo1 := [x_r 75, iv_c 2147483648, iv_c v110, 147573952589676412928]) (by decide +kernel) (by decide) (by decide +kernel) (x_rb_of (by decide +kernel)) rfl rfl (x_wr (by decide) (x_wi (by decide) (x_wi (by first | decide | omega) x_wn))) (x_wi (by first | decide | omega) (x_wr (by decide) x_wn)) (by decide) rfl (c174_75 j69  (by first | decide | omega) (by first | decide | omega) m115) (fun v112 h116 l113 q114 => ?_)
    obtain ⟨j117, f118, b119, c120, c121, c122, c123, c124, c125⟩ := q114
    have f126 := Fr.trans f75 f118 (by decide)
    have b127 := jB (e := 7) 0 j117 rg_75_7_0_1 (by first | decide | omega) (by first | decide | omega)
    have b128 := c124 (by first | decide | omega)
    refine x_nI (t := 6) (mj := 176) (n := 3) (rc := 12) (ml := 3) (nr := 0) (np := 16) (as := [x_r 75, iv_c (2147483669 + 7 * u8), iv_c v112]) (rest := []) (lo1 := [x_r 75, iv_c (2147483669 + 7 * u8), iv_c v112]) (by decide +kernel) (by decide) (by decide +kernel) (x_rb_of (by decide +kernel)) rfl rfl (x_wr (by decide) (x_wi (by first | decide | omega) (x_wi l113 x_wn))) x_wn (by decide) rfl ?_
    refine x_aload (np := 1) (x := 0) (by decide +kernel) rfl (x_nc_le (by decide)) ?_
    have q129 : h116 75 3 = 78 := by have z := jB (e := 3) 0 j117 rg_75_3_0_1 (by decide) (by decide); omega
    refine x_getR (np := 4) (x := 707) (f := 3) (q := 78) (by decide +kernel) (by decide) (by decide +kernel) q129 ?_
    refine x_iload (np := 5) (x := 1) (by decide +kernel) rfl (by first | decide | omega) ?_
    refine x_iload (np := 6) (x := 2) (by decide +kernel) rfl l113 ?_
    refine x_ast (np := 7) (x := 0) (kd := 1) (n := 290) (i := (21 + 7 * u8)) (by decide +kernel) (Or.inl rfl) (by decide +kernel) (by first | decide | omega) (by first | decide | omega) (by decide) l113 (fun z => absurd z (by decide)) ?_
    have j131 := jU (e := (21 + 7 * u8)) (v := v112) u8 j117 rg_78_21_7_20 (by first | decide | omega) (by first | decide | omega) (by first | decide | omega)
    have f133 := jF (e := (21 + 7 * u8)) (v := v112) u8 f126 rg_78_21_7_20 (by first | decide | omega) (by first | decide | omega) (by decide)
    generalize e132 : x_up h116 78 (21 + 7 * u8) v112 = h130 at j131 f133 ⊢
    refine x_iload (np := 8) (x := 2) (by decide +kernel) rfl l113 ?_
    refine x_ifz (k := 2) (tg := 15) (np := 11) (by decide +kernel) (by decide) l113 (fun q134 => ?_) (fun q135 => ?_)
    · have q134 : v112 < 2147483648 := q134
      refine x_const (np := 16) (x := 9223372039002259456) (a := 2147483648) (by decide +kernel) (by decide) (by decide) ?_
      refine x_retI (np := 17) (x := 0) (by decide +kernel) (by decide) (Or.inr ⟨by decide +kernel, by first | decide | omega, by first | decide | omega⟩) ⟨_, rfl, (by decide), ?_⟩
      refine x_retI (np := 17) (x := 0) (by decide +kernel) (by decide) (Or.inr ⟨by decide +kernel, by first | decide | omega, by first | decide | omega⟩) ⟨_, rfl, (by decide), ?_⟩
      refine x_ifz (k := 0) (tg := 99) (np := 53) (by decide +kernel) (by decide) (by decide) (fun q136 => ?_) (fun q137 => ?_)
      · have q136 : 2147483648 = 2147483648 := q136
        refine x_const (np := 100) (x := 9223372039002259456) (a := 2147483648) (by decide +kernel) (by decide) (by decide) ?_
        have b138 := jB (e := 0) 0 hJ rg_78_0_0_1 (by first | decide | omega) (by first | decide | omega)
        have q139 : h130 78 0 = h116 78 0 := by rw [← e132]; exact x_up_i (by first | decide | omega)
        have q140 : h116 78 0 = h68 78 0 := jK 0 f118 rg_78_0_0_1 (by first | decide | omega) (by first | decide | omega) (by decide)
        have q141 : h68 78 0 = h34 78 0 := jK 0 f70 rg_78_0_0_1 (by first | decide | omega) (by first | decide | omega) (by decide)
        have q142 : h34 78 0 = h19 78 0 := by rw [← e36]; exact x_up_i (by first | decide | omega)
        have q143 : h19 78 0 = h 78 0 := jK 0 f21 rg_78_0_0_1 (by first | decide | omega) (by first | decide | omega) (by decide)
        have q144 : h130 78 1 = h116 78 1 := by rw [← e132]; exact x_up_i (by first | decide | omega)
        have q145 : h116 78 1 = h68 78 1 := jK 0 f118 rg_78_1_0_1 (by first | decide | omega) (by first | decide | omega) (by decide)
        have q146 : h68 78 1 = h34 78 1 := jK 0 f70 rg_78_1_0_1 (by first | decide | omega) (by first | decide | omega) (by decide)
        have q147 : h34 78 1 = h19 78 1 := by rw [← e36]; exact x_up_i (by first | decide | omega)
        have q148 : h19 78 1 = h 78 1 := jK 0 f21 rg_78_1_0_1 (by first | decide | omega) (by first | decide | omega) (by decide)
        have q149 : h130 78 2 = h116 78 2 := by rw [← e132]; exact x_up_i (by first | decide | omega)
        have q150 : h116 78 2 = h68 78 2 := jK 0 f118 rg_78_2_0_1 (by first | decide | omega) (by first | decide | omega) (by decide)
        have q151 : h68 78 2 = h34 78 2 := jK 0 f70 rg_78_2_0_1 (by first | decide | omega) (by first | decide | omega) (by decide)
        have q152 : h34 78 2 = h19 78 2 := by rw [← e36]; exact x_up_i (by first | decide | omega)
        have q153 : h19 78 2 = h 78 2 := jK 0 f21 rg_78_2_0_1 (by first | decide | omega) (by first | decide | omega) (by decide)
        have b154 := jB (e := 3) 0 hJ rg_78_3_0_1 (by first | decide | omega) (by first | decide | omega)
        have q155 : h130 78 3 = h116 78 3 := by rw [← e132]; exact x_up_i (by first | decide | omega)
        have q156 : h116 78 3 = h68 78 3 := jK 0 f118 rg_78_3_0_1 (by first | decide | omega) (by first | decide | omega) (by decide)
        have q157 : h68 78 3 = h34 78 3 := jK 0 f70 rg_78_3_0_1 (by first | decide | omega) (by first | decide | omega) (by decide)
        have q158 : h34 78 3 = h19 78 3 := by rw [← e36]; exact x_up_i (by first | decide | omega)
        have q159 : h19 78 3 = h 78 3 := jK 0 f21 rg_78_3_0_1 (by first | decide | omega) (by first | decide | omega) (by decide)
        have b160 := jB (e := 4) 0 hJ rg_78_4_0_1 (by first | decide | omega) (by first | decide | omega)
        have q161 : h130 78 4 = h116 78 4 := by rw [← e132]; exact x_up_i (by first | decide | omega)
        have q162 : h116 78 4 = h68 78 4 := jK 0 f118 rg_78_4_0_1 (by first | decide | omega) (by first | decide | omega) (by decide)
        have q163 : h68 78 4 = h34 78 4 := jK 0 f70 rg_78_4_0_1 (by first | decide | omega) (by first | decide | omega) (by decide)
        have q164 : h34 78 4 = h19 78 4 := by rw [← e36]; exact x_up_i (by first | decide | omega)
        have q165 : h19 78 4 = h 78 4 := jK 0 f21 rg_78_4_0_1 (by first | decide | omega) (by first | decide | omega) (by decide)
        have b166 := jB (e := 5) 0 hJ rg_78_5_0_1 (by first | decide | omega) (by first | decide | omega)
        have q167 : h130 78 5 = h116 78 5 := by rw [← e132]; exact x_up_i (by first | decide | omega)
        have q168 : h116 78 5 = h68 78 5 := jK 0 f118 rg_78_5_0_1 (by first | decide | omega) (by first | decide | omega) (by decide)
        have q169 : h68 78 5 = h34 78 5 := jK 0 f70 rg_78_5_0_1 (by first | decide | omega) (by first | decide | omega) (by decide)
        have q170 : h34 78 5 = h19 78 5 := by rw [← e36]; exact x_up_i (by first | decide | omega)
        have q171 : h19 78 5 = h 78 5 := jK 0 f21 rg_78_5_0_1 (by first | decide | omega) (by first | decide | omega) (by decide)
        have q172 : h34 75 7 = h19 75 7 := by rw [← e36]; exact x_up_k (by decide)
        obtain ⟨w173, e174⟩ := Tw.yes c74 (by first | decide | omega)
        refine x_retI (np := 101) (x := 0) (by decide +kernel) (by decide) (Or.inr ⟨by decide +kernel, by first | decide | omega, by first | decide | omega⟩) ⟨_, rfl, (by decide), ?_⟩
        exact ⟨j131, f133, (by first | decide | omega), (fun z => by first | decide | omega), (fun z => by first | decide | omega), (fun z => by first | decide | omega), (fun z => by first | decide | omega), (fun z => by first | decide | omega), (fun z => by first | decide | omega), (fun z => absurd z (by first | decide | omega)), (Or.inr ⟨by first | decide | omega, (nm9.y c28 (by first | decide | omega) (by first | decide | omega) rfl (by first | decide | omega) rfl (wd9.y w173 (congrArg (sk tB tN) (show h34 75 7 = h19 75 7 by first | decide | omega)) e174 rfl (nm9.f c125 (by first | decide | omega) (by first | decide | omega) rfl (by first | decide | omega) (by first | decide | omega))))⟩)⟩
      have q137 : ¬ (2147483648 = 2147483648) := q137
      exfalso; omega
    have q135 : ¬ (v112 < 2147483648) := q135
    have b175 := c121 (by first | decide | omega)
    have b176 := c122 (by first | decide | omega)
    have b177 := c123 (by first | decide | omega)
    refine x_const (np := 12) (x := 9223372043297226753) (a := 2147483649) (by decide +kernel) (by decide) (by decide) ?_
    refine x_goto (np := 15) (x := 16) (by decide +kernel) ?_
    refine x_retI (np := 17) (x := 0) (by decide +kernel) (by decide) (Or.inr ⟨by decide +kernel, by first | decide | omega, by first | decide | omega⟩) ⟨_, rfl, (by decide), ?_⟩
    refine x_retI (np := 17) (x := 0) (by decide +kernel) (by decide) (Or.inr ⟨by decide +kernel, by first | decide | omega, by first | decide | omega⟩) ⟨_, rfl, (by decide), ?_⟩
    refine x_ifz (k := 0) (tg := 99) (np := 53) (by decide +kernel) (by decide) (by decide) (fun q178 => ?_) (fun q179 => ?_)
    · have q178 : 2147483649 = 2147483648 := q178
      exfalso; omega
    have q179 : ¬ (2147483649 = 2147483648) := q179
    refine x_aload (np := 54) (x := 0) (by decide +kernel) rfl (x_nc_le (by decide)) ?_
    refine x_ldcB (i := 2) (idx := 147) (tx := "day") (by rw [tb_y179]; exact List.mem_of_getElem? (i := 37) rfl) (by decide) (by rw [tb_b179]; decide +kernel) ?_
    have m184 := Tq.fr m115 f118 (by decide) (by decide)
    have m183 : Tq tB tN h130 := by rw [← e132]; exact Tq.oth m184 (by decide) (fun z => absurd z.1 (by decide))
    refine x_cI (t := 6) (mj := 172) (n := 2) (rc := 12) (ml := 2) (nr := 0) (np := 59) (as := [x_r 75, x_b (2 + 1)]) (rest := []) (lo1 := [x_r 75, x_b (2 + 1)]) (by decide +kernel) (by decide) (by decide +kernel) (x_rb_of (by decide +kernel)) rfl rfl (x_wr (by decide) (x_wB (by decide) x_wn)) x_wn (by decide) rfl (c172_75_S0 j131  (by decide) m183) (fun v180 h185 l181 q182 => ?_)
    obtain ⟨j186, f187, b188, c189, c190, c191⟩ := q182
    have f192 := Fr.trans f133 f187 (by decide)
    have q193 : h130 75 7 = h116 75 7 := by rw [← e132]; exact x_up_k (by decide)
    have b194 := jB (e := 7) 0 j186 rg_75_7_0_1 (by first | decide | omega) (by first | decide | omega)
    have q195 : h130 75 7 = h116 75 7 := by rw [← e132]; exact x_up_k (by decide)
    refine x_ifz (k := 0) (tg := 99) (np := 62) (by decide +kernel) (by decide) l181 (fun q196 => ?_) (fun q197 => ?_)
    · have q196 : v180 = 2147483648 := q196
      refine x_const (np := 100) (x := 9223372039002259456) (a := 2147483648) (by decide +kernel) (by decide) (by decide) ?_
      have b198 := jB (e := 0) 0 hJ rg_78_0_0_1 (by first | decide | omega) (by first | decide | omega)
      have q199 : h185 78 0 = h130 78 0 := jK 0 f187 rg_78_0_0_1 (by first | decide | omega) (by first | decide | omega) (by decide)
      have q200 : h130 78 0 = h116 78 0 := by rw [← e132]; exact x_up_i (by first | decide | omega)
      have q201 : h116 78 0 = h68 78 0 := jK 0 f118 rg_78_0_0_1 (by first | decide | omega) (by first | decide | omega) (by decide)
      have q202 : h68 78 0 = h34 78 0 := jK 0 f70 rg_78_0_0_1 (by first | decide | omega) (by first | decide | omega) (by decide)
      have q203 : h34 78 0 = h19 78 0 := by rw [← e36]; exact x_up_i (by first | decide | omega)
      have q204 : h19 78 0 = h 78 0 := jK 0 f21 rg_78_0_0_1 (by first | decide | omega) (by first | decide | omega) (by decide)
      have q205 : h185 78 1 = h130 78 1 := jK 0 f187 rg_78_1_0_1 (by first | decide | omega) (by first | decide | omega) (by decide)
      have q206 : h130 78 1 = h116 78 1 := by rw [← e132]; exact x_up_i (by first | decide | omega)
      have q207 : h116 78 1 = h68 78 1 := jK 0 f118 rg_78_1_0_1 (by first | decide | omega) (by first | decide | omega) (by decide)
      have q208 : h68 78 1 = h34 78 1 := jK 0 f70 rg_78_1_0_1 (by first | decide | omega) (by first | decide | omega) (by decide)
      have q209 : h34 78 1 = h19 78 1 := by rw [← e36]; exact x_up_i (by first | decide | omega)
      have q210 : h19 78 1 = h 78 1 := jK 0 f21 rg_78_1_0_1 (by first | decide | omega) (by first | decide | omega) (by decide)
      have q211 : h185 78 2 = h130 78 2 := jK 0 f187 rg_78_2_0_1 (by first | decide | omega) (by first | decide | omega) (by decide)
      have q212 : h130 78 2 = h116 78 2 := by rw [← e132]; exact x_up_i (by first | decide | omega)
      have q213 : h116 78 2 = h68 78 2 := jK 0 f118 rg_78_2_0_1 (by first | decide | omega) (by first | decide | omega) (by decide)
      have q214 : h68 78 2 = h34 78 2 := jK 0 f70 rg_78_2_0_1 (by first | decide | omega) (by first | decide | omega) (by decide)
      have q215 : h34 78 2 = h19 78 2 := by rw [← e36]; exact x_up_i (by first | decide | omega)
      have q216 : h19 78 2 = h 78 2 := jK 0 f21 rg_78_2_0_1 (by first | decide | omega) (by first | decide | omega) (by decide)
      have b217 := jB (e := 3) 0 hJ rg_78_3_0_1 (by first | decide | omega) (by first | decide | omega)
      have q218 : h185 78 3 = h130 78 3 := jK 0 f187 rg_78_3_0_1 (by first | decide | omega) (by first | decide | omega) (by decide)
      have q219 : h130 78 3 = h116 78 3 := by rw [← e132]; exact x_up_i (by first | decide | omega)
      have q220 : h116 78 3 = h68 78 3 := jK 0 f118 rg_78_3_0_1 (by first | decide | omega) (by first | decide | omega) (by decide)
      have q221 : h68 78 3 = h34 78 3 := jK 0 f70 rg_78_3_0_1 (by first | decide | omega) (by first | decide | omega) (by decide)
      have q222 : h34 78 3 = h19 78 3 := by rw [← e36]; exact x_up_i (by first | decide | omega)
      have q223 : h19 78 3 = h 78 3 := jK 0 f21 rg_78_3_0_1 (by first | decide | omega) (by first | decide | omega) (by decide)
      have b224 := jB (e := 4) 0 hJ rg_78_4_0_1 (by first | decide | omega) (by first | decide | omega)
      have q225 : h185 78 4 = h130 78 4 := jK 0 f187 rg_78_4_0_1 (by first | decide | omega) (by first | decide | omega) (by decide)
      have q226 : h130 78 4 = h116 78 4 := by rw [← e132]; exact x_up_i (by first | decide | omega)
      have q227 : h116 78 4 = h68 78 4 := jK 0 f118 rg_78_4_0_1 (by first | decide | omega) (by first | decide | omega) (by decide)
      have q228 : h68 78 4 = h34 78 4 := jK 0 f70 rg_78_4_0_1 (by first | decide | omega) (by first | decide | omega) (by decide)
      have q229 : h34 78 4 = h19 78 4 := by rw [← e36]; exact x_up_i (by first | decide | omega)
      have q230 : h19 78 4 = h 78 4 := jK 0 f21 rg_78_4_0_1 (by first | decide | omega) (by first | decide | omega) (by decide)
      have b231 := jB (e := 5) 0 hJ rg_78_5_0_1 (by first | decide | omega) (by first | decide | omega)
      have q232 : h185 78 5 = h130 78 5 := jK 0 f187 rg_78_5_0_1 (by first | decide | omega) (by first | decide | omega) (by decide)
      have q233 : h130 78 5 = h116 78 5 := by rw [← e132]; exact x_up_i (by first | decide | omega)
      have q234 : h116 78 5 = h68 78 5 := jK 0 f118 rg_78_5_0_1 (by first | decide | omega) (by first | decide | omega) (by decide)
      have q235 : h68 78 5 = h34 78 5 := jK 0 f70 rg_78_5_0_1 (by first | decide | omega) (by first | decide | omega) (by decide)
      have q236 : h34 78 5 = h19 78 5 := by rw [← e36]; exact x_up_i (by first | decide | omega)
      have q237 : h19 78 5 = h 78 5 := jK 0 f21 rg_78_5_0_1 (by first | decide | omega) (by first | decide | omega) (by decide)
      have q238 : h34 75 7 = h19 75 7 := by rw [← e36]; exact x_up_k (by decide)
      obtain ⟨w239, e240⟩ := Tw.yes c74 (by first | decide | omega)
      have q241 : h130 75 7 = h116 75 7 := by rw [← e132]; exact x_up_k (by decide)
      refine x_retI (np := 101) (x := 0) (by decide +kernel) (by decide) (Or.inr ⟨by decide +kernel, by first | decide | omega, by first | decide | omega⟩) ⟨_, rfl, (by decide), ?_⟩
      exact ⟨j186, f192, (by first | decide | omega), (fun z => by first | decide | omega), (fun z => by first | decide | omega), (fun z => by first | decide | omega), (fun z => by first | decide | omega), (fun z => by first | decide | omega), (fun z => by first | decide | omega), (fun z => absurd z (by first | decide | omega)), (Or.inr ⟨by first | decide | omega, (nm9.y c28 (by first | decide | omega) (by first | decide | omega) rfl (by first | decide | omega) rfl (wd9.y w239 (congrArg (sk tB tN) (show h34 75 7 = h19 75 7 by first | decide | omega)) e240 rfl (nm9.y c125 (by first | decide | omega) (by first | decide | omega) rfl (by first | decide | omega) rfl (wd9.f (Tw.no c191 (by first | decide | omega)) (congrArg (sk tB tN) (show h130 75 7 = h116 75 7 by first | decide | omega)) (by first | decide | omega)))))⟩)⟩
    have q197 : ¬ (v180 = 2147483648) := q197
    have b242 := c190 (by first | decide | omega)
    refine x_aload (np := 63) (x := 0) (by decide +kernel) rfl (x_nc_le (by decide)) ?_
    refine x_iload (np := 64) (x := 1) (by decide +kernel) rfl (by first | decide | omega) ?_
    refine x_const (np := 65) (x := 9223372047592194050) (a := 2147483650) (by decide +kernel) (by decide) (by decide) ?_
    refine x_iadd (np := 66) (x := 0) (v := (2147483670 + 7 * u8)) (by decide +kernel) (by first | decide | omega) (by decide) (by first | decide | omega) (by first | decide | omega) ?_
    refine x_const (np := 67) (x := 9223372039002259456) (a := 2147483648) (by decide +kernel) (by decide) (by decide) ?_
    refine x_nI (t := 6) (mj := 178) (n := 3) (rc := 12) (ml := 3) (nr := 0) (np := 70) (as := [x_r 75, iv_c (2147483670 + 7 * u8), iv_c 2147483648]) (rest := []) (lo1 := [x_r 75, iv_c (2147483670 + 7 * u8), iv_c 2147483648]) (by decide +kernel) (by decide) (by decide +kernel) (x_rb_of (by decide +kernel)) rfl rfl (x_wr (by decide) (x_wi (by first | decide | omega) (x_wi (by decide) x_wn))) x_wn (by decide) rfl ?_
    refine x_aload (np := 1) (x := 0) (by decide +kernel) rfl (x_nc_le (by decide)) ?_
    refine x_iload (np := 2) (x := 1) (by decide +kernel) rfl (by first | decide | omega) ?_
    refine x_aload (np := 3) (x := 0) (by decide +kernel) rfl (x_nc_le (by decide)) ?_
    refine x_iload (np := 4) (x := 2) (by decide +kernel) rfl (by decide) ?_
    refine x_const (np := 6) (x := 9223372086246899723) (a := 2147483659) (by decide +kernel) (by decide) (by decide) ?_
    have m246 := Tq.fr m183 f187 (by decide) (by decide)
    refine x_cI (t := 6) (mj := 174) (n := 3) (rc := 12) (ml := 4) (nr := 2) (np := 9) (as := [x_r 75, iv_c 2147483648, iv_c 2147483659]) (rest := [iv_c (2147483670 + 7 * u8), x_r 75]) (lo1 := [x_r 75, iv_c 2147483648, iv_c 2147483659, 147573952589676412928]) (by decide +kernel) (by decide) (by decide +kernel) (x_rb_of (by decide +kernel)) rfl rfl (x_wr (by decide) (x_wi (by decide) (x_wi (by decide) x_wn))) (x_wi (by first | decide | omega) (x_wr (by decide) x_wn)) (by decide) rfl (c174_75 j186  (by first | decide | omega) (by first | decide | omega) m246) (fun v243 h247 l244 q245 => ?_)
    obtain ⟨j248, f249, b250, c251, c252, c253, c254, c255, c256⟩ := q245
    have f257 := Fr.trans f192 f249 (by decide)
    have b258 := jB (e := 7) 0 j248 rg_75_7_0_1 (by first | decide | omega) (by first | decide | omega)
    have b259 := c255 (by first | decide | omega)
    refine x_nI (t := 6) (mj := 176) (n := 3) (rc := 12) (ml := 3) (nr := 0) (np := 12) (as := [x_r 75, iv_c (2147483670 + 7 * u8), iv_c v243]) (rest := []) (lo1 := [x_r 75, iv_c (2147483670 + 7 * u8), iv_c v243]) (by decide +kernel) (by decide) (by decide +kernel) (x_rb_of (by decide +kernel)) rfl rfl (x_wr (by decide) (x_wi (by first | decide | omega) (x_wi l244 x_wn))) x_wn (by decide) rfl ?_
    refine x_aload (np := 1) (x := 0) (by decide +kernel) rfl (x_nc_le (by decide)) ?_
    have q260 : h247 75 3 = 78 := by have z := jB (e := 3) 0 j248 rg_75_3_0_1 (by decide) (by decide); omega
    refine x_getR (np := 4) (x := 707) (f := 3) (q := 78) (by decide +kernel) (by decide) (by decide +kernel) q260 ?_
    refine x_iload (np := 5) (x := 1) (by decide +kernel) rfl (by first | decide | omega) ?_
    refine x_iload (np := 6) (x := 2) (by decide +kernel) rfl l244 ?_
    refine x_ast (np := 7) (x := 0) (kd := 1) (n := 290) (i := (22 + 7 * u8)) (by decide +kernel) (Or.inl rfl) (by decide +kernel) (by first | decide | omega) (by first | decide | omega) (by decide) l244 (fun z => absurd z (by decide)) ?_
    have j262 := jU (e := (22 + 7 * u8)) (v := v243) u8 j248 rg_78_22_7_20 (by first | decide | omega) (by first | decide | omega) (by first | decide | omega)
    have f264 := jF (e := (22 + 7 * u8)) (v := v243) u8 f257 rg_78_22_7_20 (by first | decide | omega) (by first | decide | omega) (by decide)
    generalize e263 : x_up h247 78 (22 + 7 * u8) v243 = h261 at j262 f264 ⊢
    refine x_iload (np := 8) (x := 2) (by decide +kernel) rfl l244 ?_
    refine x_ifz (k := 2) (tg := 15) (np := 11) (by decide +kernel) (by decide) l244 (fun q265 => ?_) (fun q266 => ?_)
    · have q265 : v243 < 2147483648 := q265
      refine x_const (np := 16) (x := 9223372039002259456) (a := 2147483648) (by decide +kernel) (by decide) (by decide) ?_
      refine x_retI (np := 17) (x := 0) (by decide +kernel) (by decide) (Or.inr ⟨by decide +kernel, by first | decide | omega, by first | decide | omega⟩) ⟨_, rfl, (by decide), ?_⟩
      refine x_retI (np := 13) (x := 0) (by decide +kernel) (by decide) (Or.inr ⟨by decide +kernel, by first | decide | omega, by first | decide | omega⟩) ⟨_, rfl, (by decide), ?_⟩
      refine x_ifz (k := 0) (tg := 99) (np := 73) (by decide +kernel) (by decide) (by decide) (fun q267 => ?_) (fun q268 => ?_)
      · have q267 : 2147483648 = 2147483648 := q267
        refine x_const (np := 100) (x := 9223372039002259456) (a := 2147483648) (by decide +kernel) (by decide) (by decide) ?_
        have b269 := jB (e := 0) 0 hJ rg_78_0_0_1 (by first | decide | omega) (by first | decide | omega)
        have q270 : h261 78 0 = h247 78 0 := by rw [← e263]; exact x_up_i (by first | decide | omega)
        have q271 : h247 78 0 = h185 78 0 := jK 0 f249 rg_78_0_0_1 (by first | decide | omega) (by first | decide | omega) (by decide)
        have q272 : h185 78 0 = h130 78 0 := jK 0 f187 rg_78_0_0_1 (by first | decide | omega) (by first | decide | omega) (by decide)
        have q273 : h130 78 0 = h116 78 0 := by rw [← e132]; exact x_up_i (by first | decide | omega)
        have q274 : h116 78 0 = h68 78 0 := jK 0 f118 rg_78_0_0_1 (by first | decide | omega) (by first | decide | omega) (by decide)
        have q275 : h68 78 0 = h34 78 0 := jK 0 f70 rg_78_0_0_1 (by first | decide | omega) (by first | decide | omega) (by decide)
        have q276 : h34 78 0 = h19 78 0 := by rw [← e36]; exact x_up_i (by first | decide | omega)
        have q277 : h19 78 0 = h 78 0 := jK 0 f21 rg_78_0_0_1 (by first | decide | omega) (by first | decide | omega) (by decide)
        have q278 : h261 78 1 = h247 78 1 := by rw [← e263]; exact x_up_i (by first | decide | omega)
        have q279 : h247 78 1 = h185 78 1 := jK 0 f249 rg_78_1_0_1 (by first | decide | omega) (by first | decide | omega) (by decide)
        have q280 : h185 78 1 = h130 78 1 := jK 0 f187 rg_78_1_0_1 (by first | decide | omega) (by first | decide | omega) (by decide)
        have q281 : h130 78 1 = h116 78 1 := by rw [← e132]; exact x_up_i (by first | decide | omega)
        have q282 : h116 78 1 = h68 78 1 := jK 0 f118 rg_78_1_0_1 (by first | decide | omega) (by first | decide | omega) (by decide)
        have q283 : h68 78 1 = h34 78 1 := jK 0 f70 rg_78_1_0_1 (by first | decide | omega) (by first | decide | omega) (by decide)
        have q284 : h34 78 1 = h19 78 1 := by rw [← e36]; exact x_up_i (by first | decide | omega)
        have q285 : h19 78 1 = h 78 1 := jK 0 f21 rg_78_1_0_1 (by first | decide | omega) (by first | decide | omega) (by decide)
        have q286 : h261 78 2 = h247 78 2 := by rw [← e263]; exact x_up_i (by first | decide | omega)
        have q287 : h247 78 2 = h185 78 2 := jK 0 f249 rg_78_2_0_1 (by first | decide | omega) (by first | decide | omega) (by decide)
        have q288 : h185 78 2 = h130 78 2 := jK 0 f187 rg_78_2_0_1 (by first | decide | omega) (by first | decide | omega) (by decide)
        have q289 : h130 78 2 = h116 78 2 := by rw [← e132]; exact x_up_i (by first | decide | omega)
        have q290 : h116 78 2 = h68 78 2 := jK 0 f118 rg_78_2_0_1 (by first | decide | omega) (by first | decide | omega) (by decide)
        have q291 : h68 78 2 = h34 78 2 := jK 0 f70 rg_78_2_0_1 (by first | decide | omega) (by first | decide | omega) (by decide)
        have q292 : h34 78 2 = h19 78 2 := by rw [← e36]; exact x_up_i (by first | decide | omega)
        have q293 : h19 78 2 = h 78 2 := jK 0 f21 rg_78_2_0_1 (by first | decide | omega) (by first | decide | omega) (by decide)
        have b294 := jB (e := 3) 0 hJ rg_78_3_0_1 (by first | decide | omega) (by first | decide | omega)
        have q295 : h261 78 3 = h247 78 3 := by rw [← e263]; exact x_up_i (by first | decide | omega)
        have q296 : h247 78 3 = h185 78 3 := jK 0 f249 rg_78_3_0_1 (by first | decide | omega) (by first | decide | omega) (by decide)
        have q297 : h185 78 3 = h130 78 3 := jK 0 f187 rg_78_3_0_1 (by first | decide | omega) (by first | decide | omega) (by decide)
        have q298 : h130 78 3 = h116 78 3 := by rw [← e132]; exact x_up_i (by first | decide | omega)
        have q299 : h116 78 3 = h68 78 3 := jK 0 f118 rg_78_3_0_1 (by first | decide | omega) (by first | decide | omega) (by decide)
        have q300 : h68 78 3 = h34 78 3 := jK 0 f70 rg_78_3_0_1 (by first | decide | omega) (by first | decide | omega) (by decide)
        have q301 : h34 78 3 = h19 78 3 := by rw [← e36]; exact x_up_i (by first | decide | omega)
        have q302 : h19 78 3 = h 78 3 := jK 0 f21 rg_78_3_0_1 (by first | decide | omega) (by first | decide | omega) (by decide)
        have b303 := jB (e := 4) 0 hJ rg_78_4_0_1 (by first | decide | omega) (by first | decide | omega)
        have q304 : h261 78 4 = h247 78 4 := by rw [← e263]; exact x_up_i (by first | decide | omega)
        have q305 : h247 78 4 = h185 78 4 := jK 0 f249 rg_78_4_0_1 (by first | decide | omega) (by first | decide | omega) (by decide)
        have q306 : h185 78 4 = h130 78 4 := jK 0 f187 rg_78_4_0_1 (by first | decide | omega) (by first | decide | omega) (by decide)
        have q307 : h130 78 4 = h116 78 4 := by rw [← e132]; exact x_up_i (by first | decide | omega)
        have q308 : h116 78 4 = h68 78 4 := jK 0 f118 rg_78_4_0_1 (by first | decide | omega) (by first | decide | omega) (by decide)
        have q309 : h68 78 4 = h34 78 4 := jK 0 f70 rg_78_4_0_1 (by first | decide | omega) (by first | decide | omega) (by decide)
        have q310 : h34 78 4 = h19 78 4 := by rw [← e36]; exact x_up_i (by first | decide | omega)
        have q311 : h19 78 4 = h 78 4 := jK 0 f21 rg_78_4_0_1 (by first | decide | omega) (by first | decide | omega) (by decide)
        have b312 := jB (e := 5) 0 hJ rg_78_5_0_1 (by first | decide | omega) (by first | decide | omega)
        have q313 : h261 78 5 = h247 78 5 := by rw [← e263]; exact x_up_i (by first | decide | omega)
        have q314 : h247 78 5 = h185 78 5 := jK 0 f249 rg_78_5_0_1 (by first | decide | omega) (by first | decide | omega) (by decide)
        have q315 : h185 78 5 = h130 78 5 := jK 0 f187 rg_78_5_0_1 (by first | decide | omega) (by first | decide | omega) (by decide)
        have q316 : h130 78 5 = h116 78 5 := by rw [← e132]; exact x_up_i (by first | decide | omega)
        have q317 : h116 78 5 = h68 78 5 := jK 0 f118 rg_78_5_0_1 (by first | decide | omega) (by first | decide | omega) (by decide)
        have q318 : h68 78 5 = h34 78 5 := jK 0 f70 rg_78_5_0_1 (by first | decide | omega) (by first | decide | omega) (by decide)
        have q319 : h34 78 5 = h19 78 5 := by rw [← e36]; exact x_up_i (by first | decide | omega)
        have q320 : h19 78 5 = h 78 5 := jK 0 f21 rg_78_5_0_1 (by first | decide | omega) (by first | decide | omega) (by decide)
        have q321 : h34 75 7 = h19 75 7 := by rw [← e36]; exact x_up_k (by decide)
        obtain ⟨w322, e323⟩ := Tw.yes c74 (by first | decide | omega)
        have q324 : h130 75 7 = h116 75 7 := by rw [← e132]; exact x_up_k (by decide)
        obtain ⟨w325, e326⟩ := Tw.yes c191 (by first | decide | omega)
        refine x_retI (np := 101) (x := 0) (by decide +kernel) (by decide) (Or.inr ⟨by decide +kernel, by first | decide | omega, by first | decide | omega⟩) ⟨_, rfl, (by decide), ?_⟩
        exact ⟨j262, f264, (by first | decide | omega), (fun z => by first | decide | omega), (fun z => by first | decide | omega), (fun z => by first | decide | omega), (fun z => by first | decide | omega), (fun z => by first | decide | omega), (fun z => by first | decide | omega), (fun z => absurd z (by first | decide | omega)), (Or.inr ⟨by first | decide | omega, (nm9.y c28 (by first | decide | omega) (by first | decide | omega) rfl (by first | decide | omega) rfl (wd9.y w322 (congrArg (sk tB tN) (show h34 75 7 = h19 75 7 by first | decide | omega)) e323 rfl (nm9.y c125 (by first | decide | omega) (by first | decide | omega) rfl (by first | decide | omega) rfl (wd9.y w325 (congrArg (sk tB tN) (show h130 75 7 = h116 75 7 by first | decide | omega)) e326 rfl (nm9.f c256 (by first | decide | omega) (by first | decide | omega) rfl (by first | decide | omega) (by first | decide | omega))))))⟩)⟩
      have q268 : ¬ (2147483648 = 2147483648) := q268
      exfalso; omega
    have q266 : ¬ (v243 < 2147483648) := q266
    have b327 := c252 (by first | decide | omega)
    have b328 := c253 (by first | decide | omega)
    have b329 := c254 (by first | decide | omega)
    refine x_const (np := 12) (x := 9223372043297226753) (a := 2147483649) (by decide +kernel) (by decide) (by decide) ?_
    refine x_goto (np := 15) (x := 16) (by decide +kernel) ?_
    refine x_retI (np := 17) (x := 0) (by decide +kernel) (by decide) (Or.inr ⟨by decide +kernel, by first | decide | omega, by first | decide | omega⟩) ⟨_, rfl, (by decide), ?_⟩
    refine x_retI (np := 13) (x := 0) (by decide +kernel) (by decide) (Or.inr ⟨by decide +kernel, by first | decide | omega, by first | decide | omega⟩) ⟨_, rfl, (by decide), ?_⟩
    refine x_ifz (k := 0) (tg := 99) (np := 73) (by decide +kernel) (by decide) (by decide) (fun q330 => ?_) (fun q331 => ?_)
    · have q330 : 2147483649 = 2147483648 := q330
      exfalso; omega
    have q331 : ¬ (2147483649 = 2147483648) := q331
    refine x_aload (np := 74) (x := 0) (by decide +kernel) rfl (x_nc_le (by decide)) ?_
    refine x_ldcB (i := 3) (idx := 151) (tx := "for") (by rw [tb_y179]; exact List.mem_of_getElem? (i := 38) rfl) (by decide) (by rw [tb_b179]; decide +kernel) ?_
    have m336 := Tq.fr m246 f249 (by decide) (by decide)
    have m335 : Tq tB tN h261 := by rw [← e263]; exact Tq.oth m336 (by decide) (fun z => absurd z.1 (by decide))
    refine x_cI (t := 6) (mj := 172) (n := 2) (rc := 12) (ml := 2) (nr := 0) (np := 79) (as := [x_r 75, x_b (3 + 1)]) (rest := []) (lo1 := [x_r 75, x_b (3 + 1)]) (by decide +kernel) (by decide) (by decide +kernel) (x_rb_of (by decide +kernel)) rfl rfl (x_wr (by decide) (x_wB (by decide) x_wn)) x_wn (by decide) rfl (c172_75_S0 j262  (by decide) m335) (fun v332 h337 l333 q334 => ?_)
    obtain ⟨j338, f339, b340, c341, c342, c343⟩ := q334
    have f344 := Fr.trans f264 f339 (by decide)
    have q345 : h261 75 7 = h247 75 7 := by rw [← e263]; exact x_up_k (by decide)
    have b346 := jB (e := 7) 0 j338 rg_75_7_0_1 (by first | decide | omega) (by first | decide | omega)
    have q347 : h261 75 7 = h247 75 7 := by rw [← e263]; exact x_up_k (by decide)
    refine x_ifz (k := 0) (tg := 99) (np := 82) (by decide +kernel) (by decide) l333 (fun q348 => ?_) (fun q349 => ?_)
    · have q348 : v332 = 2147483648 := q348
      refine x_const (np := 100) (x := 9223372039002259456) (a := 2147483648) (by decide +kernel) (by decide) (by decide) ?_
      have b350 := jB (e := 0) 0 hJ rg_78_0_0_1 (by first | decide | omega) (by first | decide | omega)
      have q351 : h337 78 0 = h261 78 0 := jK 0 f339 rg_78_0_0_1 (by first | decide | omega) (by first | decide | omega) (by decide)
      have q352 : h261 78 0 = h247 78 0 := by rw [← e263]; exact x_up_i (by first | decide | omega)
      have q353 : h247 78 0 = h185 78 0 := jK 0 f249 rg_78_0_0_1 (by first | decide | omega) (by first | decide | omega) (by decide)
      have q354 : h185 78 0 = h130 78 0 := jK 0 f187 rg_78_0_0_1 (by first | decide | omega) (by first | decide | omega) (by decide)
      have q355 : h130 78 0 = h116 78 0 := by rw [← e132]; exact x_up_i (by first | decide | omega)
      have q356 : h116 78 0 = h68 78 0 := jK 0 f118 rg_78_0_0_1 (by first | decide | omega) (by first | decide | omega) (by decide)
      have q357 : h68 78 0 = h34 78 0 := jK 0 f70 rg_78_0_0_1 (by first | decide | omega) (by first | decide | omega) (by decide)
      have q358 : h34 78 0 = h19 78 0 := by rw [← e36]; exact x_up_i (by first | decide | omega)
      have q359 : h19 78 0 = h 78 0 := jK 0 f21 rg_78_0_0_1 (by first | decide | omega) (by first | decide | omega) (by decide)
      have q360 : h337 78 1 = h261 78 1 := jK 0 f339 rg_78_1_0_1 (by first | decide | omega) (by first | decide | omega) (by decide)
      have q361 : h261 78 1 = h247 78 1 := by rw [← e263]; exact x_up_i (by first | decide | omega)
      have q362 : h247 78 1 = h185 78 1 := jK 0 f249 rg_78_1_0_1 (by first | decide | omega) (by first | decide | omega) (by decide)
      have q363 : h185 78 1 = h130 78 1 := jK 0 f187 rg_78_1_0_1 (by first | decide | omega) (by first | decide | omega) (by decide)
      have q364 : h130 78 1 = h116 78 1 := by rw [← e132]; exact x_up_i (by first | decide | omega)
      have q365 : h116 78 1 = h68 78 1 := jK 0 f118 rg_78_1_0_1 (by first | decide | omega) (by first | decide | omega) (by decide)
      have q366 : h68 78 1 = h34 78 1 := jK 0 f70 rg_78_1_0_1 (by first | decide | omega) (by first | decide | omega) (by decide)
      have q367 : h34 78 1 = h19 78 1 := by rw [← e36]; exact x_up_i (by first | decide | omega)
      have q368 : h19 78 1 = h 78 1 := jK 0 f21 rg_78_1_0_1 (by first | decide | omega) (by first | decide | omega) (by decide)
      have q369 : h337 78 2 = h261 78 2 := jK 0 f339 rg_78_2_0_1 (by first | decide | omega) (by first | decide | omega) (by decide)
      have q370 : h261 78 2 = h247 78 2 := by rw [← e263]; exact x_up_i (by first | decide | omega)
      have q371 : h247 78 2 = h185 78 2 := jK 0 f249 rg_78_2_0_1 (by first | decide | omega) (by first | decide | omega) (by decide)
      have q372 : h185 78 2 = h130 78 2 := jK 0 f187 rg_78_2_0_1 (by first | decide | omega) (by first | decide | omega) (by decide)
      have q373 : h130 78 2 = h116 78 2 := by rw [← e132]; exact x_up_i (by first | decide | omega)
      have q374 : h116 78 2 = h68 78 2 := jK 0 f118 rg_78_2_0_1 (by first | decide | omega) (by first | decide | omega) (by decide)
      have q375 : h68 78 2 = h34 78 2 := jK 0 f70 rg_78_2_0_1 (by first | decide | omega) (by first | decide | omega) (by decide)
      have q376 : h34 78 2 = h19 78 2 := by rw [← e36]; exact x_up_i (by first | decide | omega)
      have q377 : h19 78 2 = h 78 2 := jK 0 f21 rg_78_2_0_1 (by first | decide | omega) (by first | decide | omega) (by decide)
      have b378 := jB (e := 3) 0 hJ rg_78_3_0_1 (by first | decide | omega) (by first | decide | omega)
      have q379 : h337 78 3 = h261 78 3 := jK 0 f339 rg_78_3_0_1 (by first | decide | omega) (by first | decide | omega) (by decide)
      have q380 : h261 78 3 = h247 78 3 := by rw [← e263]; exact x_up_i (by first | decide | omega)
      have q381 : h247 78 3 = h185 78 3 := jK 0 f249 rg_78_3_0_1 (by first | decide | omega) (by first | decide | omega) (by decide)
      have q382 : h185 78 3 = h130 78 3 := jK 0 f187 rg_78_3_0_1 (by first | decide | omega) (by first | decide | omega) (by decide)
      have q383 : h130 78 3 = h116 78 3 := by rw [← e132]; exact x_up_i (by first | decide | omega)
      have q384 : h116 78 3 = h68 78 3 := jK 0 f118 rg_78_3_0_1 (by first | decide | omega) (by first | decide | omega) (by decide)
      have q385 : h68 78 3 = h34 78 3 := jK 0 f70 rg_78_3_0_1 (by first | decide | omega) (by first | decide | omega) (by decide)
      have q386 : h34 78 3 = h19 78 3 := by rw [← e36]; exact x_up_i (by first | decide | omega)
      have q387 : h19 78 3 = h 78 3 := jK 0 f21 rg_78_3_0_1 (by first | decide | omega) (by first | decide | omega) (by decide)
      have b388 := jB (e := 4) 0 hJ rg_78_4_0_1 (by first | decide | omega) (by first | decide | omega)
      have q389 : h337 78 4 = h261 78 4 := jK 0 f339 rg_78_4_0_1 (by first | decide | omega) (by first | decide | omega) (by decide)
      have q390 : h261 78 4 = h247 78 4 := by rw [← e263]; exact x_up_i (by first | decide | omega)
      have q391 : h247 78 4 = h185 78 4 := jK 0 f249 rg_78_4_0_1 (by first | decide | omega) (by first | decide | omega) (by decide)
      have q392 : h185 78 4 = h130 78 4 := jK 0 f187 rg_78_4_0_1 (by first | decide | omega) (by first | decide | omega) (by decide)
      have q393 : h130 78 4 = h116 78 4 := by rw [← e132]; exact x_up_i (by first | decide | omega)
      have q394 : h116 78 4 = h68 78 4 := jK 0 f118 rg_78_4_0_1 (by first | decide | omega) (by first | decide | omega) (by decide)
      have q395 : h68 78 4 = h34 78 4 := jK 0 f70 rg_78_4_0_1 (by first | decide | omega) (by first | decide | omega) (by decide)
      have q396 : h34 78 4 = h19 78 4 := by rw [← e36]; exact x_up_i (by first | decide | omega)
      have q397 : h19 78 4 = h 78 4 := jK 0 f21 rg_78_4_0_1 (by first | decide | omega) (by first | decide | omega) (by decide)
      have b398 := jB (e := 5) 0 hJ rg_78_5_0_1 (by first | decide | omega) (by first | decide | omega)
      have q399 : h337 78 5 = h261 78 5 := jK 0 f339 rg_78_5_0_1 (by first | decide | omega) (by first | decide | omega) (by decide)
      have q400 : h261 78 5 = h247 78 5 := by rw [← e263]; exact x_up_i (by first | decide | omega)
      have q401 : h247 78 5 = h185 78 5 := jK 0 f249 rg_78_5_0_1 (by first | decide | omega) (by first | decide | omega) (by decide)
      have q402 : h185 78 5 = h130 78 5 := jK 0 f187 rg_78_5_0_1 (by first | decide | omega) (by first | decide | omega) (by decide)
      have q403 : h130 78 5 = h116 78 5 := by rw [← e132]; exact x_up_i (by first | decide | omega)
      have q404 : h116 78 5 = h68 78 5 := jK 0 f118 rg_78_5_0_1 (by first | decide | omega) (by first | decide | omega) (by decide)
      have q405 : h68 78 5 = h34 78 5 := jK 0 f70 rg_78_5_0_1 (by first | decide | omega) (by first | decide | omega) (by decide)
      have q406 : h34 78 5 = h19 78 5 := by rw [← e36]; exact x_up_i (by first | decide | omega)
      have q407 : h19 78 5 = h 78 5 := jK 0 f21 rg_78_5_0_1 (by first | decide | omega) (by first | decide | omega) (by decide)
      have q408 : h34 75 7 = h19 75 7 := by rw [← e36]; exact x_up_k (by decide)
      obtain ⟨w409, e410⟩ := Tw.yes c74 (by first | decide | omega)
      have q411 : h130 75 7 = h116 75 7 := by rw [← e132]; exact x_up_k (by decide)
      obtain ⟨w412, e413⟩ := Tw.yes c191 (by first | decide | omega)
      have q414 : h261 75 7 = h247 75 7 := by rw [← e263]; exact x_up_k (by decide)
      refine x_retI (np := 101) (x := 0) (by decide +kernel) (by decide) (Or.inr ⟨by decide +kernel, by first | decide | omega, by first | decide | omega⟩) ⟨_, rfl, (by decide), ?_⟩
      exact ⟨j338, f344, (by first | decide | omega), (fun z => by first | decide | omega), (fun z => by first | decide | omega), (fun z => by first | decide | omega), (fun z => by first | decide | omega), (fun z => by first | decide | omega), (fun z => by first | decide | omega), (fun z => absurd z (by first | decide | omega)), (Or.inr ⟨by first | decide | omega, (nm9.y c28 (by first | decide | omega) (by first | decide | omega) rfl (by first | decide | omega) rfl (wd9.y w409 (congrArg (sk tB tN) (show h34 75 7 = h19 75 7 by first | decide | omega)) e410 rfl (nm9.y c125 (by first | decide | omega) (by first | decide | omega) rfl (by first | decide | omega) rfl (wd9.y w412 (congrArg (sk tB tN) (show h130 75 7 = h116 75 7 by first | decide | omega)) e413 rfl (nm9.y c256 (by first | decide | omega) (by first | decide | omega) rfl (by first | decide | omega) rfl (wd9.f (Tw.no c343 (by first | decide | omega)) (congrArg (sk tB tN) (show h261 75 7 = h247 75 7 by first | decide | omega)) (by first | decide | omega)))))))⟩)⟩
    have q349 : ¬ (v332 = 2147483648) := q349
    have b415 := c342 (by first | decide | omega)
    refine x_aload (np := 83) (x := 0) (by decide +kernel) rfl (x_nc_le (by decide)) ?_
    refine x_iload (np := 84) (x := 1) (by decide +kernel) rfl (by first | decide | omega) ?_
    refine x_const (np := 85) (x := 9223372051887161347) (a := 2147483651) (by decide +kernel) (by decide) (by decide) ?_
    refine x_iadd (np := 86) (x := 0) (v := (2147483671 + 7 * u8)) (by decide +kernel) (by first | decide | omega) (by decide) (by first | decide | omega) (by first | decide | omega) ?_
    refine x_aload (np := 87) (x := 0) (by decide +kernel) rfl (x_nc_le (by decide)) ?_
    refine x_const (np := 88) (x := 9223372043297226753) (a := 2147483649) (by decide +kernel) (by decide) (by decide) ?_
    refine x_const (np := 90) (x := 9223372090541867020) (a := 2147483660) (by decide +kernel) (by decide) (by decide) ?_
    have m419 := Tq.fr m335 f339 (by decide) (by decide)
    refine x_cI (t := 6) (mj := 174) (n := 3) (rc := 12) (ml := 4) (nr := 2) (np := 93) (as := [x_r 75, iv_c 2147483649, iv_c 2147483660]) (rest := [iv_c (2147483671 + 7 * u8), x_r 75]) (lo1 := [x_r 75, iv_c 2147483649, iv_c 2147483660, 147573952589676412928]) (by decide +kernel) (by decide) (by decide +kernel) (x_rb_of (by decide +kernel)) rfl rfl (x_wr (by decide) (x_wi (by decide) (x_wi (by decide) x_wn))) (x_wi (by first | decide | omega) (x_wr (by decide) x_wn)) (by decide) rfl (c174_75 j338  (by first | decide | omega) (by first | decide | omega) m419) (fun v416 h420 l417 q418 => ?_)
    obtain ⟨j421, f422, b423, c424, c425, c426, c427, c428, c429⟩ := q418
    have f430 := Fr.trans f344 f422 (by decide)
    have b431 := jB (e := 7) 0 j421 rg_75_7_0_1 (by first | decide | omega) (by first | decide | omega)
    have b432 := c428 (by first | decide | omega)
    refine x_nI (t := 6) (mj := 176) (n := 3) (rc := 12) (ml := 3) (nr := 0) (np := 96) (as := [x_r 75, iv_c (2147483671 + 7 * u8), iv_c v416]) (rest := []) (lo1 := [x_r 75, iv_c (2147483671 + 7 * u8), iv_c v416]) (by decide +kernel) (by decide) (by decide +kernel) (x_rb_of (by decide +kernel)) rfl rfl (x_wr (by decide) (x_wi (by first | decide | omega) (x_wi l417 x_wn))) x_wn (by decide) rfl ?_
    refine x_aload (np := 1) (x := 0) (by decide +kernel) rfl (x_nc_le (by decide)) ?_
    have q433 : h420 75 3 = 78 := by have z := jB (e := 3) 0 j421 rg_75_3_0_1 (by decide) (by decide); omega
    refine x_getR (np := 4) (x := 707) (f := 3) (q := 78) (by decide +kernel) (by decide) (by decide +kernel) q433 ?_
    refine x_iload (np := 5) (x := 1) (by decide +kernel) rfl (by first | decide | omega) ?_
    refine x_iload (np := 6) (x := 2) (by decide +kernel) rfl l417 ?_
    refine x_ast (np := 7) (x := 0) (kd := 1) (n := 290) (i := (23 + 7 * u8)) (by decide +kernel) (Or.inl rfl) (by decide +kernel) (by first | decide | omega) (by first | decide | omega) (by decide) l417 (fun z => absurd z (by decide)) ?_
    have j435 := jU (e := (23 + 7 * u8)) (v := v416) u8 j421 rg_78_23_7_20 (by first | decide | omega) (by first | decide | omega) (by first | decide | omega)
    have f437 := jF (e := (23 + 7 * u8)) (v := v416) u8 f430 rg_78_23_7_20 (by first | decide | omega) (by first | decide | omega) (by decide)
    generalize e436 : x_up h420 78 (23 + 7 * u8) v416 = h434 at j435 f437 ⊢
    refine x_iload (np := 8) (x := 2) (by decide +kernel) rfl l417 ?_
    refine x_ifz (k := 2) (tg := 15) (np := 11) (by decide +kernel) (by decide) l417 (fun q438 => ?_) (fun q439 => ?_)
    · have q438 : v416 < 2147483648 := q438
      refine x_const (np := 16) (x := 9223372039002259456) (a := 2147483648) (by decide +kernel) (by decide) (by decide) ?_
      refine x_retI (np := 17) (x := 0) (by decide +kernel) (by decide) (Or.inr ⟨by decide +kernel, by first | decide | omega, by first | decide | omega⟩) ⟨_, rfl, (by decide), ?_⟩
      refine x_ifz (k := 1) (tg := 101) (np := 99) (by decide +kernel) (by decide) (by decide) (fun q440 => ?_) (fun q441 => ?_)
      · have q440 : 2147483648 ≠ 2147483648 := q440
        exfalso; omega
      have q441 : ¬ (2147483648 ≠ 2147483648) := q441
      refine x_const (np := 100) (x := 9223372039002259456) (a := 2147483648) (by decide +kernel) (by decide) (by decide) ?_
      have b442 := jB (e := 0) 0 hJ rg_78_0_0_1 (by first | decide | omega) (by first | decide | omega)
      have q443 : h434 78 0 = h420 78 0 := by rw [← e436]; exact x_up_i (by first | decide | omega)
      have q444 : h420 78 0 = h337 78 0 := jK 0 f422 rg_78_0_0_1 (by first | decide | omega) (by first | decide | omega) (by decide)
      have q445 : h337 78 0 = h261 78 0 := jK 0 f339 rg_78_0_0_1 (by first | decide | omega) (by first | decide | omega) (by decide)
      have q446 : h261 78 0 = h247 78 0 := by rw [← e263]; exact x_up_i (by first | decide | omega)
      have q447 : h247 78 0 = h185 78 0 := jK 0 f249 rg_78_0_0_1 (by first | decide | omega) (by first | decide | omega) (by decide)
      have q448 : h185 78 0 = h130 78 0 := jK 0 f187 rg_78_0_0_1 (by first | decide | omega) (by first | decide | omega) (by decide)
      have q449 : h130 78 0 = h116 78 0 := by rw [← e132]; exact x_up_i (by first | decide | omega)
      have q450 : h116 78 0 = h68 78 0 := jK 0 f118 rg_78_0_0_1 (by first | decide | omega) (by first | decide | omega) (by decide)
      have q451 : h68 78 0 = h34 78 0 := jK 0 f70 rg_78_0_0_1 (by first | decide | omega) (by first | decide | omega) (by decide)
      have q452 : h34 78 0 = h19 78 0 := by rw [← e36]; exact x_up_i (by first | decide | omega)
      have q453 : h19 78 0 = h 78 0 := jK 0 f21 rg_78_0_0_1 (by first | decide | omega) (by first | decide | omega) (by decide)
      have q454 : h434 78 1 = h420 78 1 := by rw [← e436]; exact x_up_i (by first | decide | omega)
      have q455 : h420 78 1 = h337 78 1 := jK 0 f422 rg_78_1_0_1 (by first | decide | omega) (by first | decide | omega) (by decide)
      have q456 : h337 78 1 = h261 78 1 := jK 0 f339 rg_78_1_0_1 (by first | decide | omega) (by first | decide | omega) (by decide)
      have q457 : h261 78 1 = h247 78 1 := by rw [← e263]; exact x_up_i (by first | decide | omega)
      have q458 : h247 78 1 = h185 78 1 := jK 0 f249 rg_78_1_0_1 (by first | decide | omega) (by first | decide | omega) (by decide)
      have q459 : h185 78 1 = h130 78 1 := jK 0 f187 rg_78_1_0_1 (by first | decide | omega) (by first | decide | omega) (by decide)
      have q460 : h130 78 1 = h116 78 1 := by rw [← e132]; exact x_up_i (by first | decide | omega)
      have q461 : h116 78 1 = h68 78 1 := jK 0 f118 rg_78_1_0_1 (by first | decide | omega) (by first | decide | omega) (by decide)
      have q462 : h68 78 1 = h34 78 1 := jK 0 f70 rg_78_1_0_1 (by first | decide | omega) (by first | decide | omega) (by decide)
      have q463 : h34 78 1 = h19 78 1 := by rw [← e36]; exact x_up_i (by first | decide | omega)
      have q464 : h19 78 1 = h 78 1 := jK 0 f21 rg_78_1_0_1 (by first | decide | omega) (by first | decide | omega) (by decide)
      have q465 : h434 78 2 = h420 78 2 := by rw [← e436]; exact x_up_i (by first | decide | omega)
      have q466 : h420 78 2 = h337 78 2 := jK 0 f422 rg_78_2_0_1 (by first | decide | omega) (by first | decide | omega) (by decide)
      have q467 : h337 78 2 = h261 78 2 := jK 0 f339 rg_78_2_0_1 (by first | decide | omega) (by first | decide | omega) (by decide)
      have q468 : h261 78 2 = h247 78 2 := by rw [← e263]; exact x_up_i (by first | decide | omega)
      have q469 : h247 78 2 = h185 78 2 := jK 0 f249 rg_78_2_0_1 (by first | decide | omega) (by first | decide | omega) (by decide)
      have q470 : h185 78 2 = h130 78 2 := jK 0 f187 rg_78_2_0_1 (by first | decide | omega) (by first | decide | omega) (by decide)
      have q471 : h130 78 2 = h116 78 2 := by rw [← e132]; exact x_up_i (by first | decide | omega)
      have q472 : h116 78 2 = h68 78 2 := jK 0 f118 rg_78_2_0_1 (by first | decide | omega) (by first | decide | omega) (by decide)
      have q473 : h68 78 2 = h34 78 2 := jK 0 f70 rg_78_2_0_1 (by first | decide | omega) (by first | decide | omega) (by decide)
      have q474 : h34 78 2 = h19 78 2 := by rw [← e36]; exact x_up_i (by first | decide | omega)
      have q475 : h19 78 2 = h 78 2 := jK 0 f21 rg_78_2_0_1 (by first | decide | omega) (by first | decide | omega) (by decide)
      have b476 := jB (e := 3) 0 hJ rg_78_3_0_1 (by first | decide | omega) (by first | decide | omega)
      have q477 : h434 78 3 = h420 78 3 := by rw [← e436]; exact x_up_i (by first | decide | omega)
      have q478 : h420 78 3 = h337 78 3 := jK 0 f422 rg_78_3_0_1 (by first | decide | omega) (by first | decide | omega) (by decide)
      have q479 : h337 78 3 = h261 78 3 := jK 0 f339 rg_78_3_0_1 (by first | decide | omega) (by first | decide | omega) (by decide)
      have q480 : h261 78 3 = h247 78 3 := by rw [← e263]; exact x_up_i (by first | decide | omega)
      have q481 : h247 78 3 = h185 78 3 := jK 0 f249 rg_78_3_0_1 (by first | decide | omega) (by first | decide | omega) (by decide)
      have q482 : h185 78 3 = h130 78 3 := jK 0 f187 rg_78_3_0_1 (by first | decide | omega) (by first | decide | omega) (by decide)
      have q483 : h130 78 3 = h116 78 3 := by rw [← e132]; exact x_up_i (by first | decide | omega)
      have q484 : h116 78 3 = h68 78 3 := jK 0 f118 rg_78_3_0_1 (by first | decide | omega) (by first | decide | omega) (by decide)
      have q485 : h68 78 3 = h34 78 3 := jK 0 f70 rg_78_3_0_1 (by first | decide | omega) (by first | decide | omega) (by decide)
      have q486 : h34 78 3 = h19 78 3 := by rw [← e36]; exact x_up_i (by first | decide | omega)
      have q487 : h19 78 3 = h 78 3 := jK 0 f21 rg_78_3_0_1 (by first | decide | omega) (by first | decide | omega) (by decide)
      have b488 := jB (e := 4) 0 hJ rg_78_4_0_1 (by first | decide | omega) (by first | decide | omega)
      have q489 : h434 78 4 = h420 78 4 := by rw [← e436]; exact x_up_i (by first | decide | omega)
      have q490 : h420 78 4 = h337 78 4 := jK 0 f422 rg_78_4_0_1 (by first | decide | omega) (by first | decide | omega) (by decide)
      have q491 : h337 78 4 = h261 78 4 := jK 0 f339 rg_78_4_0_1 (by first | decide | omega) (by first | decide | omega) (by decide)
      have q492 : h261 78 4 = h247 78 4 := by rw [← e263]; exact x_up_i (by first | decide | omega)
      have q493 : h247 78 4 = h185 78 4 := jK 0 f249 rg_78_4_0_1 (by first | decide | omega) (by first | decide | omega) (by decide)
      have q494 : h185 78 4 = h130 78 4 := jK 0 f187 rg_78_4_0_1 (by first | decide | omega) (by first | decide | omega) (by decide)
      have q495 : h130 78 4 = h116 78 4 := by rw [← e132]; exact x_up_i (by first | decide | omega)
      have q496 : h116 78 4 = h68 78 4 := jK 0 f118 rg_78_4_0_1 (by first | decide | omega) (by first | decide | omega) (by decide)
      have q497 : h68 78 4 = h34 78 4 := jK 0 f70 rg_78_4_0_1 (by first | decide | omega) (by first | decide | omega) (by decide)
      have q498 : h34 78 4 = h19 78 4 := by rw [← e36]; exact x_up_i (by first | decide | omega)
      have q499 : h19 78 4 = h 78 4 := jK 0 f21 rg_78_4_0_1 (by first | decide | omega) (by first | decide | omega) (by decide)
      have b500 := jB (e := 5) 0 hJ rg_78_5_0_1 (by first | decide | omega) (by first | decide | omega)
      have q501 : h434 78 5 = h420 78 5 := by rw [← e436]; exact x_up_i (by first | decide | omega)
      have q502 : h420 78 5 = h337 78 5 := jK 0 f422 rg_78_5_0_1 (by first | decide | omega) (by first | decide | omega) (by decide)
      have q503 : h337 78 5 = h261 78 5 := jK 0 f339 rg_78_5_0_1 (by first | decide | omega) (by first | decide | omega) (by decide)
      have q504 : h261 78 5 = h247 78 5 := by rw [← e263]; exact x_up_i (by first | decide | omega)
      have q505 : h247 78 5 = h185 78 5 := jK 0 f249 rg_78_5_0_1 (by first | decide | omega) (by first | decide | omega) (by decide)
      have q506 : h185 78 5 = h130 78 5 := jK 0 f187 rg_78_5_0_1 (by first | decide | omega) (by first | decide | omega) (by decide)
      have q507 : h130 78 5 = h116 78 5 := by rw [← e132]; exact x_up_i (by first | decide | omega)
      have q508 : h116 78 5 = h68 78 5 := jK 0 f118 rg_78_5_0_1 (by first | decide | omega) (by first | decide | omega) (by decide)
      have q509 : h68 78 5 = h34 78 5 := jK 0 f70 rg_78_5_0_1 (by first | decide | omega) (by first | decide | omega) (by decide)
      have q510 : h34 78 5 = h19 78 5 := by rw [← e36]; exact x_up_i (by first | decide | omega)
      have q511 : h19 78 5 = h 78 5 := jK 0 f21 rg_78_5_0_1 (by first | decide | omega) (by first | decide | omega) (by decide)
      have q512 : h34 75 7 = h19 75 7 := by rw [← e36]; exact x_up_k (by decide)
      obtain ⟨w513, e514⟩ := Tw.yes c74 (by first | decide | omega)
      have q515 : h130 75 7 = h116 75 7 := by rw [← e132]; exact x_up_k (by decide)
      obtain ⟨w516, e517⟩ := Tw.yes c191 (by first | decide | omega)
      have q518 : h261 75 7 = h247 75 7 := by rw [← e263]; exact x_up_k (by decide)
      obtain ⟨w519, e520⟩ := Tw.yes c343 (by first | decide | omega)
      refine x_retI (np := 101) (x := 0) (by decide +kernel) (by decide) (Or.inr ⟨by decide +kernel, by first | decide | omega, by first | decide | omega⟩) ⟨_, rfl, (by decide), ?_⟩
      exact ⟨j435, f437, (by first | decide | omega), (fun z => by first | decide | omega), (fun z => by first | decide | omega), (fun z => by first | decide | omega), (fun z => by first | decide | omega), (fun z => by first | decide | omega), (fun z => by first | decide | omega), (fun z => absurd z (by first | decide | omega)), (Or.inr ⟨by first | decide | omega, (nm9.y c28 (by first | decide | omega) (by first | decide | omega) rfl (by first | decide | omega) rfl (wd9.y w513 (congrArg (sk tB tN) (show h34 75 7 = h19 75 7 by first | decide | omega)) e514 rfl (nm9.y c125 (by first | decide | omega) (by first | decide | omega) rfl (by first | decide | omega) rfl (wd9.y w516 (congrArg (sk tB tN) (show h130 75 7 = h116 75 7 by first | decide | omega)) e517 rfl (nm9.y c256 (by first | decide | omega) (by first | decide | omega) rfl (by first | decide | omega) rfl (wd9.y w519 (congrArg (sk tB tN) (show h261 75 7 = h247 75 7 by first | decide | omega)) e520 rfl (nm9.f c429 (by first | decide | omega) (by first | decide | omega) rfl (by first | decide | omega) (by first | decide | omega))))))))⟩)⟩
    have q439 : ¬ (v416 < 2147483648) := q439
    have b521 := c425 (by first | decide | omega)
    have b522 := c426 (by first | decide | omega)
    have b523 := c427 (by first | decide | omega)
    refine x_const (np := 12) (x := 9223372043297226753) (a := 2147483649) (by decide +kernel) (by decide) (by decide) ?_
    refine x_goto (np := 15) (x := 16) (by decide +kernel) ?_
    refine x_retI (np := 17) (x := 0) (by decide +kernel) (by decide) (Or.inr ⟨by decide +kernel, by first | decide | omega, by first | decide | omega⟩) ⟨_, rfl, (by decide), ?_⟩
    refine x_ifz (k := 1) (tg := 101) (np := 99) (by decide +kernel) (by decide) (by decide) (fun q524 => ?_) (fun q525 => ?_)
    · have q524 : 2147483649 ≠ 2147483648 := q524
      refine x_aload (np := 102) (x := 0) (by decide +kernel) rfl (x_nc_le (by decide)) ?_
      have q526 : h434 75 3 = 78 := by have z := jB (e := 3) 0 j435 rg_75_3_0_1 (by decide) (by decide); omega
      refine x_getR (np := 105) (x := 707) (f := 3) (q := 78) (by decide +kernel) (by decide) (by decide +kernel) q526 ?_
      refine x_iload (np := 106) (x := 1) (by decide +kernel) rfl (by first | decide | omega) ?_
      refine x_const (np := 107) (x := 9223372056182128644) (a := 2147483652) (by decide +kernel) (by decide) (by decide) ?_
      refine x_iadd (np := 108) (x := 0) (v := (2147483672 + 7 * u8)) (by decide +kernel) (by first | decide | omega) (by decide) (by first | decide | omega) (by first | decide | omega) ?_
      refine x_aload (np := 109) (x := 0) (by decide +kernel) rfl (x_nc_le (by decide)) ?_
      refine x_ldcB (i := 4) (idx := 153) (tx := "on") (by rw [tb_y179]; exact List.mem_of_getElem? (i := 39) rfl) (by decide) (by rw [tb_b179]; decide +kernel) ?_
      have m531 := Tq.fr m419 f422 (by decide) (by decide)
      have m530 : Tq tB tN h434 := by rw [← e436]; exact Tq.oth m531 (by decide) (fun z => absurd z.1 (by decide))
      refine x_cI (t := 6) (mj := 171) (n := 2) (rc := 12) (ml := 2) (nr := 2) (np := 114) (as := [x_r 75, x_b (4 + 1)]) (rest := [iv_c (2147483672 + 7 * u8), x_r 78]) (lo1 := [x_r 75, x_b (4 + 1)]) (by decide +kernel) (by decide) (by decide +kernel) (x_rb_of (by decide +kernel)) rfl rfl (x_wr (by decide) (x_wB (by decide) x_wn)) (x_wi (by first | decide | omega) (x_wr (by decide) x_wn)) (by decide) rfl (c171_75_S0 j435  (by decide) m530) (fun v527 h532 l528 q529 => ?_)
      obtain ⟨j533, f534, b535, c536, c537, c538⟩ := q529
      have f539 := Fr.trans f437 f534 (by decide)
      have q540 : h434 75 7 = h420 75 7 := by rw [← e436]; exact x_up_k (by decide)
      have b541 := jB (e := 7) 0 j533 rg_75_7_0_1 (by first | decide | omega) (by first | decide | omega)
      have q542 : h434 75 7 = h420 75 7 := by rw [← e436]; exact x_up_k (by decide)
      refine x_ifz (k := 0) (tg := 121) (np := 117) (by decide +kernel) (by decide) l528 (fun q543 => ?_) (fun q544 => ?_)
      · have q543 : v527 = 2147483648 := q543
        refine x_const (np := 122) (x := 9223372039002259456) (a := 2147483648) (by decide +kernel) (by decide) (by decide) ?_
        refine x_ast (np := 123) (x := 0) (kd := 1) (n := 290) (i := (24 + 7 * u8)) (by decide +kernel) (Or.inl rfl) (by decide +kernel) (by first | decide | omega) (by first | decide | omega) (by decide) (by decide) (fun z => absurd z (by decide)) ?_
        have j546 := jU (e := (24 + 7 * u8)) (v := 2147483648) u8 j533 rg_78_24_7_20 (by first | decide | omega) (by first | decide | omega) (by first | decide | omega)
        have f548 := jF (e := (24 + 7 * u8)) (v := 2147483648) u8 f539 rg_78_24_7_20 (by first | decide | omega) (by first | decide | omega) (by decide)
        generalize e547 : x_up h532 78 (24 + 7 * u8) 2147483648 = h545 at j546 f548 ⊢
        refine x_aload (np := 124) (x := 0) (by decide +kernel) rfl (x_nc_le (by decide)) ?_
        have q549 : h545 75 3 = 78 := by have z := jB (e := 3) 0 j546 rg_75_3_0_1 (by decide) (by decide); omega
        refine x_getR (np := 127) (x := 707) (f := 3) (q := 78) (by decide +kernel) (by decide) (by decide +kernel) q549 ?_
        refine x_iload (np := 128) (x := 1) (by decide +kernel) rfl (by first | decide | omega) ?_
        refine x_const (np := 129) (x := 9223372060477095941) (a := 2147483653) (by decide +kernel) (by decide) (by decide) ?_
        refine x_iadd (np := 130) (x := 0) (v := (2147483673 + 7 * u8)) (by decide +kernel) (by first | decide | omega) (by decide) (by first | decide | omega) (by first | decide | omega) ?_
        refine x_const (np := 131) (x := 9223372039002259456) (a := 2147483648) (by decide +kernel) (by decide) (by decide) ?_
        refine x_ast (np := 132) (x := 0) (kd := 1) (n := 290) (i := (25 + 7 * u8)) (by decide +kernel) (Or.inl rfl) (by decide +kernel) (by first | decide | omega) (by first | decide | omega) (by decide) (by decide) (fun z => absurd z (by decide)) ?_
        have j551 := jU (e := (25 + 7 * u8)) (v := 2147483648) u8 j546 rg_78_25_7_20 (by first | decide | omega) (by first | decide | omega) (by first | decide | omega)
        have f553 := jF (e := (25 + 7 * u8)) (v := 2147483648) u8 f548 rg_78_25_7_20 (by first | decide | omega) (by first | decide | omega) (by decide)
        generalize e552 : x_up h545 78 (25 + 7 * u8) 2147483648 = h550 at j551 f553 ⊢
        refine x_aload (np := 133) (x := 0) (by decide +kernel) rfl (x_nc_le (by decide)) ?_
        have q554 : h550 75 3 = 78 := by have z := jB (e := 3) 0 j551 rg_75_3_0_1 (by decide) (by decide); omega
        refine x_getR (np := 136) (x := 707) (f := 3) (q := 78) (by decide +kernel) (by decide) (by decide +kernel) q554 ?_
        refine x_iload (np := 137) (x := 1) (by decide +kernel) rfl (by first | decide | omega) ?_
        refine x_const (np := 139) (x := 9223372064772063238) (a := 2147483654) (by decide +kernel) (by decide) (by decide) ?_
        refine x_iadd (np := 140) (x := 0) (v := (2147483674 + 7 * u8)) (by decide +kernel) (by first | decide | omega) (by decide) (by first | decide | omega) (by first | decide | omega) ?_
        refine x_const (np := 141) (x := 9223372039002259456) (a := 2147483648) (by decide +kernel) (by decide) (by decide) ?_
        refine x_ast (np := 142) (x := 0) (kd := 1) (n := 290) (i := (26 + 7 * u8)) (by decide +kernel) (Or.inl rfl) (by decide +kernel) (by first | decide | omega) (by first | decide | omega) (by decide) (by decide) (fun z => absurd z (by decide)) ?_
        have j556 := jU (e := (26 + 7 * u8)) (v := 2147483648) u8 j551 rg_78_26_7_20 (by first | decide | omega) (by first | decide | omega) (by first | decide | omega)
        have f558 := jF (e := (26 + 7 * u8)) (v := 2147483648) u8 f553 rg_78_26_7_20 (by first | decide | omega) (by first | decide | omega) (by decide)
        generalize e557 : x_up h550 78 (26 + 7 * u8) 2147483648 = h555 at j556 f558 ⊢
        refine x_aload (np := 143) (x := 0) (by decide +kernel) rfl (x_nc_le (by decide)) ?_
        refine x_ldcB (i := 5) (idx := 158) (tx := "pledge") (by rw [tb_y179]; exact List.mem_of_getElem? (i := 40) rfl) (by decide) (by rw [tb_b179]; decide +kernel) ?_
        have m565 := Tq.fr m530 f534 (by decide) (by decide)
        have m564 : Tq tB tN h545 := by rw [← e547]; exact Tq.oth m565 (by decide) (fun z => absurd z.1 (by decide))
        have m563 : Tq tB tN h550 := by rw [← e552]; exact Tq.oth m564 (by decide) (fun z => absurd z.1 (by decide))
        have m562 : Tq tB tN h555 := by rw [← e557]; exact Tq.oth m563 (by decide) (fun z => absurd z.1 (by decide))
        refine x_cI (t := 6) (mj := 171) (n := 2) (rc := 12) (ml := 2) (nr := 0) (np := 148) (as := [x_r 75, x_b (5 + 1)]) (rest := []) (lo1 := [x_r 75, x_b (5 + 1)]) (by decide +kernel) (by decide) (by decide +kernel) (x_rb_of (by decide +kernel)) rfl rfl (x_wr (by decide) (x_wB (by decide) x_wn)) x_wn (by decide) rfl (c171_75_S0 j556  (by decide) m562) (fun v559 h566 l560 q561 => ?_)
        obtain ⟨j567, f568, b569, c570, c571, c572⟩ := q561
        have f573 := Fr.trans f558 f568 (by decide)
        have q574 : h555 75 7 = h550 75 7 := by rw [← e557]; exact x_up_k (by decide)
        have q575 : h550 75 7 = h545 75 7 := by rw [← e552]; exact x_up_k (by decide)
        have q576 : h545 75 7 = h532 75 7 := by rw [← e547]; exact x_up_k (by decide)
        have b577 := jB (e := 7) 0 j567 rg_75_7_0_1 (by first | decide | omega) (by first | decide | omega)
        have q578 : h555 75 7 = h550 75 7 := by rw [← e557]; exact x_up_k (by decide)
        have q579 : h550 75 7 = h545 75 7 := by rw [← e552]; exact x_up_k (by decide)
        have q580 : h545 75 7 = h532 75 7 := by rw [← e547]; exact x_up_k (by decide)
        refine x_ifz (k := 0) (tg := 171) (np := 151) (by decide +kernel) (by decide) l560 (fun q581 => ?_) (fun q582 => ?_)
        · have q581 : v559 = 2147483648 := q581
          refine x_aload (np := 172) (x := 0) (by decide +kernel) rfl (x_nc_le (by decide)) ?_
          have q583 : h566 75 3 = 78 := by have z := jB (e := 3) 0 j567 rg_75_3_0_1 (by decide) (by decide); omega
          refine x_getR (np := 175) (x := 707) (f := 3) (q := 78) (by decide +kernel) (by decide) (by decide +kernel) q583 ?_
          refine x_const (np := 176) (x := 9223372047592194050) (a := 2147483650) (by decide +kernel) (by decide) (by decide) ?_
          refine x_dup2 (np := 177) (x := 0) (by decide +kernel) (by have z := (iw_c_lt (a := 2147483650) (by decide)).1; omega) (by have z := x_nc_le (k := 78) (by decide); unfold x_r; omega) ?_
          have q584 : h566 78 2 = h555 78 2 := jK 0 f568 rg_78_2_0_1 (by first | decide | omega) (by first | decide | omega) (by decide)
          have q585 : h555 78 2 = h550 78 2 := by rw [← e557]; exact x_up_i (by first | decide | omega)
          have q586 : h550 78 2 = h545 78 2 := by rw [← e552]; exact x_up_i (by first | decide | omega)
          have q587 : h545 78 2 = h532 78 2 := by rw [← e547]; exact x_up_i (by first | decide | omega)
          have q588 : h532 78 2 = h434 78 2 := jK 0 f534 rg_78_2_0_1 (by first | decide | omega) (by first | decide | omega) (by decide)
          have q589 : h434 78 2 = h420 78 2 := by rw [← e436]; exact x_up_i (by first | decide | omega)
          have q590 : h420 78 2 = h337 78 2 := jK 0 f422 rg_78_2_0_1 (by first | decide | omega) (by first | decide | omega) (by decide)
          have q591 : h337 78 2 = h261 78 2 := jK 0 f339 rg_78_2_0_1 (by first | decide | omega) (by first | decide | omega) (by decide)
          have q592 : h261 78 2 = h247 78 2 := by rw [← e263]; exact x_up_i (by first | decide | omega)
          have q593 : h247 78 2 = h185 78 2 := jK 0 f249 rg_78_2_0_1 (by first | decide | omega) (by first | decide | omega) (by decide)
          have q594 : h185 78 2 = h130 78 2 := jK 0 f187 rg_78_2_0_1 (by first | decide | omega) (by first | decide | omega) (by decide)
          have q595 : h130 78 2 = h116 78 2 := by rw [← e132]; exact x_up_i (by first | decide | omega)
          have q596 : h116 78 2 = h68 78 2 := jK 0 f118 rg_78_2_0_1 (by first | decide | omega) (by first | decide | omega) (by decide)
          have q597 : h68 78 2 = h34 78 2 := jK 0 f70 rg_78_2_0_1 (by first | decide | omega) (by first | decide | omega) (by decide)
          have q598 : h34 78 2 = h19 78 2 := by rw [← e36]; exact x_up_i (by first | decide | omega)
          have q599 : h19 78 2 = h 78 2 := jK 0 f21 rg_78_2_0_1 (by first | decide | omega) (by first | decide | omega) (by decide)
          refine x_aldC (np := 178) (x := 0) (n := 290) (i := 2) (q := (h 78 2)) (by decide +kernel) (by decide +kernel) (by first | decide | omega) (by first | decide | omega) (by decide) (((((((((((((((q584.trans q585).trans q586).trans q587).trans q588).trans q589).trans q590).trans q591).trans q592).trans q593).trans q594).trans q595).trans q596).trans q597).trans q598).trans q599) (fun l600 => ?_)
          refine x_const (np := 179) (x := 9223372043297226753) (a := 2147483649) (by decide +kernel) (by decide) (by decide) ?_
          refine x_iadd (np := 180) (x := 0) (v := (1 + (h 78 2))) (by decide +kernel) l3 (by decide) (by first | decide | omega) (by first | decide | omega) ?_
          refine x_ast (np := 181) (x := 0) (kd := 1) (n := 290) (i := 2) (by decide +kernel) (Or.inl rfl) (by decide +kernel) (by first | decide | omega) (by first | decide | omega) (by decide) (by first | decide | omega) (fun z => absurd z (by decide)) ?_
          have j602 := jU (e := 2) (v := (1 + (h 78 2))) 0 j567 rg_78_2_0_1 (by first | decide | omega) (by first | decide | omega) (by first | decide | omega)
          have f604 := jF (e := 2) (v := (1 + (h 78 2))) 0 f573 rg_78_2_0_1 (by first | decide | omega) (by first | decide | omega) (by decide)
          generalize e603 : x_up h566 78 2 (1 + (h 78 2)) = h601 at j602 f604 ⊢
          refine x_const (np := 182) (x := 9223372043297226753) (a := 2147483649) (by decide +kernel) (by decide) (by decide) ?_
          have b605 := jB (e := 0) 0 hJ rg_78_0_0_1 (by first | decide | omega) (by first | decide | omega)
          have q606 : h601 78 0 = h566 78 0 := by rw [← e603]; exact x_up_i (by first | decide | omega)
          have q607 : h566 78 0 = h555 78 0 := jK 0 f568 rg_78_0_0_1 (by first | decide | omega) (by first | decide | omega) (by decide)
          have q608 : h555 78 0 = h550 78 0 := by rw [← e557]; exact x_up_i (by first | decide | omega)
          have q609 : h550 78 0 = h545 78 0 := by rw [← e552]; exact x_up_i (by first | decide | omega)
          have q610 : h545 78 0 = h532 78 0 := by rw [← e547]; exact x_up_i (by first | decide | omega)
          have q611 : h532 78 0 = h434 78 0 := jK 0 f534 rg_78_0_0_1 (by first | decide | omega) (by first | decide | omega) (by decide)
          have q612 : h434 78 0 = h420 78 0 := by rw [← e436]; exact x_up_i (by first | decide | omega)
          have q613 : h420 78 0 = h337 78 0 := jK 0 f422 rg_78_0_0_1 (by first | decide | omega) (by first | decide | omega) (by decide)
          have q614 : h337 78 0 = h261 78 0 := jK 0 f339 rg_78_0_0_1 (by first | decide | omega) (by first | decide | omega) (by decide)
          have q615 : h261 78 0 = h247 78 0 := by rw [← e263]; exact x_up_i (by first | decide | omega)
          have q616 : h247 78 0 = h185 78 0 := jK 0 f249 rg_78_0_0_1 (by first | decide | omega) (by first | decide | omega) (by decide)
          have q617 : h185 78 0 = h130 78 0 := jK 0 f187 rg_78_0_0_1 (by first | decide | omega) (by first | decide | omega) (by decide)
          have q618 : h130 78 0 = h116 78 0 := by rw [← e132]; exact x_up_i (by first | decide | omega)
          have q619 : h116 78 0 = h68 78 0 := jK 0 f118 rg_78_0_0_1 (by first | decide | omega) (by first | decide | omega) (by decide)
          have q620 : h68 78 0 = h34 78 0 := jK 0 f70 rg_78_0_0_1 (by first | decide | omega) (by first | decide | omega) (by decide)
          have q621 : h34 78 0 = h19 78 0 := by rw [← e36]; exact x_up_i (by first | decide | omega)
          have q622 : h19 78 0 = h 78 0 := jK 0 f21 rg_78_0_0_1 (by first | decide | omega) (by first | decide | omega) (by decide)
          have q623 : h601 78 1 = h566 78 1 := by rw [← e603]; exact x_up_i (by first | decide | omega)
          have q624 : h566 78 1 = h555 78 1 := jK 0 f568 rg_78_1_0_1 (by first | decide | omega) (by first | decide | omega) (by decide)
          have q625 : h555 78 1 = h550 78 1 := by rw [← e557]; exact x_up_i (by first | decide | omega)
          have q626 : h550 78 1 = h545 78 1 := by rw [← e552]; exact x_up_i (by first | decide | omega)
          have q627 : h545 78 1 = h532 78 1 := by rw [← e547]; exact x_up_i (by first | decide | omega)
          have q628 : h532 78 1 = h434 78 1 := jK 0 f534 rg_78_1_0_1 (by first | decide | omega) (by first | decide | omega) (by decide)
          have q629 : h434 78 1 = h420 78 1 := by rw [← e436]; exact x_up_i (by first | decide | omega)
          have q630 : h420 78 1 = h337 78 1 := jK 0 f422 rg_78_1_0_1 (by first | decide | omega) (by first | decide | omega) (by decide)
          have q631 : h337 78 1 = h261 78 1 := jK 0 f339 rg_78_1_0_1 (by first | decide | omega) (by first | decide | omega) (by decide)
          have q632 : h261 78 1 = h247 78 1 := by rw [← e263]; exact x_up_i (by first | decide | omega)
          have q633 : h247 78 1 = h185 78 1 := jK 0 f249 rg_78_1_0_1 (by first | decide | omega) (by first | decide | omega) (by decide)
          have q634 : h185 78 1 = h130 78 1 := jK 0 f187 rg_78_1_0_1 (by first | decide | omega) (by first | decide | omega) (by decide)
          have q635 : h130 78 1 = h116 78 1 := by rw [← e132]; exact x_up_i (by first | decide | omega)
          have q636 : h116 78 1 = h68 78 1 := jK 0 f118 rg_78_1_0_1 (by first | decide | omega) (by first | decide | omega) (by decide)
          have q637 : h68 78 1 = h34 78 1 := jK 0 f70 rg_78_1_0_1 (by first | decide | omega) (by first | decide | omega) (by decide)
          have q638 : h34 78 1 = h19 78 1 := by rw [← e36]; exact x_up_i (by first | decide | omega)
          have q639 : h19 78 1 = h 78 1 := jK 0 f21 rg_78_1_0_1 (by first | decide | omega) (by first | decide | omega) (by decide)
          have q640 : h601 78 2 = (1 + (h 78 2)) := by rw [← e603]; exact x_up_at
          have b641 := jB (e := 3) 0 hJ rg_78_3_0_1 (by first | decide | omega) (by first | decide | omega)
          have q642 : h601 78 3 = h566 78 3 := by rw [← e603]; exact x_up_i (by first | decide | omega)
          have q643 : h566 78 3 = h555 78 3 := jK 0 f568 rg_78_3_0_1 (by first | decide | omega) (by first | decide | omega) (by decide)
          have q644 : h555 78 3 = h550 78 3 := by rw [← e557]; exact x_up_i (by first | decide | omega)
          have q645 : h550 78 3 = h545 78 3 := by rw [← e552]; exact x_up_i (by first | decide | omega)
          have q646 : h545 78 3 = h532 78 3 := by rw [← e547]; exact x_up_i (by first | decide | omega)
          have q647 : h532 78 3 = h434 78 3 := jK 0 f534 rg_78_3_0_1 (by first | decide | omega) (by first | decide | omega) (by decide)
          have q648 : h434 78 3 = h420 78 3 := by rw [← e436]; exact x_up_i (by first | decide | omega)
          have q649 : h420 78 3 = h337 78 3 := jK 0 f422 rg_78_3_0_1 (by first | decide | omega) (by first | decide | omega) (by decide)
          have q650 : h337 78 3 = h261 78 3 := jK 0 f339 rg_78_3_0_1 (by first | decide | omega) (by first | decide | omega) (by decide)
          have q651 : h261 78 3 = h247 78 3 := by rw [← e263]; exact x_up_i (by first | decide | omega)
          have q652 : h247 78 3 = h185 78 3 := jK 0 f249 rg_78_3_0_1 (by first | decide | omega) (by first | decide | omega) (by decide)
          have q653 : h185 78 3 = h130 78 3 := jK 0 f187 rg_78_3_0_1 (by first | decide | omega) (by first | decide | omega) (by decide)
          have q654 : h130 78 3 = h116 78 3 := by rw [← e132]; exact x_up_i (by first | decide | omega)
          have q655 : h116 78 3 = h68 78 3 := jK 0 f118 rg_78_3_0_1 (by first | decide | omega) (by first | decide | omega) (by decide)
          have q656 : h68 78 3 = h34 78 3 := jK 0 f70 rg_78_3_0_1 (by first | decide | omega) (by first | decide | omega) (by decide)
          have q657 : h34 78 3 = h19 78 3 := by rw [← e36]; exact x_up_i (by first | decide | omega)
          have q658 : h19 78 3 = h 78 3 := jK 0 f21 rg_78_3_0_1 (by first | decide | omega) (by first | decide | omega) (by decide)
          have b659 := jB (e := 4) 0 hJ rg_78_4_0_1 (by first | decide | omega) (by first | decide | omega)
          have q660 : h601 78 4 = h566 78 4 := by rw [← e603]; exact x_up_i (by first | decide | omega)
          have q661 : h566 78 4 = h555 78 4 := jK 0 f568 rg_78_4_0_1 (by first | decide | omega) (by first | decide | omega) (by decide)
          have q662 : h555 78 4 = h550 78 4 := by rw [← e557]; exact x_up_i (by first | decide | omega)
          have q663 : h550 78 4 = h545 78 4 := by rw [← e552]; exact x_up_i (by first | decide | omega)
          have q664 : h545 78 4 = h532 78 4 := by rw [← e547]; exact x_up_i (by first | decide | omega)
          have q665 : h532 78 4 = h434 78 4 := jK 0 f534 rg_78_4_0_1 (by first | decide | omega) (by first | decide | omega) (by decide)
          have q666 : h434 78 4 = h420 78 4 := by rw [← e436]; exact x_up_i (by first | decide | omega)
          have q667 : h420 78 4 = h337 78 4 := jK 0 f422 rg_78_4_0_1 (by first | decide | omega) (by first | decide | omega) (by decide)
          have q668 : h337 78 4 = h261 78 4 := jK 0 f339 rg_78_4_0_1 (by first | decide | omega) (by first | decide | omega) (by decide)
          have q669 : h261 78 4 = h247 78 4 := by rw [← e263]; exact x_up_i (by first | decide | omega)
          have q670 : h247 78 4 = h185 78 4 := jK 0 f249 rg_78_4_0_1 (by first | decide | omega) (by first | decide | omega) (by decide)
          have q671 : h185 78 4 = h130 78 4 := jK 0 f187 rg_78_4_0_1 (by first | decide | omega) (by first | decide | omega) (by decide)
          have q672 : h130 78 4 = h116 78 4 := by rw [← e132]; exact x_up_i (by first | decide | omega)
          have q673 : h116 78 4 = h68 78 4 := jK 0 f118 rg_78_4_0_1 (by first | decide | omega) (by first | decide | omega) (by decide)
          have q674 : h68 78 4 = h34 78 4 := jK 0 f70 rg_78_4_0_1 (by first | decide | omega) (by first | decide | omega) (by decide)
          have q675 : h34 78 4 = h19 78 4 := by rw [← e36]; exact x_up_i (by first | decide | omega)
          have q676 : h19 78 4 = h 78 4 := jK 0 f21 rg_78_4_0_1 (by first | decide | omega) (by first | decide | omega) (by decide)
          have b677 := jB (e := 5) 0 hJ rg_78_5_0_1 (by first | decide | omega) (by first | decide | omega)
          have q678 : h601 78 5 = h566 78 5 := by rw [← e603]; exact x_up_i (by first | decide | omega)
          have q679 : h566 78 5 = h555 78 5 := jK 0 f568 rg_78_5_0_1 (by first | decide | omega) (by first | decide | omega) (by decide)
          have q680 : h555 78 5 = h550 78 5 := by rw [← e557]; exact x_up_i (by first | decide | omega)
          have q681 : h550 78 5 = h545 78 5 := by rw [← e552]; exact x_up_i (by first | decide | omega)
          have q682 : h545 78 5 = h532 78 5 := by rw [← e547]; exact x_up_i (by first | decide | omega)
          have q683 : h532 78 5 = h434 78 5 := jK 0 f534 rg_78_5_0_1 (by first | decide | omega) (by first | decide | omega) (by decide)
          have q684 : h434 78 5 = h420 78 5 := by rw [← e436]; exact x_up_i (by first | decide | omega)
          have q685 : h420 78 5 = h337 78 5 := jK 0 f422 rg_78_5_0_1 (by first | decide | omega) (by first | decide | omega) (by decide)
          have q686 : h337 78 5 = h261 78 5 := jK 0 f339 rg_78_5_0_1 (by first | decide | omega) (by first | decide | omega) (by decide)
          have q687 : h261 78 5 = h247 78 5 := by rw [← e263]; exact x_up_i (by first | decide | omega)
          have q688 : h247 78 5 = h185 78 5 := jK 0 f249 rg_78_5_0_1 (by first | decide | omega) (by first | decide | omega) (by decide)
          have q689 : h185 78 5 = h130 78 5 := jK 0 f187 rg_78_5_0_1 (by first | decide | omega) (by first | decide | omega) (by decide)
          have q690 : h130 78 5 = h116 78 5 := by rw [← e132]; exact x_up_i (by first | decide | omega)
          have q691 : h116 78 5 = h68 78 5 := jK 0 f118 rg_78_5_0_1 (by first | decide | omega) (by first | decide | omega) (by decide)
          have q692 : h68 78 5 = h34 78 5 := jK 0 f70 rg_78_5_0_1 (by first | decide | omega) (by first | decide | omega) (by decide)
          have q693 : h34 78 5 = h19 78 5 := by rw [← e36]; exact x_up_i (by first | decide | omega)
          have q694 : h19 78 5 = h 78 5 := jK 0 f21 rg_78_5_0_1 (by first | decide | omega) (by first | decide | omega) (by decide)
          have m711 := Cl.fr hC f21 (by decide)
          have m710 : Cl h34 := by rw [← e36]; exact Cl.upR (e := (20 + 7 * u8)) (v := v16) u8 m711 rg_76_20_7_20 (by first | decide | omega) (by first | decide | omega) (by first | decide | omega)
          have m709 := Cl.fr m710 f70 (by decide)
          have m708 := Cl.fr m709 f118 (by decide)
          have m707 : Cl h130 := by rw [← e132]; exact Cl.upR (e := (21 + 7 * u8)) (v := v112) u8 m708 rg_76_21_7_20 (by first | decide | omega) (by first | decide | omega) (by first | decide | omega)
          have m706 := Cl.fr m707 f187 (by decide)
          have m705 := Cl.fr m706 f249 (by decide)
          have m704 : Cl h261 := by rw [← e263]; exact Cl.upR (e := (22 + 7 * u8)) (v := v243) u8 m705 rg_76_22_7_20 (by first | decide | omega) (by first | decide | omega) (by first | decide | omega)
          have m703 := Cl.fr m704 f339 (by decide)
          have m702 := Cl.fr m703 f422 (by decide)
          have m701 : Cl h434 := by rw [← e436]; exact Cl.upR (e := (23 + 7 * u8)) (v := v416) u8 m702 rg_76_23_7_20 (by first | decide | omega) (by first | decide | omega) (by first | decide | omega)
          have m700 := Cl.fr m701 f534 (by decide)
          have m699 : Cl h545 := by rw [← e547]; exact Cl.upR (e := (24 + 7 * u8)) (v := 2147483648) u8 m700 rg_76_24_7_20 (by first | decide | omega) (by first | decide | omega) (by first | decide | omega)
          have m698 : Cl h550 := by rw [← e552]; exact Cl.upR (e := (25 + 7 * u8)) (v := 2147483648) u8 m699 rg_76_25_7_20 (by first | decide | omega) (by first | decide | omega) (by first | decide | omega)
          have m697 : Cl h555 := by rw [← e557]; exact Cl.upR (e := (26 + 7 * u8)) (v := 2147483648) u8 m698 rg_76_26_7_20 (by first | decide | omega) (by first | decide | omega) (by first | decide | omega)
          have m696 := Cl.fr m697 f568 (by decide)
          have m695 : Cl h601 := by rw [← e603]; exact Cl.upR (e := 2) (v := (1 + (h 78 2))) 0 m696 rg_76_2_0_1 (by first | decide | omega) (by first | decide | omega) (by first | decide | omega)
          have q712 : h34 75 7 = h19 75 7 := by rw [← e36]; exact x_up_k (by decide)
          obtain ⟨w713, e714⟩ := Tw.yes c74 (by first | decide | omega)
          have q715 : h130 75 7 = h116 75 7 := by rw [← e132]; exact x_up_k (by decide)
          obtain ⟨w716, e717⟩ := Tw.yes c191 (by first | decide | omega)
          have q718 : h261 75 7 = h247 75 7 := by rw [← e263]; exact x_up_k (by decide)
          obtain ⟨w719, e720⟩ := Tw.yes c343 (by first | decide | omega)
          have q721 : h434 75 7 = h420 75 7 := by rw [← e436]; exact x_up_k (by decide)
          obtain ⟨w722, e723⟩ := Tk.no c538 (by first | decide | omega)
          have q724 : h555 75 7 = h550 75 7 := by rw [← e557]; exact x_up_k (by decide)
          have q725 : h550 75 7 = h545 75 7 := by rw [← e552]; exact x_up_k (by decide)
          have q726 : h545 75 7 = h532 75 7 := by rw [← e547]; exact x_up_k (by decide)
          obtain ⟨w727, e728⟩ := Tk.no c572 (by first | decide | omega)
          have q729 : h601 75 7 = h566 75 7 := by rw [← e603]; exact x_up_k (by decide)
          refine x_retI (np := 183) (x := 0) (by decide +kernel) (by decide) (Or.inr ⟨by decide +kernel, by first | decide | omega, by first | decide | omega⟩) ⟨_, rfl, (by decide), ?_⟩
          exact ⟨j602, f604, (by first | decide | omega), (fun z => by first | decide | omega), (fun z => by first | decide | omega), (fun z => by first | decide | omega), (fun z => by first | decide | omega), (fun z => by first | decide | omega), (fun z => by first | decide | omega), (fun _ => m695), (Or.inr ⟨by first | decide | omega, (nm9.y c28 (by first | decide | omega) (by first | decide | omega) rfl (by first | decide | omega) rfl (wd9.y w713 (congrArg (sk tB tN) (show h34 75 7 = h19 75 7 by first | decide | omega)) e714 rfl (nm9.y c125 (by first | decide | omega) (by first | decide | omega) rfl (by first | decide | omega) rfl (wd9.y w716 (congrArg (sk tB tN) (show h130 75 7 = h116 75 7 by first | decide | omega)) e717 rfl (nm9.y c256 (by first | decide | omega) (by first | decide | omega) rfl (by first | decide | omega) rfl (wd9.y w719 (congrArg (sk tB tN) (show h261 75 7 = h247 75 7 by first | decide | omega)) e720 rfl (nm9.y c429 (by first | decide | omega) (by first | decide | omega) rfl (by first | decide | omega) rfl (or9.f w722 (congrArg (sk tB tN) (show h434 75 7 = h420 75 7 by first | decide | omega)) (Eq.trans e723 (congrArg (sk tB tN) (show h434 75 7 = h420 75 7 by first | decide | omega))) (or9.f w727 (congrArg (sk tB tN) (show h555 75 7 = h532 75 7 by first | decide | omega)) (Eq.trans e728 (congrArg (sk tB tN) (show h555 75 7 = h532 75 7 by first | decide | omega))) (fin9.mk (by first | decide | omega) (congrArg (sk tB tN) (show h566 75 7 = h601 75 7 by first | decide | omega))))))))))))⟩)⟩
        have q582 : ¬ (v559 = 2147483648) := q582
        have b730 := c571 (by first | decide | omega)
        refine x_aload (np := 152) (x := 0) (by decide +kernel) rfl (x_nc_le (by decide)) ?_
        refine x_iload (np := 153) (x := 1) (by decide +kernel) rfl (by first | decide | omega) ?_
        refine x_const (np := 154) (x := 9223372060477095941) (a := 2147483653) (by decide +kernel) (by decide) (by decide) ?_
        refine x_iadd (np := 155) (x := 0) (v := (2147483673 + 7 * u8)) (by decide +kernel) (by first | decide | omega) (by decide) (by first | decide | omega) (by first | decide | omega) ?_
        refine x_aload (np := 156) (x := 0) (by decide +kernel) rfl (x_nc_le (by decide)) ?_
        refine x_const (np := 157) (x := 9223372039002259456) (a := 2147483648) (by decide +kernel) (by decide) (by decide) ?_
        refine x_const (np := 160) (x := 9223376329674589159) (a := 2147484647) (by decide +kernel) (by decide) (by decide) ?_
        have m734 := Tq.fr m562 f568 (by decide) (by decide)
        refine x_cI (t := 6) (mj := 174) (n := 3) (rc := 12) (ml := 4) (nr := 2) (np := 163) (as := [x_r 75, iv_c 2147483648, iv_c 2147484647]) (rest := [iv_c (2147483673 + 7 * u8), x_r 75]) (lo1 := [x_r 75, iv_c 2147483648, iv_c 2147484647, 147573952589676412928]) (by decide +kernel) (by decide) (by decide +kernel) (x_rb_of (by decide +kernel)) rfl rfl (x_wr (by decide) (x_wi (by decide) (x_wi (by decide) x_wn))) (x_wi (by first | decide | omega) (x_wr (by decide) x_wn)) (by decide) rfl (c174_75 j567  (by first | decide | omega) (by first | decide | omega) m734) (fun v731 h735 l732 q733 => ?_)
        obtain ⟨j736, f737, b738, c739, c740, c741, c742, c743, c744⟩ := q733
        have f745 := Fr.trans f573 f737 (by decide)
        have b746 := jB (e := 7) 0 j736 rg_75_7_0_1 (by first | decide | omega) (by first | decide | omega)
        have b747 := c743 (by first | decide | omega)
        refine x_nI (t := 6) (mj := 176) (n := 3) (rc := 12) (ml := 3) (nr := 0) (np := 166) (as := [x_r 75, iv_c (2147483673 + 7 * u8), iv_c v731]) (rest := []) (lo1 := [x_r 75, iv_c (2147483673 + 7 * u8), iv_c v731]) (by decide +kernel) (by decide) (by decide +kernel) (x_rb_of (by decide +kernel)) rfl rfl (x_wr (by decide) (x_wi (by first | decide | omega) (x_wi l732 x_wn))) x_wn (by decide) rfl ?_
        refine x_aload (np := 1) (x := 0) (by decide +kernel) rfl (x_nc_le (by decide)) ?_
        have q748 : h735 75 3 = 78 := by have z := jB (e := 3) 0 j736 rg_75_3_0_1 (by decide) (by decide); omega
        refine x_getR (np := 4) (x := 707) (f := 3) (q := 78) (by decide +kernel) (by decide) (by decide +kernel) q748 ?_
        refine x_iload (np := 5) (x := 1) (by decide +kernel) rfl (by first | decide | omega) ?_
        refine x_iload (np := 6) (x := 2) (by decide +kernel) rfl l732 ?_
        refine x_ast (np := 7) (x := 0) (kd := 1) (n := 290) (i := (25 + 7 * u8)) (by decide +kernel) (Or.inl rfl) (by decide +kernel) (by first | decide | omega) (by first | decide | omega) (by decide) l732 (fun z => absurd z (by decide)) ?_
        have j750 := jU (e := (25 + 7 * u8)) (v := v731) u8 j736 rg_78_25_7_20 (by first | decide | omega) (by first | decide | omega) (by first | decide | omega)
        have f752 := jF (e := (25 + 7 * u8)) (v := v731) u8 f745 rg_78_25_7_20 (by first | decide | omega) (by first | decide | omega) (by decide)
        generalize e751 : x_up h735 78 (25 + 7 * u8) v731 = h749 at j750 f752 ⊢
        refine x_iload (np := 8) (x := 2) (by decide +kernel) rfl l732 ?_
        refine x_ifz (k := 2) (tg := 15) (np := 11) (by decide +kernel) (by decide) l732 (fun q753 => ?_) (fun q754 => ?_)
        · have q753 : v731 < 2147483648 := q753
          refine x_const (np := 16) (x := 9223372039002259456) (a := 2147483648) (by decide +kernel) (by decide) (by decide) ?_
          refine x_retI (np := 17) (x := 0) (by decide +kernel) (by decide) (Or.inr ⟨by decide +kernel, by first | decide | omega, by first | decide | omega⟩) ⟨_, rfl, (by decide), ?_⟩
          refine x_ifz (k := 1) (tg := 171) (np := 169) (by decide +kernel) (by decide) (by decide) (fun q755 => ?_) (fun q756 => ?_)
          · have q755 : 2147483648 ≠ 2147483648 := q755
            exfalso; omega
          have q756 : ¬ (2147483648 ≠ 2147483648) := q756
          refine x_const (np := 170) (x := 9223372039002259456) (a := 2147483648) (by decide +kernel) (by decide) (by decide) ?_
          have b757 := jB (e := 0) 0 hJ rg_78_0_0_1 (by first | decide | omega) (by first | decide | omega)
          have q758 : h749 78 0 = h735 78 0 := by rw [← e751]; exact x_up_i (by first | decide | omega)
          have q759 : h735 78 0 = h566 78 0 := jK 0 f737 rg_78_0_0_1 (by first | decide | omega) (by first | decide | omega) (by decide)
          have q760 : h566 78 0 = h555 78 0 := jK 0 f568 rg_78_0_0_1 (by first | decide | omega) (by first | decide | omega) (by decide)
          have q761 : h555 78 0 = h550 78 0 := by rw [← e557]; exact x_up_i (by first | decide | omega)
          have q762 : h550 78 0 = h545 78 0 := by rw [← e552]; exact x_up_i (by first | decide | omega)
          have q763 : h545 78 0 = h532 78 0 := by rw [← e547]; exact x_up_i (by first | decide | omega)
          have q764 : h532 78 0 = h434 78 0 := jK 0 f534 rg_78_0_0_1 (by first | decide | omega) (by first | decide | omega) (by decide)
          have q765 : h434 78 0 = h420 78 0 := by rw [← e436]; exact x_up_i (by first | decide | omega)
          have q766 : h420 78 0 = h337 78 0 := jK 0 f422 rg_78_0_0_1 (by first | decide | omega) (by first | decide | omega) (by decide)
          have q767 : h337 78 0 = h261 78 0 := jK 0 f339 rg_78_0_0_1 (by first | decide | omega) (by first | decide | omega) (by decide)
          have q768 : h261 78 0 = h247 78 0 := by rw [← e263]; exact x_up_i (by first | decide | omega)
          have q769 : h247 78 0 = h185 78 0 := jK 0 f249 rg_78_0_0_1 (by first | decide | omega) (by first | decide | omega) (by decide)
          have q770 : h185 78 0 = h130 78 0 := jK 0 f187 rg_78_0_0_1 (by first | decide | omega) (by first | decide | omega) (by decide)
          have q771 : h130 78 0 = h116 78 0 := by rw [← e132]; exact x_up_i (by first | decide | omega)
          have q772 : h116 78 0 = h68 78 0 := jK 0 f118 rg_78_0_0_1 (by first | decide | omega) (by first | decide | omega) (by decide)
          have q773 : h68 78 0 = h34 78 0 := jK 0 f70 rg_78_0_0_1 (by first | decide | omega) (by first | decide | omega) (by decide)
          have q774 : h34 78 0 = h19 78 0 := by rw [← e36]; exact x_up_i (by first | decide | omega)
          have q775 : h19 78 0 = h 78 0 := jK 0 f21 rg_78_0_0_1 (by first | decide | omega) (by first | decide | omega) (by decide)
          have q776 : h749 78 1 = h735 78 1 := by rw [← e751]; exact x_up_i (by first | decide | omega)
          have q777 : h735 78 1 = h566 78 1 := jK 0 f737 rg_78_1_0_1 (by first | decide | omega) (by first | decide | omega) (by decide)
          have q778 : h566 78 1 = h555 78 1 := jK 0 f568 rg_78_1_0_1 (by first | decide | omega) (by first | decide | omega) (by decide)
          have q779 : h555 78 1 = h550 78 1 := by rw [← e557]; exact x_up_i (by first | decide | omega)
          have q780 : h550 78 1 = h545 78 1 := by rw [← e552]; exact x_up_i (by first | decide | omega)
          have q781 : h545 78 1 = h532 78 1 := by rw [← e547]; exact x_up_i (by first | decide | omega)
          have q782 : h532 78 1 = h434 78 1 := jK 0 f534 rg_78_1_0_1 (by first | decide | omega) (by first | decide | omega) (by decide)
          have q783 : h434 78 1 = h420 78 1 := by rw [← e436]; exact x_up_i (by first | decide | omega)
          have q784 : h420 78 1 = h337 78 1 := jK 0 f422 rg_78_1_0_1 (by first | decide | omega) (by first | decide | omega) (by decide)
          have q785 : h337 78 1 = h261 78 1 := jK 0 f339 rg_78_1_0_1 (by first | decide | omega) (by first | decide | omega) (by decide)
          have q786 : h261 78 1 = h247 78 1 := by rw [← e263]; exact x_up_i (by first | decide | omega)
          have q787 : h247 78 1 = h185 78 1 := jK 0 f249 rg_78_1_0_1 (by first | decide | omega) (by first | decide | omega) (by decide)
          have q788 : h185 78 1 = h130 78 1 := jK 0 f187 rg_78_1_0_1 (by first | decide | omega) (by first | decide | omega) (by decide)
          have q789 : h130 78 1 = h116 78 1 := by rw [← e132]; exact x_up_i (by first | decide | omega)
          have q790 : h116 78 1 = h68 78 1 := jK 0 f118 rg_78_1_0_1 (by first | decide | omega) (by first | decide | omega) (by decide)
          have q791 : h68 78 1 = h34 78 1 := jK 0 f70 rg_78_1_0_1 (by first | decide | omega) (by first | decide | omega) (by decide)
          have q792 : h34 78 1 = h19 78 1 := by rw [← e36]; exact x_up_i (by first | decide | omega)
          have q793 : h19 78 1 = h 78 1 := jK 0 f21 rg_78_1_0_1 (by first | decide | omega) (by first | decide | omega) (by decide)
          have q794 : h749 78 2 = h735 78 2 := by rw [← e751]; exact x_up_i (by first | decide | omega)
          have q795 : h735 78 2 = h566 78 2 := jK 0 f737 rg_78_2_0_1 (by first | decide | omega) (by first | decide | omega) (by decide)
          have q796 : h566 78 2 = h555 78 2 := jK 0 f568 rg_78_2_0_1 (by first | decide | omega) (by first | decide | omega) (by decide)
          have q797 : h555 78 2 = h550 78 2 := by rw [← e557]; exact x_up_i (by first | decide | omega)
          have q798 : h550 78 2 = h545 78 2 := by rw [← e552]; exact x_up_i (by first | decide | omega)
          have q799 : h545 78 2 = h532 78 2 := by rw [← e547]; exact x_up_i (by first | decide | omega)
          have q800 : h532 78 2 = h434 78 2 := jK 0 f534 rg_78_2_0_1 (by first | decide | omega) (by first | decide | omega) (by decide)
          have q801 : h434 78 2 = h420 78 2 := by rw [← e436]; exact x_up_i (by first | decide | omega)
          have q802 : h420 78 2 = h337 78 2 := jK 0 f422 rg_78_2_0_1 (by first | decide | omega) (by first | decide | omega) (by decide)
          have q803 : h337 78 2 = h261 78 2 := jK 0 f339 rg_78_2_0_1 (by first | decide | omega) (by first | decide | omega) (by decide)
          have q804 : h261 78 2 = h247 78 2 := by rw [← e263]; exact x_up_i (by first | decide | omega)
          have q805 : h247 78 2 = h185 78 2 := jK 0 f249 rg_78_2_0_1 (by first | decide | omega) (by first | decide | omega) (by decide)
          have q806 : h185 78 2 = h130 78 2 := jK 0 f187 rg_78_2_0_1 (by first | decide | omega) (by first | decide | omega) (by decide)
          have q807 : h130 78 2 = h116 78 2 := by rw [← e132]; exact x_up_i (by first | decide | omega)
          have q808 : h116 78 2 = h68 78 2 := jK 0 f118 rg_78_2_0_1 (by first | decide | omega) (by first | decide | omega) (by decide)
          have q809 : h68 78 2 = h34 78 2 := jK 0 f70 rg_78_2_0_1 (by first | decide | omega) (by first | decide | omega) (by decide)
          have q810 : h34 78 2 = h19 78 2 := by rw [← e36]; exact x_up_i (by first | decide | omega)
          have q811 : h19 78 2 = h 78 2 := jK 0 f21 rg_78_2_0_1 (by first | decide | omega) (by first | decide | omega) (by decide)
          have b812 := jB (e := 3) 0 hJ rg_78_3_0_1 (by first | decide | omega) (by first | decide | omega)
          have q813 : h749 78 3 = h735 78 3 := by rw [← e751]; exact x_up_i (by first | decide | omega)
          have q814 : h735 78 3 = h566 78 3 := jK 0 f737 rg_78_3_0_1 (by first | decide | omega) (by first | decide | omega) (by decide)
          have q815 : h566 78 3 = h555 78 3 := jK 0 f568 rg_78_3_0_1 (by first | decide | omega) (by first | decide | omega) (by decide)
          have q816 : h555 78 3 = h550 78 3 := by rw [← e557]; exact x_up_i (by first | decide | omega)
          have q817 : h550 78 3 = h545 78 3 := by rw [← e552]; exact x_up_i (by first | decide | omega)
          have q818 : h545 78 3 = h532 78 3 := by rw [← e547]; exact x_up_i (by first | decide | omega)
          have q819 : h532 78 3 = h434 78 3 := jK 0 f534 rg_78_3_0_1 (by first | decide | omega) (by first | decide | omega) (by decide)
          have q820 : h434 78 3 = h420 78 3 := by rw [← e436]; exact x_up_i (by first | decide | omega)
          have q821 : h420 78 3 = h337 78 3 := jK 0 f422 rg_78_3_0_1 (by first | decide | omega) (by first | decide | omega) (by decide)
          have q822 : h337 78 3 = h261 78 3 := jK 0 f339 rg_78_3_0_1 (by first | decide | omega) (by first | decide | omega) (by decide)
          have q823 : h261 78 3 = h247 78 3 := by rw [← e263]; exact x_up_i (by first | decide | omega)
          have q824 : h247 78 3 = h185 78 3 := jK 0 f249 rg_78_3_0_1 (by first | decide | omega) (by first | decide | omega) (by decide)
          have q825 : h185 78 3 = h130 78 3 := jK 0 f187 rg_78_3_0_1 (by first | decide | omega) (by first | decide | omega) (by decide)
          have q826 : h130 78 3 = h116 78 3 := by rw [← e132]; exact x_up_i (by first | decide | omega)
          have q827 : h116 78 3 = h68 78 3 := jK 0 f118 rg_78_3_0_1 (by first | decide | omega) (by first | decide | omega) (by decide)
          have q828 : h68 78 3 = h34 78 3 := jK 0 f70 rg_78_3_0_1 (by first | decide | omega) (by first | decide | omega) (by decide)
          have q829 : h34 78 3 = h19 78 3 := by rw [← e36]; exact x_up_i (by first | decide | omega)
          have q830 : h19 78 3 = h 78 3 := jK 0 f21 rg_78_3_0_1 (by first | decide | omega) (by first | decide | omega) (by decide)
          have b831 := jB (e := 4) 0 hJ rg_78_4_0_1 (by first | decide | omega) (by first | decide | omega)
          have q832 : h749 78 4 = h735 78 4 := by rw [← e751]; exact x_up_i (by first | decide | omega)
          have q833 : h735 78 4 = h566 78 4 := jK 0 f737 rg_78_4_0_1 (by first | decide | omega) (by first | decide | omega) (by decide)
          have q834 : h566 78 4 = h555 78 4 := jK 0 f568 rg_78_4_0_1 (by first | decide | omega) (by first | decide | omega) (by decide)
          have q835 : h555 78 4 = h550 78 4 := by rw [← e557]; exact x_up_i (by first | decide | omega)
          have q836 : h550 78 4 = h545 78 4 := by rw [← e552]; exact x_up_i (by first | decide | omega)
          have q837 : h545 78 4 = h532 78 4 := by rw [← e547]; exact x_up_i (by first | decide | omega)
          have q838 : h532 78 4 = h434 78 4 := jK 0 f534 rg_78_4_0_1 (by first | decide | omega) (by first | decide | omega) (by decide)
          have q839 : h434 78 4 = h420 78 4 := by rw [← e436]; exact x_up_i (by first | decide | omega)
          have q840 : h420 78 4 = h337 78 4 := jK 0 f422 rg_78_4_0_1 (by first | decide | omega) (by first | decide | omega) (by decide)
          have q841 : h337 78 4 = h261 78 4 := jK 0 f339 rg_78_4_0_1 (by first | decide | omega) (by first | decide | omega) (by decide)
          have q842 : h261 78 4 = h247 78 4 := by rw [← e263]; exact x_up_i (by first | decide | omega)
          have q843 : h247 78 4 = h185 78 4 := jK 0 f249 rg_78_4_0_1 (by first | decide | omega) (by first | decide | omega) (by decide)
          have q844 : h185 78 4 = h130 78 4 := jK 0 f187 rg_78_4_0_1 (by first | decide | omega) (by first | decide | omega) (by decide)
          have q845 : h130 78 4 = h116 78 4 := by rw [← e132]; exact x_up_i (by first | decide | omega)
          have q846 : h116 78 4 = h68 78 4 := jK 0 f118 rg_78_4_0_1 (by first | decide | omega) (by first | decide | omega) (by decide)
          have q847 : h68 78 4 = h34 78 4 := jK 0 f70 rg_78_4_0_1 (by first | decide | omega) (by first | decide | omega) (by decide)
          have q848 : h34 78 4 = h19 78 4 := by rw [← e36]; exact x_up_i (by first | decide | omega)
          have q849 : h19 78 4 = h 78 4 := jK 0 f21 rg_78_4_0_1 (by first | decide | omega) (by first | decide | omega) (by decide)
          have b850 := jB (e := 5) 0 hJ rg_78_5_0_1 (by first | decide | omega) (by first | decide | omega)
          have q851 : h749 78 5 = h735 78 5 := by rw [← e751]; exact x_up_i (by first | decide | omega)
          have q852 : h735 78 5 = h566 78 5 := jK 0 f737 rg_78_5_0_1 (by first | decide | omega) (by first | decide | omega) (by decide)
          have q853 : h566 78 5 = h555 78 5 := jK 0 f568 rg_78_5_0_1 (by first | decide | omega) (by first | decide | omega) (by decide)
          have q854 : h555 78 5 = h550 78 5 := by rw [← e557]; exact x_up_i (by first | decide | omega)
          have q855 : h550 78 5 = h545 78 5 := by rw [← e552]; exact x_up_i (by first | decide | omega)
          have q856 : h545 78 5 = h532 78 5 := by rw [← e547]; exact x_up_i (by first | decide | omega)
          have q857 : h532 78 5 = h434 78 5 := jK 0 f534 rg_78_5_0_1 (by first | decide | omega) (by first | decide | omega) (by decide)
          have q858 : h434 78 5 = h420 78 5 := by rw [← e436]; exact x_up_i (by first | decide | omega)
          have q859 : h420 78 5 = h337 78 5 := jK 0 f422 rg_78_5_0_1 (by first | decide | omega) (by first | decide | omega) (by decide)
          have q860 : h337 78 5 = h261 78 5 := jK 0 f339 rg_78_5_0_1 (by first | decide | omega) (by first | decide | omega) (by decide)
          have q861 : h261 78 5 = h247 78 5 := by rw [← e263]; exact x_up_i (by first | decide | omega)
          have q862 : h247 78 5 = h185 78 5 := jK 0 f249 rg_78_5_0_1 (by first | decide | omega) (by first | decide | omega) (by decide)
          have q863 : h185 78 5 = h130 78 5 := jK 0 f187 rg_78_5_0_1 (by first | decide | omega) (by first | decide | omega) (by decide)
          have q864 : h130 78 5 = h116 78 5 := by rw [← e132]; exact x_up_i (by first | decide | omega)
          have q865 : h116 78 5 = h68 78 5 := jK 0 f118 rg_78_5_0_1 (by first | decide | omega) (by first | decide | omega) (by decide)
          have q866 : h68 78 5 = h34 78 5 := jK 0 f70 rg_78_5_0_1 (by first | decide | omega) (by first | decide | omega) (by decide)
          have q867 : h34 78 5 = h19 78 5 := by rw [← e36]; exact x_up_i (by first | decide | omega)
          have q868 : h19 78 5 = h 78 5 := jK 0 f21 rg_78_5_0_1 (by first | decide | omega) (by first | decide | omega) (by decide)
          have q869 : h34 75 7 = h19 75 7 := by rw [← e36]; exact x_up_k (by decide)
          obtain ⟨w870, e871⟩ := Tw.yes c74 (by first | decide | omega)
          have q872 : h130 75 7 = h116 75 7 := by rw [← e132]; exact x_up_k (by decide)
          obtain ⟨w873, e874⟩ := Tw.yes c191 (by first | decide | omega)
          have q875 : h261 75 7 = h247 75 7 := by rw [← e263]; exact x_up_k (by decide)
          obtain ⟨w876, e877⟩ := Tw.yes c343 (by first | decide | omega)
          have q878 : h434 75 7 = h420 75 7 := by rw [← e436]; exact x_up_k (by decide)
          obtain ⟨w879, e880⟩ := Tk.no c538 (by first | decide | omega)
          have q881 : h555 75 7 = h550 75 7 := by rw [← e557]; exact x_up_k (by decide)
          have q882 : h550 75 7 = h545 75 7 := by rw [← e552]; exact x_up_k (by decide)
          have q883 : h545 75 7 = h532 75 7 := by rw [← e547]; exact x_up_k (by decide)
          obtain ⟨w884, e885⟩ := Tk.yes c572 (by first | decide | omega)
          refine x_retI (np := 171) (x := 0) (by decide +kernel) (by decide) (Or.inr ⟨by decide +kernel, by first | decide | omega, by first | decide | omega⟩) ⟨_, rfl, (by decide), ?_⟩
          exact ⟨j750, f752, (by first | decide | omega), (fun z => by first | decide | omega), (fun z => by first | decide | omega), (fun z => by first | decide | omega), (fun z => by first | decide | omega), (fun z => by first | decide | omega), (fun z => by first | decide | omega), (fun z => absurd z (by first | decide | omega)), (Or.inr ⟨by first | decide | omega, (nm9.y c28 (by first | decide | omega) (by first | decide | omega) rfl (by first | decide | omega) rfl (wd9.y w870 (congrArg (sk tB tN) (show h34 75 7 = h19 75 7 by first | decide | omega)) e871 rfl (nm9.y c125 (by first | decide | omega) (by first | decide | omega) rfl (by first | decide | omega) rfl (wd9.y w873 (congrArg (sk tB tN) (show h130 75 7 = h116 75 7 by first | decide | omega)) e874 rfl (nm9.y c256 (by first | decide | omega) (by first | decide | omega) rfl (by first | decide | omega) rfl (wd9.y w876 (congrArg (sk tB tN) (show h261 75 7 = h247 75 7 by first | decide | omega)) e877 rfl (nm9.y c429 (by first | decide | omega) (by first | decide | omega) rfl (by first | decide | omega) rfl (or9.f w879 (congrArg (sk tB tN) (show h434 75 7 = h420 75 7 by first | decide | omega)) (Eq.trans e880 (congrArg (sk tB tN) (show h434 75 7 = h420 75 7 by first | decide | omega))) (or9.y w884 (congrArg (sk tB tN) (show h555 75 7 = h532 75 7 by first | decide | omega)) e885 rfl (nm9.f c744 (by first | decide | omega) (by first | decide | omega) rfl (by first | decide | omega) (by first | decide | omega)))))))))))⟩)⟩
        have q754 : ¬ (v731 < 2147483648) := q754
        have b886 := c740 (by first | decide | omega)
        have b887 := c741 (by first | decide | omega)
        have b888 := c742 (by first | decide | omega)
        refine x_const (np := 12) (x := 9223372043297226753) (a := 2147483649) (by decide +kernel) (by decide) (by decide) ?_
        refine x_goto (np := 15) (x := 16) (by decide +kernel) ?_
        refine x_retI (np := 17) (x := 0) (by decide +kernel) (by decide) (Or.inr ⟨by decide +kernel, by first | decide | omega, by first | decide | omega⟩) ⟨_, rfl, (by decide), ?_⟩
        refine x_ifz (k := 1) (tg := 171) (np := 169) (by decide +kernel) (by decide) (by decide) (fun q889 => ?_) (fun q890 => ?_)
        · have q889 : 2147483649 ≠ 2147483648 := q889
          refine x_aload (np := 172) (x := 0) (by decide +kernel) rfl (x_nc_le (by decide)) ?_
          have q891 : h749 75 3 = 78 := by have z := jB (e := 3) 0 j750 rg_75_3_0_1 (by decide) (by decide); omega
          refine x_getR (np := 175) (x := 707) (f := 3) (q := 78) (by decide +kernel) (by decide) (by decide +kernel) q891 ?_
          refine x_const (np := 176) (x := 9223372047592194050) (a := 2147483650) (by decide +kernel) (by decide) (by decide) ?_
          refine x_dup2 (np := 177) (x := 0) (by decide +kernel) (by have z := (iw_c_lt (a := 2147483650) (by decide)).1; omega) (by have z := x_nc_le (k := 78) (by decide); unfold x_r; omega) ?_
          have q892 : h749 78 2 = h735 78 2 := by rw [← e751]; exact x_up_i (by first | decide | omega)
          have q893 : h735 78 2 = h566 78 2 := jK 0 f737 rg_78_2_0_1 (by first | decide | omega) (by first | decide | omega) (by decide)
          have q894 : h566 78 2 = h555 78 2 := jK 0 f568 rg_78_2_0_1 (by first | decide | omega) (by first | decide | omega) (by decide)
          have q895 : h555 78 2 = h550 78 2 := by rw [← e557]; exact x_up_i (by first | decide | omega)
          have q896 : h550 78 2 = h545 78 2 := by rw [← e552]; exact x_up_i (by first | decide | omega)
          have q897 : h545 78 2 = h532 78 2 := by rw [← e547]; exact x_up_i (by first | decide | omega)
          have q898 : h532 78 2 = h434 78 2 := jK 0 f534 rg_78_2_0_1 (by first | decide | omega) (by first | decide | omega) (by decide)
          have q899 : h434 78 2 = h420 78 2 := by rw [← e436]; exact x_up_i (by first | decide | omega)
          have q900 : h420 78 2 = h337 78 2 := jK 0 f422 rg_78_2_0_1 (by first | decide | omega) (by first | decide | omega) (by decide)
          have q901 : h337 78 2 = h261 78 2 := jK 0 f339 rg_78_2_0_1 (by first | decide | omega) (by first | decide | omega) (by decide)
          have q902 : h261 78 2 = h247 78 2 := by rw [← e263]; exact x_up_i (by first | decide | omega)
          have q903 : h247 78 2 = h185 78 2 := jK 0 f249 rg_78_2_0_1 (by first | decide | omega) (by first | decide | omega) (by decide)
          have q904 : h185 78 2 = h130 78 2 := jK 0 f187 rg_78_2_0_1 (by first | decide | omega) (by first | decide | omega) (by decide)
          have q905 : h130 78 2 = h116 78 2 := by rw [← e132]; exact x_up_i (by first | decide | omega)
          have q906 : h116 78 2 = h68 78 2 := jK 0 f118 rg_78_2_0_1 (by first | decide | omega) (by first | decide | omega) (by decide)
          have q907 : h68 78 2 = h34 78 2 := jK 0 f70 rg_78_2_0_1 (by first | decide | omega) (by first | decide | omega) (by decide)
          have q908 : h34 78 2 = h19 78 2 := by rw [← e36]; exact x_up_i (by first | decide | omega)
          have q909 : h19 78 2 = h 78 2 := jK 0 f21 rg_78_2_0_1 (by first | decide | omega) (by first | decide | omega) (by decide)
          refine x_aldC (np := 178) (x := 0) (n := 290) (i := 2) (q := (h 78 2)) (by decide +kernel) (by decide +kernel) (by first | decide | omega) (by first | decide | omega) (by decide) (((((((((((((((((q892.trans q893).trans q894).trans q895).trans q896).trans q897).trans q898).trans q899).trans q900).trans q901).trans q902).trans q903).trans q904).trans q905).trans q906).trans q907).trans q908).trans q909) (fun l910 => ?_)
          refine x_const (np := 179) (x := 9223372043297226753) (a := 2147483649) (by decide +kernel) (by decide) (by decide) ?_
          refine x_iadd (np := 180) (x := 0) (v := (1 + (h 78 2))) (by decide +kernel) l3 (by decide) (by first | decide | omega) (by first | decide | omega) ?_
          refine x_ast (np := 181) (x := 0) (kd := 1) (n := 290) (i := 2) (by decide +kernel) (Or.inl rfl) (by decide +kernel) (by first | decide | omega) (by first | decide | omega) (by decide) (by first | decide | omega) (fun z => absurd z (by decide)) ?_
          have j912 := jU (e := 2) (v := (1 + (h 78 2))) 0 j750 rg_78_2_0_1 (by first | decide | omega) (by first | decide | omega) (by first | decide | omega)
          have f914 := jF (e := 2) (v := (1 + (h 78 2))) 0 f752 rg_78_2_0_1 (by first | decide | omega) (by first | decide | omega) (by decide)
          generalize e913 : x_up h749 78 2 (1 + (h 78 2)) = h911 at j912 f914 ⊢
          refine x_const (np := 182) (x := 9223372043297226753) (a := 2147483649) (by decide +kernel) (by decide) (by decide) ?_
          have b915 := jB (e := 0) 0 hJ rg_78_0_0_1 (by first | decide | omega) (by first | decide | omega)
          have q916 : h911 78 0 = h749 78 0 := by rw [← e913]; exact x_up_i (by first | decide | omega)
          have q917 : h749 78 0 = h735 78 0 := by rw [← e751]; exact x_up_i (by first | decide | omega)
          have q918 : h735 78 0 = h566 78 0 := jK 0 f737 rg_78_0_0_1 (by first | decide | omega) (by first | decide | omega) (by decide)
          have q919 : h566 78 0 = h555 78 0 := jK 0 f568 rg_78_0_0_1 (by first | decide | omega) (by first | decide | omega) (by decide)
          have q920 : h555 78 0 = h550 78 0 := by rw [← e557]; exact x_up_i (by first | decide | omega)
          have q921 : h550 78 0 = h545 78 0 := by rw [← e552]; exact x_up_i (by first | decide | omega)
          have q922 : h545 78 0 = h532 78 0 := by rw [← e547]; exact x_up_i (by first | decide | omega)
          have q923 : h532 78 0 = h434 78 0 := jK 0 f534 rg_78_0_0_1 (by first | decide | omega) (by first | decide | omega) (by decide)
          have q924 : h434 78 0 = h420 78 0 := by rw [← e436]; exact x_up_i (by first | decide | omega)
          have q925 : h420 78 0 = h337 78 0 := jK 0 f422 rg_78_0_0_1 (by first | decide | omega) (by first | decide | omega) (by decide)
          have q926 : h337 78 0 = h261 78 0 := jK 0 f339 rg_78_0_0_1 (by first | decide | omega) (by first | decide | omega) (by decide)
          have q927 : h261 78 0 = h247 78 0 := by rw [← e263]; exact x_up_i (by first | decide | omega)
          have q928 : h247 78 0 = h185 78 0 := jK 0 f249 rg_78_0_0_1 (by first | decide | omega) (by first | decide | omega) (by decide)
          have q929 : h185 78 0 = h130 78 0 := jK 0 f187 rg_78_0_0_1 (by first | decide | omega) (by first | decide | omega) (by decide)
          have q930 : h130 78 0 = h116 78 0 := by rw [← e132]; exact x_up_i (by first | decide | omega)
          have q931 : h116 78 0 = h68 78 0 := jK 0 f118 rg_78_0_0_1 (by first | decide | omega) (by first | decide | omega) (by decide)
          have q932 : h68 78 0 = h34 78 0 := jK 0 f70 rg_78_0_0_1 (by first | decide | omega) (by first | decide | omega) (by decide)
          have q933 : h34 78 0 = h19 78 0 := by rw [← e36]; exact x_up_i (by first | decide | omega)
          have q934 : h19 78 0 = h 78 0 := jK 0 f21 rg_78_0_0_1 (by first | decide | omega) (by first | decide | omega) (by decide)
          have q935 : h911 78 1 = h749 78 1 := by rw [← e913]; exact x_up_i (by first | decide | omega)
          have q936 : h749 78 1 = h735 78 1 := by rw [← e751]; exact x_up_i (by first | decide | omega)
          have q937 : h735 78 1 = h566 78 1 := jK 0 f737 rg_78_1_0_1 (by first | decide | omega) (by first | decide | omega) (by decide)
          have q938 : h566 78 1 = h555 78 1 := jK 0 f568 rg_78_1_0_1 (by first | decide | omega) (by first | decide | omega) (by decide)
          have q939 : h555 78 1 = h550 78 1 := by rw [← e557]; exact x_up_i (by first | decide | omega)
          have q940 : h550 78 1 = h545 78 1 := by rw [← e552]; exact x_up_i (by first | decide | omega)
          have q941 : h545 78 1 = h532 78 1 := by rw [← e547]; exact x_up_i (by first | decide | omega)
          have q942 : h532 78 1 = h434 78 1 := jK 0 f534 rg_78_1_0_1 (by first | decide | omega) (by first | decide | omega) (by decide)
          have q943 : h434 78 1 = h420 78 1 := by rw [← e436]; exact x_up_i (by first | decide | omega)
          have q944 : h420 78 1 = h337 78 1 := jK 0 f422 rg_78_1_0_1 (by first | decide | omega) (by first | decide | omega) (by decide)
          have q945 : h337 78 1 = h261 78 1 := jK 0 f339 rg_78_1_0_1 (by first | decide | omega) (by first | decide | omega) (by decide)
          have q946 : h261 78 1 = h247 78 1 := by rw [← e263]; exact x_up_i (by first | decide | omega)
          have q947 : h247 78 1 = h185 78 1 := jK 0 f249 rg_78_1_0_1 (by first | decide | omega) (by first | decide | omega) (by decide)
          have q948 : h185 78 1 = h130 78 1 := jK 0 f187 rg_78_1_0_1 (by first | decide | omega) (by first | decide | omega) (by decide)
          have q949 : h130 78 1 = h116 78 1 := by rw [← e132]; exact x_up_i (by first | decide | omega)
          have q950 : h116 78 1 = h68 78 1 := jK 0 f118 rg_78_1_0_1 (by first | decide | omega) (by first | decide | omega) (by decide)
          have q951 : h68 78 1 = h34 78 1 := jK 0 f70 rg_78_1_0_1 (by first | decide | omega) (by first | decide | omega) (by decide)
          have q952 : h34 78 1 = h19 78 1 := by rw [← e36]; exact x_up_i (by first | decide | omega)
          have q953 : h19 78 1 = h 78 1 := jK 0 f21 rg_78_1_0_1 (by first | decide | omega) (by first | decide | omega) (by decide)
          have q954 : h911 78 2 = (1 + (h 78 2)) := by rw [← e913]; exact x_up_at
          have b955 := jB (e := 3) 0 hJ rg_78_3_0_1 (by first | decide | omega) (by first | decide | omega)
          have q956 : h911 78 3 = h749 78 3 := by rw [← e913]; exact x_up_i (by first | decide | omega)
          have q957 : h749 78 3 = h735 78 3 := by rw [← e751]; exact x_up_i (by first | decide | omega)
          have q958 : h735 78 3 = h566 78 3 := jK 0 f737 rg_78_3_0_1 (by first | decide | omega) (by first | decide | omega) (by decide)
          have q959 : h566 78 3 = h555 78 3 := jK 0 f568 rg_78_3_0_1 (by first | decide | omega) (by first | decide | omega) (by decide)
          have q960 : h555 78 3 = h550 78 3 := by rw [← e557]; exact x_up_i (by first | decide | omega)
          have q961 : h550 78 3 = h545 78 3 := by rw [← e552]; exact x_up_i (by first | decide | omega)
          have q962 : h545 78 3 = h532 78 3 := by rw [← e547]; exact x_up_i (by first | decide | omega)
          have q963 : h532 78 3 = h434 78 3 := jK 0 f534 rg_78_3_0_1 (by first | decide | omega) (by first | decide | omega) (by decide)
          have q964 : h434 78 3 = h420 78 3 := by rw [← e436]; exact x_up_i (by first | decide | omega)
          have q965 : h420 78 3 = h337 78 3 := jK 0 f422 rg_78_3_0_1 (by first | decide | omega) (by first | decide | omega) (by decide)
          have q966 : h337 78 3 = h261 78 3 := jK 0 f339 rg_78_3_0_1 (by first | decide | omega) (by first | decide | omega) (by decide)
          have q967 : h261 78 3 = h247 78 3 := by rw [← e263]; exact x_up_i (by first | decide | omega)
          have q968 : h247 78 3 = h185 78 3 := jK 0 f249 rg_78_3_0_1 (by first | decide | omega) (by first | decide | omega) (by decide)
          have q969 : h185 78 3 = h130 78 3 := jK 0 f187 rg_78_3_0_1 (by first | decide | omega) (by first | decide | omega) (by decide)
          have q970 : h130 78 3 = h116 78 3 := by rw [← e132]; exact x_up_i (by first | decide | omega)
          have q971 : h116 78 3 = h68 78 3 := jK 0 f118 rg_78_3_0_1 (by first | decide | omega) (by first | decide | omega) (by decide)
          have q972 : h68 78 3 = h34 78 3 := jK 0 f70 rg_78_3_0_1 (by first | decide | omega) (by first | decide | omega) (by decide)
          have q973 : h34 78 3 = h19 78 3 := by rw [← e36]; exact x_up_i (by first | decide | omega)
          have q974 : h19 78 3 = h 78 3 := jK 0 f21 rg_78_3_0_1 (by first | decide | omega) (by first | decide | omega) (by decide)
          have b975 := jB (e := 4) 0 hJ rg_78_4_0_1 (by first | decide | omega) (by first | decide | omega)
          have q976 : h911 78 4 = h749 78 4 := by rw [← e913]; exact x_up_i (by first | decide | omega)
          have q977 : h749 78 4 = h735 78 4 := by rw [← e751]; exact x_up_i (by first | decide | omega)
          have q978 : h735 78 4 = h566 78 4 := jK 0 f737 rg_78_4_0_1 (by first | decide | omega) (by first | decide | omega) (by decide)
          have q979 : h566 78 4 = h555 78 4 := jK 0 f568 rg_78_4_0_1 (by first | decide | omega) (by first | decide | omega) (by decide)
          have q980 : h555 78 4 = h550 78 4 := by rw [← e557]; exact x_up_i (by first | decide | omega)
          have q981 : h550 78 4 = h545 78 4 := by rw [← e552]; exact x_up_i (by first | decide | omega)
          have q982 : h545 78 4 = h532 78 4 := by rw [← e547]; exact x_up_i (by first | decide | omega)
          have q983 : h532 78 4 = h434 78 4 := jK 0 f534 rg_78_4_0_1 (by first | decide | omega) (by first | decide | omega) (by decide)
          have q984 : h434 78 4 = h420 78 4 := by rw [← e436]; exact x_up_i (by first | decide | omega)
          have q985 : h420 78 4 = h337 78 4 := jK 0 f422 rg_78_4_0_1 (by first | decide | omega) (by first | decide | omega) (by decide)
          have q986 : h337 78 4 = h261 78 4 := jK 0 f339 rg_78_4_0_1 (by first | decide | omega) (by first | decide | omega) (by decide)
          have q987 : h261 78 4 = h247 78 4 := by rw [← e263]; exact x_up_i (by first | decide | omega)
          have q988 : h247 78 4 = h185 78 4 := jK 0 f249 rg_78_4_0_1 (by first | decide | omega) (by first | decide | omega) (by decide)
          have q989 : h185 78 4 = h130 78 4 := jK 0 f187 rg_78_4_0_1 (by first | decide | omega) (by first | decide | omega) (by decide)
          have q990 : h130 78 4 = h116 78 4 := by rw [← e132]; exact x_up_i (by first | decide | omega)
          have q991 : h116 78 4 = h68 78 4 := jK 0 f118 rg_78_4_0_1 (by first | decide | omega) (by first | decide | omega) (by decide)
          have q992 : h68 78 4 = h34 78 4 := jK 0 f70 rg_78_4_0_1 (by first | decide | omega) (by first | decide | omega) (by decide)
          have q993 : h34 78 4 = h19 78 4 := by rw [← e36]; exact x_up_i (by first | decide | omega)
          have q994 : h19 78 4 = h 78 4 := jK 0 f21 rg_78_4_0_1 (by first | decide | omega) (by first | decide | omega) (by decide)
          have b995 := jB (e := 5) 0 hJ rg_78_5_0_1 (by first | decide | omega) (by first | decide | omega)
          have q996 : h911 78 5 = h749 78 5 := by rw [← e913]; exact x_up_i (by first | decide | omega)
          have q997 : h749 78 5 = h735 78 5 := by rw [← e751]; exact x_up_i (by first | decide | omega)
          have q998 : h735 78 5 = h566 78 5 := jK 0 f737 rg_78_5_0_1 (by first | decide | omega) (by first | decide | omega) (by decide)
          have q999 : h566 78 5 = h555 78 5 := jK 0 f568 rg_78_5_0_1 (by first | decide | omega) (by first | decide | omega) (by decide)
          have q1000 : h555 78 5 = h550 78 5 := by rw [← e557]; exact x_up_i (by first | decide | omega)
          have q1001 : h550 78 5 = h545 78 5 := by rw [← e552]; exact x_up_i (by first | decide | omega)
          have q1002 : h545 78 5 = h532 78 5 := by rw [← e547]; exact x_up_i (by first | decide | omega)
          have q1003 : h532 78 5 = h434 78 5 := jK 0 f534 rg_78_5_0_1 (by first | decide | omega) (by first | decide | omega) (by decide)
          have q1004 : h434 78 5 = h420 78 5 := by rw [← e436]; exact x_up_i (by first | decide | omega)
          have q1005 : h420 78 5 = h337 78 5 := jK 0 f422 rg_78_5_0_1 (by first | decide | omega) (by first | decide | omega) (by decide)
          have q1006 : h337 78 5 = h261 78 5 := jK 0 f339 rg_78_5_0_1 (by first | decide | omega) (by first | decide | omega) (by decide)
          have q1007 : h261 78 5 = h247 78 5 := by rw [← e263]; exact x_up_i (by first | decide | omega)
          have q1008 : h247 78 5 = h185 78 5 := jK 0 f249 rg_78_5_0_1 (by first | decide | omega) (by first | decide | omega) (by decide)
          have q1009 : h185 78 5 = h130 78 5 := jK 0 f187 rg_78_5_0_1 (by first | decide | omega) (by first | decide | omega) (by decide)
          have q1010 : h130 78 5 = h116 78 5 := by rw [← e132]; exact x_up_i (by first | decide | omega)
          have q1011 : h116 78 5 = h68 78 5 := jK 0 f118 rg_78_5_0_1 (by first | decide | omega) (by first | decide | omega) (by decide)
          have q1012 : h68 78 5 = h34 78 5 := jK 0 f70 rg_78_5_0_1 (by first | decide | omega) (by first | decide | omega) (by decide)
          have q1013 : h34 78 5 = h19 78 5 := by rw [← e36]; exact x_up_i (by first | decide | omega)
          have q1014 : h19 78 5 = h 78 5 := jK 0 f21 rg_78_5_0_1 (by first | decide | omega) (by first | decide | omega) (by decide)
          have m1033 := Cl.fr hC f21 (by decide)
          have m1032 : Cl h34 := by rw [← e36]; exact Cl.upR (e := (20 + 7 * u8)) (v := v16) u8 m1033 rg_76_20_7_20 (by first | decide | omega) (by first | decide | omega) (by first | decide | omega)
          have m1031 := Cl.fr m1032 f70 (by decide)
          have m1030 := Cl.fr m1031 f118 (by decide)
          have m1029 : Cl h130 := by rw [← e132]; exact Cl.upR (e := (21 + 7 * u8)) (v := v112) u8 m1030 rg_76_21_7_20 (by first | decide | omega) (by first | decide | omega) (by first | decide | omega)
          have m1028 := Cl.fr m1029 f187 (by decide)
          have m1027 := Cl.fr m1028 f249 (by decide)
          have m1026 : Cl h261 := by rw [← e263]; exact Cl.upR (e := (22 + 7 * u8)) (v := v243) u8 m1027 rg_76_22_7_20 (by first | decide | omega) (by first | decide | omega) (by first | decide | omega)
          have m1025 := Cl.fr m1026 f339 (by decide)
          have m1024 := Cl.fr m1025 f422 (by decide)
          have m1023 : Cl h434 := by rw [← e436]; exact Cl.upR (e := (23 + 7 * u8)) (v := v416) u8 m1024 rg_76_23_7_20 (by first | decide | omega) (by first | decide | omega) (by first | decide | omega)
          have m1022 := Cl.fr m1023 f534 (by decide)
          have m1021 : Cl h545 := by rw [← e547]; exact Cl.upR (e := (24 + 7 * u8)) (v := 2147483648) u8 m1022 rg_76_24_7_20 (by first | decide | omega) (by first | decide | omega) (by first | decide | omega)
          have m1020 : Cl h550 := by rw [← e552]; exact Cl.upR (e := (25 + 7 * u8)) (v := 2147483648) u8 m1021 rg_76_25_7_20 (by first | decide | omega) (by first | decide | omega) (by first | decide | omega)
          have m1019 : Cl h555 := by rw [← e557]; exact Cl.upR (e := (26 + 7 * u8)) (v := 2147483648) u8 m1020 rg_76_26_7_20 (by first | decide | omega) (by first | decide | omega) (by first | decide | omega)
          have m1018 := Cl.fr m1019 f568 (by decide)
          have m1017 := Cl.fr m1018 f737 (by decide)
          have m1016 : Cl h749 := by rw [← e751]; exact Cl.upR (e := (25 + 7 * u8)) (v := v731) u8 m1017 rg_76_25_7_20 (by first | decide | omega) (by first | decide | omega) (by first | decide | omega)
          have m1015 : Cl h911 := by rw [← e913]; exact Cl.upR (e := 2) (v := (1 + (h 78 2))) 0 m1016 rg_76_2_0_1 (by first | decide | omega) (by first | decide | omega) (by first | decide | omega)
          have q1034 : h34 75 7 = h19 75 7 := by rw [← e36]; exact x_up_k (by decide)
          obtain ⟨w1035, e1036⟩ := Tw.yes c74 (by first | decide | omega)
          have q1037 : h130 75 7 = h116 75 7 := by rw [← e132]; exact x_up_k (by decide)
          obtain ⟨w1038, e1039⟩ := Tw.yes c191 (by first | decide | omega)
          have q1040 : h261 75 7 = h247 75 7 := by rw [← e263]; exact x_up_k (by decide)
          obtain ⟨w1041, e1042⟩ := Tw.yes c343 (by first | decide | omega)
          have q1043 : h434 75 7 = h420 75 7 := by rw [← e436]; exact x_up_k (by decide)
          obtain ⟨w1044, e1045⟩ := Tk.no c538 (by first | decide | omega)
          have q1046 : h555 75 7 = h550 75 7 := by rw [← e557]; exact x_up_k (by decide)
          have q1047 : h550 75 7 = h545 75 7 := by rw [← e552]; exact x_up_k (by decide)
          have q1048 : h545 75 7 = h532 75 7 := by rw [← e547]; exact x_up_k (by decide)
          obtain ⟨w1049, e1050⟩ := Tk.yes c572 (by first | decide | omega)
          have q1051 : h911 75 7 = h749 75 7 := by rw [← e913]; exact x_up_k (by decide)
          have q1052 : h749 75 7 = h735 75 7 := by rw [← e751]; exact x_up_k (by decide)
          refine x_retI (np := 183) (x := 0) (by decide +kernel) (by decide) (Or.inr ⟨by decide +kernel, by first | decide | omega, by first | decide | omega⟩) ⟨_, rfl, (by decide), ?_⟩
          exact ⟨j912, f914, (by first | decide | omega), (fun z => by first | decide | omega), (fun z => by first | decide | omega), (fun z => by first | decide | omega), (fun z => by first | decide | omega), (fun z => by first | decide | omega), (fun z => by first | decide | omega), (fun _ => m1015), (Or.inr ⟨by first | decide | omega, (nm9.y c28 (by first | decide | omega) (by first | decide | omega) rfl (by first | decide | omega) rfl (wd9.y w1035 (congrArg (sk tB tN) (show h34 75 7 = h19 75 7 by first | decide | omega)) e1036 rfl (nm9.y c125 (by first | decide | omega) (by first | decide | omega) rfl (by first | decide | omega) rfl (wd9.y w1038 (congrArg (sk tB tN) (show h130 75 7 = h116 75 7 by first | decide | omega)) e1039 rfl (nm9.y c256 (by first | decide | omega) (by first | decide | omega) rfl (by first | decide | omega) rfl (wd9.y w1041 (congrArg (sk tB tN) (show h261 75 7 = h247 75 7 by first | decide | omega)) e1042 rfl (nm9.y c429 (by first | decide | omega) (by first | decide | omega) rfl (by first | decide | omega) rfl (or9.f w1044 (congrArg (sk tB tN) (show h434 75 7 = h420 75 7 by first | decide | omega)) (Eq.trans e1045 (congrArg (sk tB tN) (show h434 75 7 = h420 75 7 by first | decide | omega))) (or9.y w1049 (congrArg (sk tB tN) (show h555 75 7 = h532 75 7 by first | decide | omega)) e1050 rfl (nm9.y c744 (by first | decide | omega) (by first | decide | omega) rfl (by first | decide | omega) rfl (fin9.mk (by first | decide | omega) (congrArg (sk tB tN) (show h735 75 7 = h911 75 7 by first | decide | omega)))))))))))))⟩)⟩
        have q890 : ¬ (2147483649 ≠ 2147483648) := q890
        exfalso; omega
      have q544 : ¬ (v527 = 2147483648) := q544
      have b1053 := c537 (by first | decide | omega)
      refine x_const (np := 118) (x := 9223372043297226753) (a := 2147483649) (by decide +kernel) (by decide) (by decide) ?_
      refine x_goto (np := 121) (x := 122) (by decide +kernel) ?_
      refine x_ast (np := 123) (x := 0) (kd := 1) (n := 290) (i := (24 + 7 * u8)) (by decide +kernel) (Or.inl rfl) (by decide +kernel) (by first | decide | omega) (by first | decide | omega) (by decide) (by decide) (fun z => absurd z (by decide)) ?_
      have j1055 := jU (e := (24 + 7 * u8)) (v := 2147483649) u8 j533 rg_78_24_7_20 (by first | decide | omega) (by first | decide | omega) (by first | decide | omega)
      have f1057 := jF (e := (24 + 7 * u8)) (v := 2147483649) u8 f539 rg_78_24_7_20 (by first | decide | omega) (by first | decide | omega) (by decide)
      generalize e1056 : x_up h532 78 (24 + 7 * u8) 2147483649 = h1054 at j1055 f1057 ⊢
      refine x_aload (np := 124) (x := 0) (by decide +kernel) rfl (x_nc_le (by decide)) ?_
      have q1058 : h1054 75 3 = 78 := by have z := jB (e := 3) 0 j1055 rg_75_3_0_1 (by decide) (by decide); omega
      refine x_getR (np := 127) (x := 707) (f := 3) (q := 78) (by decide +kernel) (by decide) (by decide +kernel) q1058 ?_
      refine x_iload (np := 128) (x := 1) (by decide +kernel) rfl (by first | decide | omega) ?_
      refine x_const (np := 129) (x := 9223372060477095941) (a := 2147483653) (by decide +kernel) (by decide) (by decide) ?_
      refine x_iadd (np := 130) (x := 0) (v := (2147483673 + 7 * u8)) (by decide +kernel) (by first | decide | omega) (by decide) (by first | decide | omega) (by first | decide | omega) ?_
      refine x_const (np := 131) (x := 9223372039002259456) (a := 2147483648) (by decide +kernel) (by decide) (by decide) ?_
      refine x_ast (np := 132) (x := 0) (kd := 1) (n := 290) (i := (25 + 7 * u8)) (by decide +kernel) (Or.inl rfl) (by decide +kernel) (by first | decide | omega) (by first | decide | omega) (by decide) (by decide) (fun z => absurd z (by decide)) ?_
      have j1060 := jU (e := (25 + 7 * u8)) (v := 2147483648) u8 j1055 rg_78_25_7_20 (by first | decide | omega) (by first | decide | omega) (by first | decide | omega)
      have f1062 := jF (e := (25 + 7 * u8)) (v := 2147483648) u8 f1057 rg_78_25_7_20 (by first | decide | omega) (by first | decide | omega) (by decide)
      generalize e1061 : x_up h1054 78 (25 + 7 * u8) 2147483648 = h1059 at j1060 f1062 ⊢
      refine x_aload (np := 133) (x := 0) (by decide +kernel) rfl (x_nc_le (by decide)) ?_
      have q1063 : h1059 75 3 = 78 := by have z := jB (e := 3) 0 j1060 rg_75_3_0_1 (by decide) (by decide); omega
      refine x_getR (np := 136) (x := 707) (f := 3) (q := 78) (by decide +kernel) (by decide) (by decide +kernel) q1063 ?_
      refine x_iload (np := 137) (x := 1) (by decide +kernel) rfl (by first | decide | omega) ?_
      refine x_const (np := 139) (x := 9223372064772063238) (a := 2147483654) (by decide +kernel) (by decide) (by decide) ?_
      refine x_iadd (np := 140) (x := 0) (v := (2147483674 + 7 * u8)) (by decide +kernel) (by first | decide | omega) (by decide) (by first | decide | omega) (by first | decide | omega) ?_
      refine x_const (np := 141) (x := 9223372039002259456) (a := 2147483648) (by decide +kernel) (by decide) (by decide) ?_
      refine x_ast (np := 142) (x := 0) (kd := 1) (n := 290) (i := (26 + 7 * u8)) (by decide +kernel) (Or.inl rfl) (by decide +kernel) (by first | decide | omega) (by first | decide | omega) (by decide) (by decide) (fun z => absurd z (by decide)) ?_
      have j1065 := jU (e := (26 + 7 * u8)) (v := 2147483648) u8 j1060 rg_78_26_7_20 (by first | decide | omega) (by first | decide | omega) (by first | decide | omega)
      have f1067 := jF (e := (26 + 7 * u8)) (v := 2147483648) u8 f1062 rg_78_26_7_20 (by first | decide | omega) (by first | decide | omega) (by decide)
      generalize e1066 : x_up h1059 78 (26 + 7 * u8) 2147483648 = h1064 at j1065 f1067 ⊢
      refine x_aload (np := 143) (x := 0) (by decide +kernel) rfl (x_nc_le (by decide)) ?_
      refine x_ldcB (i := 5) (idx := 158) (tx := "pledge") (by rw [tb_y179]; exact List.mem_of_getElem? (i := 40) rfl) (by decide) (by rw [tb_b179]; decide +kernel) ?_
      have m1074 := Tq.fr m530 f534 (by decide) (by decide)
      have m1073 : Tq tB tN h1054 := by rw [← e1056]; exact Tq.oth m1074 (by decide) (fun z => absurd z.1 (by decide))
      have m1072 : Tq tB tN h1059 := by rw [← e1061]; exact Tq.oth m1073 (by decide) (fun z => absurd z.1 (by decide))
      have m1071 : Tq tB tN h1064 := by rw [← e1066]; exact Tq.oth m1072 (by decide) (fun z => absurd z.1 (by decide))
      refine x_cI (t := 6) (mj := 171) (n := 2) (rc := 12) (ml := 2) (nr := 0) (np := 148) (as := [x_r 75, x_b (5 + 1)]) (rest := []) (lo1 := [x_r 75, x_b (5 + 1)]) (by decide +kernel) (by decide) (by decide +kernel) (x_rb_of (by decide +kernel)) rfl rfl (x_wr (by decide) (x_wB (by decide) x_wn)) x_wn (by decide) rfl (c171_75_S0 j1065  (by decide) m1071) (fun v1068 h1075 l1069 q1070 => ?_)
      obtain ⟨j1076, f1077, b1078, c1079, c1080, c1081⟩ := q1070
      have f1082 := Fr.trans f1067 f1077 (by decide)
      have q1083 : h1064 75 7 = h1059 75 7 := by rw [← e1066]; exact x_up_k (by decide)
      have q1084 : h1059 75 7 = h1054 75 7 := by rw [← e1061]; exact x_up_k (by decide)
      have q1085 : h1054 75 7 = h532 75 7 := by rw [← e1056]; exact x_up_k (by decide)
      have b1086 := jB (e := 7) 0 j1076 rg_75_7_0_1 (by first | decide | omega) (by first | decide | omega)
      have q1087 : h1064 75 7 = h1059 75 7 := by rw [← e1066]; exact x_up_k (by decide)
      have q1088 : h1059 75 7 = h1054 75 7 := by rw [← e1061]; exact x_up_k (by decide)
      have q1089 : h1054 75 7 = h532 75 7 := by rw [← e1056]; exact x_up_k (by decide)
      refine x_ifz (k := 0) (tg := 171) (np := 151) (by decide +kernel) (by decide) l1069 (fun q1090 => ?_) (fun q1091 => ?_)
      · have q1090 : v1068 = 2147483648 := q1090
        refine x_aload (np := 172) (x := 0) (by decide +kernel) rfl (x_nc_le (by decide)) ?_
        have q1092 : h1075 75 3 = 78 := by have z := jB (e := 3) 0 j1076 rg_75_3_0_1 (by decide) (by decide); omega
        refine x_getR (np := 175) (x := 707) (f := 3) (q := 78) (by decide +kernel) (by decide) (by decide +kernel) q1092 ?_
        refine x_const (np := 176) (x := 9223372047592194050) (a := 2147483650) (by decide +kernel) (by decide) (by decide) ?_
        refine x_dup2 (np := 177) (x := 0) (by decide +kernel) (by have z := (iw_c_lt (a := 2147483650) (by decide)).1; omega) (by have z := x_nc_le (k := 78) (by decide); unfold x_r; omega) ?_
        have q1093 : h1075 78 2 = h1064 78 2 := jK 0 f1077 rg_78_2_0_1 (by first | decide | omega) (by first | decide | omega) (by decide)
        have q1094 : h1064 78 2 = h1059 78 2 := by rw [← e1066]; exact x_up_i (by first | decide | omega)
        have q1095 : h1059 78 2 = h1054 78 2 := by rw [← e1061]; exact x_up_i (by first | decide | omega)
        have q1096 : h1054 78 2 = h532 78 2 := by rw [← e1056]; exact x_up_i (by first | decide | omega)
        have q1097 : h532 78 2 = h434 78 2 := jK 0 f534 rg_78_2_0_1 (by first | decide | omega) (by first | decide | omega) (by decide)
        have q1098 : h434 78 2 = h420 78 2 := by rw [← e436]; exact x_up_i (by first | decide | omega)
        have q1099 : h420 78 2 = h337 78 2 := jK 0 f422 rg_78_2_0_1 (by first | decide | omega) (by first | decide | omega) (by decide)
        have q1100 : h337 78 2 = h261 78 2 := jK 0 f339 rg_78_2_0_1 (by first | decide | omega) (by first | decide | omega) (by decide)
        have q1101 : h261 78 2 = h247 78 2 := by rw [← e263]; exact x_up_i (by first | decide | omega)
        have q1102 : h247 78 2 = h185 78 2 := jK 0 f249 rg_78_2_0_1 (by first | decide | omega) (by first | decide | omega) (by decide)
        have q1103 : h185 78 2 = h130 78 2 := jK 0 f187 rg_78_2_0_1 (by first | decide | omega) (by first | decide | omega) (by decide)
        have q1104 : h130 78 2 = h116 78 2 := by rw [← e132]; exact x_up_i (by first | decide | omega)
        have q1105 : h116 78 2 = h68 78 2 := jK 0 f118 rg_78_2_0_1 (by first | decide | omega) (by first | decide | omega) (by decide)
        have q1106 : h68 78 2 = h34 78 2 := jK 0 f70 rg_78_2_0_1 (by first | decide | omega) (by first | decide | omega) (by decide)
        have q1107 : h34 78 2 = h19 78 2 := by rw [← e36]; exact x_up_i (by first | decide | omega)
        have q1108 : h19 78 2 = h 78 2 := jK 0 f21 rg_78_2_0_1 (by first | decide | omega) (by first | decide | omega) (by decide)
        refine x_aldC (np := 178) (x := 0) (n := 290) (i := 2) (q := (h 78 2)) (by decide +kernel) (by decide +kernel) (by first | decide | omega) (by first | decide | omega) (by decide) (((((((((((((((q1093.trans q1094).trans q1095).trans q1096).trans q1097).trans q1098).trans q1099).trans q1100).trans q1101).trans q1102).trans q1103).trans q1104).trans q1105).trans q1106).trans q1107).trans q1108) (fun l1109 => ?_)
        refine x_const (np := 179) (x := 9223372043297226753) (a := 2147483649) (by decide +kernel) (by decide) (by decide) ?_
        refine x_iadd (np := 180) (x := 0) (v := (1 + (h 78 2))) (by decide +kernel) l3 (by decide) (by first | decide | omega) (by first | decide | omega) ?_
        refine x_ast (np := 181) (x := 0) (kd := 1) (n := 290) (i := 2) (by decide +kernel) (Or.inl rfl) (by decide +kernel) (by first | decide | omega) (by first | decide | omega) (by decide) (by first | decide | omega) (fun z => absurd z (by decide)) ?_
        have j1111 := jU (e := 2) (v := (1 + (h 78 2))) 0 j1076 rg_78_2_0_1 (by first | decide | omega) (by first | decide | omega) (by first | decide | omega)
        have f1113 := jF (e := 2) (v := (1 + (h 78 2))) 0 f1082 rg_78_2_0_1 (by first | decide | omega) (by first | decide | omega) (by decide)
        generalize e1112 : x_up h1075 78 2 (1 + (h 78 2)) = h1110 at j1111 f1113 ⊢
        refine x_const (np := 182) (x := 9223372043297226753) (a := 2147483649) (by decide +kernel) (by decide) (by decide) ?_
        have b1114 := jB (e := 0) 0 hJ rg_78_0_0_1 (by first | decide | omega) (by first | decide | omega)
        have q1115 : h1110 78 0 = h1075 78 0 := by rw [← e1112]; exact x_up_i (by first | decide | omega)
        have q1116 : h1075 78 0 = h1064 78 0 := jK 0 f1077 rg_78_0_0_1 (by first | decide | omega) (by first | decide | omega) (by decide)
        have q1117 : h1064 78 0 = h1059 78 0 := by rw [← e1066]; exact x_up_i (by first | decide | omega)
        have q1118 : h1059 78 0 = h1054 78 0 := by rw [← e1061]; exact x_up_i (by first | decide | omega)
        have q1119 : h1054 78 0 = h532 78 0 := by rw [← e1056]; exact x_up_i (by first | decide | omega)
        have q1120 : h532 78 0 = h434 78 0 := jK 0 f534 rg_78_0_0_1 (by first | decide | omega) (by first | decide | omega) (by decide)
        have q1121 : h434 78 0 = h420 78 0 := by rw [← e436]; exact x_up_i (by first | decide | omega)
        have q1122 : h420 78 0 = h337 78 0 := jK 0 f422 rg_78_0_0_1 (by first | decide | omega) (by first | decide | omega) (by decide)
        have q1123 : h337 78 0 = h261 78 0 := jK 0 f339 rg_78_0_0_1 (by first | decide | omega) (by first | decide | omega) (by decide)
        have q1124 : h261 78 0 = h247 78 0 := by rw [← e263]; exact x_up_i (by first | decide | omega)
        have q1125 : h247 78 0 = h185 78 0 := jK 0 f249 rg_78_0_0_1 (by first | decide | omega) (by first | decide | omega) (by decide)
        have q1126 : h185 78 0 = h130 78 0 := jK 0 f187 rg_78_0_0_1 (by first | decide | omega) (by first | decide | omega) (by decide)
        have q1127 : h130 78 0 = h116 78 0 := by rw [← e132]; exact x_up_i (by first | decide | omega)
        have q1128 : h116 78 0 = h68 78 0 := jK 0 f118 rg_78_0_0_1 (by first | decide | omega) (by first | decide | omega) (by decide)
        have q1129 : h68 78 0 = h34 78 0 := jK 0 f70 rg_78_0_0_1 (by first | decide | omega) (by first | decide | omega) (by decide)
        have q1130 : h34 78 0 = h19 78 0 := by rw [← e36]; exact x_up_i (by first | decide | omega)
        have q1131 : h19 78 0 = h 78 0 := jK 0 f21 rg_78_0_0_1 (by first | decide | omega) (by first | decide | omega) (by decide)
        have q1132 : h1110 78 1 = h1075 78 1 := by rw [← e1112]; exact x_up_i (by first | decide | omega)
        have q1133 : h1075 78 1 = h1064 78 1 := jK 0 f1077 rg_78_1_0_1 (by first | decide | omega) (by first | decide | omega) (by decide)
        have q1134 : h1064 78 1 = h1059 78 1 := by rw [← e1066]; exact x_up_i (by first | decide | omega)
        have q1135 : h1059 78 1 = h1054 78 1 := by rw [← e1061]; exact x_up_i (by first | decide | omega)
        have q1136 : h1054 78 1 = h532 78 1 := by rw [← e1056]; exact x_up_i (by first | decide | omega)
        have q1137 : h532 78 1 = h434 78 1 := jK 0 f534 rg_78_1_0_1 (by first | decide | omega) (by first | decide | omega) (by decide)
        have q1138 : h434 78 1 = h420 78 1 := by rw [← e436]; exact x_up_i (by first | decide | omega)
        have q1139 : h420 78 1 = h337 78 1 := jK 0 f422 rg_78_1_0_1 (by first | decide | omega) (by first | decide | omega) (by decide)
        have q1140 : h337 78 1 = h261 78 1 := jK 0 f339 rg_78_1_0_1 (by first | decide | omega) (by first | decide | omega) (by decide)
        have q1141 : h261 78 1 = h247 78 1 := by rw [← e263]; exact x_up_i (by first | decide | omega)
        have q1142 : h247 78 1 = h185 78 1 := jK 0 f249 rg_78_1_0_1 (by first | decide | omega) (by first | decide | omega) (by decide)
        have q1143 : h185 78 1 = h130 78 1 := jK 0 f187 rg_78_1_0_1 (by first | decide | omega) (by first | decide | omega) (by decide)
        have q1144 : h130 78 1 = h116 78 1 := by rw [← e132]; exact x_up_i (by first | decide | omega)
        have q1145 : h116 78 1 = h68 78 1 := jK 0 f118 rg_78_1_0_1 (by first | decide | omega) (by first | decide | omega) (by decide)
        have q1146 : h68 78 1 = h34 78 1 := jK 0 f70 rg_78_1_0_1 (by first | decide | omega) (by first | decide | omega) (by decide)
        have q1147 : h34 78 1 = h19 78 1 := by rw [← e36]; exact x_up_i (by first | decide | omega)
        have q1148 : h19 78 1 = h 78 1 := jK 0 f21 rg_78_1_0_1 (by first | decide | omega) (by first | decide | omega) (by decide)
        have q1149 : h1110 78 2 = (1 + (h 78 2)) := by rw [← e1112]; exact x_up_at
        have b1150 := jB (e := 3) 0 hJ rg_78_3_0_1 (by first | decide | omega) (by first | decide | omega)
        have q1151 : h1110 78 3 = h1075 78 3 := by rw [← e1112]; exact x_up_i (by first | decide | omega)
        have q1152 : h1075 78 3 = h1064 78 3 := jK 0 f1077 rg_78_3_0_1 (by first | decide | omega) (by first | decide | omega) (by decide)
        have q1153 : h1064 78 3 = h1059 78 3 := by rw [← e1066]; exact x_up_i (by first | decide | omega)
        have q1154 : h1059 78 3 = h1054 78 3 := by rw [← e1061]; exact x_up_i (by first | decide | omega)
        have q1155 : h1054 78 3 = h532 78 3 := by rw [← e1056]; exact x_up_i (by first | decide | omega)
        have q1156 : h532 78 3 = h434 78 3 := jK 0 f534 rg_78_3_0_1 (by first | decide | omega) (by first | decide | omega) (by decide)
        have q1157 : h434 78 3 = h420 78 3 := by rw [← e436]; exact x_up_i (by first | decide | omega)
        have q1158 : h420 78 3 = h337 78 3 := jK 0 f422 rg_78_3_0_1 (by first | decide | omega) (by first | decide | omega) (by decide)
        have q1159 : h337 78 3 = h261 78 3 := jK 0 f339 rg_78_3_0_1 (by first | decide | omega) (by first | decide | omega) (by decide)
        have q1160 : h261 78 3 = h247 78 3 := by rw [← e263]; exact x_up_i (by first | decide | omega)
        have q1161 : h247 78 3 = h185 78 3 := jK 0 f249 rg_78_3_0_1 (by first | decide | omega) (by first | decide | omega) (by decide)
        have q1162 : h185 78 3 = h130 78 3 := jK 0 f187 rg_78_3_0_1 (by first | decide | omega) (by first | decide | omega) (by decide)
        have q1163 : h130 78 3 = h116 78 3 := by rw [← e132]; exact x_up_i (by first | decide | omega)
        have q1164 : h116 78 3 = h68 78 3 := jK 0 f118 rg_78_3_0_1 (by first | decide | omega) (by first | decide | omega) (by decide)
        have q1165 : h68 78 3 = h34 78 3 := jK 0 f70 rg_78_3_0_1 (by first | decide | omega) (by first | decide | omega) (by decide)
        have q1166 : h34 78 3 = h19 78 3 := by rw [← e36]; exact x_up_i (by first | decide | omega)
        have q1167 : h19 78 3 = h 78 3 := jK 0 f21 rg_78_3_0_1 (by first | decide | omega) (by first | decide | omega) (by decide)
        have b1168 := jB (e := 4) 0 hJ rg_78_4_0_1 (by first | decide | omega) (by first | decide | omega)
        have q1169 : h1110 78 4 = h1075 78 4 := by rw [← e1112]; exact x_up_i (by first | decide | omega)
        have q1170 : h1075 78 4 = h1064 78 4 := jK 0 f1077 rg_78_4_0_1 (by first | decide | omega) (by first | decide | omega) (by decide)
        have q1171 : h1064 78 4 = h1059 78 4 := by rw [← e1066]; exact x_up_i (by first | decide | omega)
        have q1172 : h1059 78 4 = h1054 78 4 := by rw [← e1061]; exact x_up_i (by first | decide | omega)
        have q1173 : h1054 78 4 = h532 78 4 := by rw [← e1056]; exact x_up_i (by first | decide | omega)
        have q1174 : h532 78 4 = h434 78 4 := jK 0 f534 rg_78_4_0_1 (by first | decide | omega) (by first | decide | omega) (by decide)
        have q1175 : h434 78 4 = h420 78 4 := by rw [← e436]; exact x_up_i (by first | decide | omega)
        have q1176 : h420 78 4 = h337 78 4 := jK 0 f422 rg_78_4_0_1 (by first | decide | omega) (by first | decide | omega) (by decide)
        have q1177 : h337 78 4 = h261 78 4 := jK 0 f339 rg_78_4_0_1 (by first | decide | omega) (by first | decide | omega) (by decide)
        have q1178 : h261 78 4 = h247 78 4 := by rw [← e263]; exact x_up_i (by first | decide | omega)
        have q1179 : h247 78 4 = h185 78 4 := jK 0 f249 rg_78_4_0_1 (by first | decide | omega) (by first | decide | omega) (by decide)
        have q1180 : h185 78 4 = h130 78 4 := jK 0 f187 rg_78_4_0_1 (by first | decide | omega) (by first | decide | omega) (by decide)
        have q1181 : h130 78 4 = h116 78 4 := by rw [← e132]; exact x_up_i (by first | decide | omega)
        have q1182 : h116 78 4 = h68 78 4 := jK 0 f118 rg_78_4_0_1 (by first | decide | omega) (by first | decide | omega) (by decide)
        have q1183 : h68 78 4 = h34 78 4 := jK 0 f70 rg_78_4_0_1 (by first | decide | omega) (by first | decide | omega) (by decide)
        have q1184 : h34 78 4 = h19 78 4 := by rw [← e36]; exact x_up_i (by first | decide | omega)
        have q1185 : h19 78 4 = h 78 4 := jK 0 f21 rg_78_4_0_1 (by first | decide | omega) (by first | decide | omega) (by decide)
        have b1186 := jB (e := 5) 0 hJ rg_78_5_0_1 (by first | decide | omega) (by first | decide | omega)
        have q1187 : h1110 78 5 = h1075 78 5 := by rw [← e1112]; exact x_up_i (by first | decide | omega)
        have q1188 : h1075 78 5 = h1064 78 5 := jK 0 f1077 rg_78_5_0_1 (by first | decide | omega) (by first | decide | omega) (by decide)
        have q1189 : h1064 78 5 = h1059 78 5 := by rw [← e1066]; exact x_up_i (by first | decide | omega)
        have q1190 : h1059 78 5 = h1054 78 5 := by rw [← e1061]; exact x_up_i (by first | decide | omega)
        have q1191 : h1054 78 5 = h532 78 5 := by rw [← e1056]; exact x_up_i (by first | decide | omega)
        have q1192 : h532 78 5 = h434 78 5 := jK 0 f534 rg_78_5_0_1 (by first | decide | omega) (by first | decide | omega) (by decide)
        have q1193 : h434 78 5 = h420 78 5 := by rw [← e436]; exact x_up_i (by first | decide | omega)
        have q1194 : h420 78 5 = h337 78 5 := jK 0 f422 rg_78_5_0_1 (by first | decide | omega) (by first | decide | omega) (by decide)
        have q1195 : h337 78 5 = h261 78 5 := jK 0 f339 rg_78_5_0_1 (by first | decide | omega) (by first | decide | omega) (by decide)
        have q1196 : h261 78 5 = h247 78 5 := by rw [← e263]; exact x_up_i (by first | decide | omega)
        have q1197 : h247 78 5 = h185 78 5 := jK 0 f249 rg_78_5_0_1 (by first | decide | omega) (by first | decide | omega) (by decide)
        have q1198 : h185 78 5 = h130 78 5 := jK 0 f187 rg_78_5_0_1 (by first | decide | omega) (by first | decide | omega) (by decide)
        have q1199 : h130 78 5 = h116 78 5 := by rw [← e132]; exact x_up_i (by first | decide | omega)
        have q1200 : h116 78 5 = h68 78 5 := jK 0 f118 rg_78_5_0_1 (by first | decide | omega) (by first | decide | omega) (by decide)
        have q1201 : h68 78 5 = h34 78 5 := jK 0 f70 rg_78_5_0_1 (by first | decide | omega) (by first | decide | omega) (by decide)
        have q1202 : h34 78 5 = h19 78 5 := by rw [← e36]; exact x_up_i (by first | decide | omega)
        have q1203 : h19 78 5 = h 78 5 := jK 0 f21 rg_78_5_0_1 (by first | decide | omega) (by first | decide | omega) (by decide)
        have m1220 := Cl.fr hC f21 (by decide)
        have m1219 : Cl h34 := by rw [← e36]; exact Cl.upR (e := (20 + 7 * u8)) (v := v16) u8 m1220 rg_76_20_7_20 (by first | decide | omega) (by first | decide | omega) (by first | decide | omega)
        have m1218 := Cl.fr m1219 f70 (by decide)
        have m1217 := Cl.fr m1218 f118 (by decide)
        have m1216 : Cl h130 := by rw [← e132]; exact Cl.upR (e := (21 + 7 * u8)) (v := v112) u8 m1217 rg_76_21_7_20 (by first | decide | omega) (by first | decide | omega) (by first | decide | omega)
        have m1215 := Cl.fr m1216 f187 (by decide)
        have m1214 := Cl.fr m1215 f249 (by decide)
        have m1213 : Cl h261 := by rw [← e263]; exact Cl.upR (e := (22 + 7 * u8)) (v := v243) u8 m1214 rg_76_22_7_20 (by first | decide | omega) (by first | decide | omega) (by first | decide | omega)
        have m1212 := Cl.fr m1213 f339 (by decide)
        have m1211 := Cl.fr m1212 f422 (by decide)
        have m1210 : Cl h434 := by rw [← e436]; exact Cl.upR (e := (23 + 7 * u8)) (v := v416) u8 m1211 rg_76_23_7_20 (by first | decide | omega) (by first | decide | omega) (by first | decide | omega)
        have m1209 := Cl.fr m1210 f534 (by decide)
        have m1208 : Cl h1054 := by rw [← e1056]; exact Cl.upR (e := (24 + 7 * u8)) (v := 2147483649) u8 m1209 rg_76_24_7_20 (by first | decide | omega) (by first | decide | omega) (by first | decide | omega)
        have m1207 : Cl h1059 := by rw [← e1061]; exact Cl.upR (e := (25 + 7 * u8)) (v := 2147483648) u8 m1208 rg_76_25_7_20 (by first | decide | omega) (by first | decide | omega) (by first | decide | omega)
        have m1206 : Cl h1064 := by rw [← e1066]; exact Cl.upR (e := (26 + 7 * u8)) (v := 2147483648) u8 m1207 rg_76_26_7_20 (by first | decide | omega) (by first | decide | omega) (by first | decide | omega)
        have m1205 := Cl.fr m1206 f1077 (by decide)
        have m1204 : Cl h1110 := by rw [← e1112]; exact Cl.upR (e := 2) (v := (1 + (h 78 2))) 0 m1205 rg_76_2_0_1 (by first | decide | omega) (by first | decide | omega) (by first | decide | omega)
        have q1221 : h34 75 7 = h19 75 7 := by rw [← e36]; exact x_up_k (by decide)
        obtain ⟨w1222, e1223⟩ := Tw.yes c74 (by first | decide | omega)
        have q1224 : h130 75 7 = h116 75 7 := by rw [← e132]; exact x_up_k (by decide)
        obtain ⟨w1225, e1226⟩ := Tw.yes c191 (by first | decide | omega)
        have q1227 : h261 75 7 = h247 75 7 := by rw [← e263]; exact x_up_k (by decide)
        obtain ⟨w1228, e1229⟩ := Tw.yes c343 (by first | decide | omega)
        have q1230 : h434 75 7 = h420 75 7 := by rw [← e436]; exact x_up_k (by decide)
        obtain ⟨w1231, e1232⟩ := Tk.yes c538 (by first | decide | omega)
        have q1233 : h1064 75 7 = h1059 75 7 := by rw [← e1066]; exact x_up_k (by decide)
        have q1234 : h1059 75 7 = h1054 75 7 := by rw [← e1061]; exact x_up_k (by decide)
        have q1235 : h1054 75 7 = h532 75 7 := by rw [← e1056]; exact x_up_k (by decide)
        obtain ⟨w1236, e1237⟩ := Tk.no c1081 (by first | decide | omega)
        have q1238 : h1110 75 7 = h1075 75 7 := by rw [← e1112]; exact x_up_k (by decide)
        refine x_retI (np := 183) (x := 0) (by decide +kernel) (by decide) (Or.inr ⟨by decide +kernel, by first | decide | omega, by first | decide | omega⟩) ⟨_, rfl, (by decide), ?_⟩
        exact ⟨j1111, f1113, (by first | decide | omega), (fun z => by first | decide | omega), (fun z => by first | decide | omega), (fun z => by first | decide | omega), (fun z => by first | decide | omega), (fun z => by first | decide | omega), (fun z => by first | decide | omega), (fun _ => m1204), (Or.inr ⟨by first | decide | omega, (nm9.y c28 (by first | decide | omega) (by first | decide | omega) rfl (by first | decide | omega) rfl (wd9.y w1222 (congrArg (sk tB tN) (show h34 75 7 = h19 75 7 by first | decide | omega)) e1223 rfl (nm9.y c125 (by first | decide | omega) (by first | decide | omega) rfl (by first | decide | omega) rfl (wd9.y w1225 (congrArg (sk tB tN) (show h130 75 7 = h116 75 7 by first | decide | omega)) e1226 rfl (nm9.y c256 (by first | decide | omega) (by first | decide | omega) rfl (by first | decide | omega) rfl (wd9.y w1228 (congrArg (sk tB tN) (show h261 75 7 = h247 75 7 by first | decide | omega)) e1229 rfl (nm9.y c429 (by first | decide | omega) (by first | decide | omega) rfl (by first | decide | omega) rfl (or9.y w1231 (congrArg (sk tB tN) (show h434 75 7 = h420 75 7 by first | decide | omega)) e1232 rfl (or9.f w1236 (congrArg (sk tB tN) (show h1064 75 7 = h532 75 7 by first | decide | omega)) (Eq.trans e1237 (congrArg (sk tB tN) (show h1064 75 7 = h532 75 7 by first | decide | omega))) (fin9.mk (by first | decide | omega) (congrArg (sk tB tN) (show h1075 75 7 = h1110 75 7 by first | decide | omega))))))))))))⟩)⟩
      have q1091 : ¬ (v1068 = 2147483648) := q1091
      have b1239 := c1080 (by first | decide | omega)
      refine x_aload (np := 152) (x := 0) (by decide +kernel) rfl (x_nc_le (by decide)) ?_
      refine x_iload (np := 153) (x := 1) (by decide +kernel) rfl (by first | decide | omega) ?_
      refine x_const (np := 154) (x := 9223372060477095941) (a := 2147483653) (by decide +kernel) (by decide) (by decide) ?_
      refine x_iadd (np := 155) (x := 0) (v := (2147483673 + 7 * u8)) (by decide +kernel) (by first | decide | omega) (by decide) (by first | decide | omega) (by first | decide | omega) ?_
      refine x_aload (np := 156) (x := 0) (by decide +kernel) rfl (x_nc_le (by decide)) ?_
      refine x_const (np := 157) (x := 9223372039002259456) (a := 2147483648) (by decide +kernel) (by decide) (by decide) ?_
      refine x_const (np := 160) (x := 9223376329674589159) (a := 2147484647) (by decide +kernel) (by decide) (by decide) ?_
      have m1243 := Tq.fr m1071 f1077 (by decide) (by decide)
      refine x_cI (t := 6) (mj := 174) (n := 3) (rc := 12) (ml := 4) (nr := 2) (np := 163) (as := [x_r 75, iv_c 2147483648, iv_c 2147484647]) (rest := [iv_c (2147483673 + 7 * u8), x_r 75]) (lo1 := [x_r 75, iv_c 2147483648, iv_c 2147484647, 147573952589676412928]) (by decide +kernel) (by decide) (by decide +kernel) (x_rb_of (by decide +kernel)) rfl rfl (x_wr (by decide) (x_wi (by decide) (x_wi (by decide) x_wn))) (x_wi (by first | decide | omega) (x_wr (by decide) x_wn)) (by decide) rfl (c174_75 j1076  (by first | decide | omega) (by first | decide | omega) m1243) (fun v1240 h1244 l1241 q1242 => ?_)
      obtain ⟨j1245, f1246, b1247, c1248, c1249, c1250, c1251, c1252, c1253⟩ := q1242
      have f1254 := Fr.trans f1082 f1246 (by decide)
      have b1255 := jB (e := 7) 0 j1245 rg_75_7_0_1 (by first | decide | omega) (by first | decide | omega)
      have b1256 := c1252 (by first | decide | omega)
      refine x_nI (t := 6) (mj := 176) (n := 3) (rc := 12) (ml := 3) (nr := 0) (np := 166) (as := [x_r 75, iv_c (2147483673 + 7 * u8), iv_c v1240]) (rest := []) (lo1 := [x_r 75, iv_c (2147483673 + 7 * u8), iv_c v1240]) (by decide +kernel) (by decide) (by decide +kernel) (x_rb_of (by decide +kernel)) rfl rfl (x_wr (by decide) (x_wi (by first | decide | omega) (x_wi l1241 x_wn))) x_wn (by decide) rfl ?_
      refine x_aload (np := 1) (x := 0) (by decide +kernel) rfl (x_nc_le (by decide)) ?_
      have q1257 : h1244 75 3 = 78 := by have z := jB (e := 3) 0 j1245 rg_75_3_0_1 (by decide) (by decide); omega
      refine x_getR (np := 4) (x := 707) (f := 3) (q := 78) (by decide +kernel) (by decide) (by decide +kernel) q1257 ?_
      refine x_iload (np := 5) (x := 1) (by decide +kernel) rfl (by first | decide | omega) ?_
      refine x_iload (np := 6) (x := 2) (by decide +kernel) rfl l1241 ?_
      refine x_ast (np := 7) (x := 0) (kd := 1) (n := 290) (i := (25 + 7 * u8)) (by decide +kernel) (Or.inl rfl) (by decide +kernel) (by first | decide | omega) (by first | decide | omega) (by decide) l1241 (fun z => absurd z (by decide)) ?_
      have j1259 := jU (e := (25 + 7 * u8)) (v := v1240) u8 j1245 rg_78_25_7_20 (by first | decide | omega) (by first | decide | omega) (by first | decide | omega)
      have f1261 := jF (e := (25 + 7 * u8)) (v := v1240) u8 f1254 rg_78_25_7_20 (by first | decide | omega) (by first | decide | omega) (by decide)
      generalize e1260 : x_up h1244 78 (25 + 7 * u8) v1240 = h1258 at j1259 f1261 ⊢
      refine x_iload (np := 8) (x := 2) (by decide +kernel) rfl l1241 ?_
      refine x_ifz (k := 2) (tg := 15) (np := 11) (by decide +kernel) (by decide) l1241 (fun q1262 => ?_) (fun q1263 => ?_)
      · have q1262 : v1240 < 2147483648 := q1262
        refine x_const (np := 16) (x := 9223372039002259456) (a := 2147483648) (by decide +kernel) (by decide) (by decide) ?_
        refine x_retI (np := 17) (x := 0) (by decide +kernel) (by decide) (Or.inr ⟨by decide +kernel, by first | decide | omega, by first | decide | omega⟩) ⟨_, rfl, (by decide), ?_⟩
        refine x_ifz (k := 1) (tg := 171) (np := 169) (by decide +kernel) (by decide) (by decide) (fun q1264 => ?_) (fun q1265 => ?_)
        · have q1264 : 2147483648 ≠ 2147483648 := q1264
          exfalso; omega
        have q1265 : ¬ (2147483648 ≠ 2147483648) := q1265
        refine x_const (np := 170) (x := 9223372039002259456) (a := 2147483648) (by decide +kernel) (by decide) (by decide) ?_
        have b1266 := jB (e := 0) 0 hJ rg_78_0_0_1 (by first | decide | omega) (by first | decide | omega)
        have q1267 : h1258 78 0 = h1244 78 0 := by rw [← e1260]; exact x_up_i (by first | decide | omega)
        have q1268 : h1244 78 0 = h1075 78 0 := jK 0 f1246 rg_78_0_0_1 (by first | decide | omega) (by first | decide | omega) (by decide)
        have q1269 : h1075 78 0 = h1064 78 0 := jK 0 f1077 rg_78_0_0_1 (by first | decide | omega) (by first | decide | omega) (by decide)
        have q1270 : h1064 78 0 = h1059 78 0 := by rw [← e1066]; exact x_up_i (by first | decide | omega)
        have q1271 : h1059 78 0 = h1054 78 0 := by rw [← e1061]; exact x_up_i (by first | decide | omega)
        have q1272 : h1054 78 0 = h532 78 0 := by rw [← e1056]; exact x_up_i (by first | decide | omega)
        have q1273 : h532 78 0 = h434 78 0 := jK 0 f534 rg_78_0_0_1 (by first | decide | omega) (by first | decide | omega) (by decide)
        have q1274 : h434 78 0 = h420 78 0 := by rw [← e436]; exact x_up_i (by first | decide | omega)
        have q1275 : h420 78 0 = h337 78 0 := jK 0 f422 rg_78_0_0_1 (by first | decide | omega) (by first | decide | omega) (by decide)
        have q1276 : h337 78 0 = h261 78 0 := jK 0 f339 rg_78_0_0_1 (by first | decide | omega) (by first | decide | omega) (by decide)
        have q1277 : h261 78 0 = h247 78 0 := by rw [← e263]; exact x_up_i (by first | decide | omega)
        have q1278 : h247 78 0 = h185 78 0 := jK 0 f249 rg_78_0_0_1 (by first | decide | omega) (by first | decide | omega) (by decide)
        have q1279 : h185 78 0 = h130 78 0 := jK 0 f187 rg_78_0_0_1 (by first | decide | omega) (by first | decide | omega) (by decide)
        have q1280 : h130 78 0 = h116 78 0 := by rw [← e132]; exact x_up_i (by first | decide | omega)
        have q1281 : h116 78 0 = h68 78 0 := jK 0 f118 rg_78_0_0_1 (by first | decide | omega) (by first | decide | omega) (by decide)
        have q1282 : h68 78 0 = h34 78 0 := jK 0 f70 rg_78_0_0_1 (by first | decide | omega) (by first | decide | omega) (by decide)
        have q1283 : h34 78 0 = h19 78 0 := by rw [← e36]; exact x_up_i (by first | decide | omega)
        have q1284 : h19 78 0 = h 78 0 := jK 0 f21 rg_78_0_0_1 (by first | decide | omega) (by first | decide | omega) (by decide)
        have q1285 : h1258 78 1 = h1244 78 1 := by rw [← e1260]; exact x_up_i (by first | decide | omega)
        have q1286 : h1244 78 1 = h1075 78 1 := jK 0 f1246 rg_78_1_0_1 (by first | decide | omega) (by first | decide | omega) (by decide)
        have q1287 : h1075 78 1 = h1064 78 1 := jK 0 f1077 rg_78_1_0_1 (by first | decide | omega) (by first | decide | omega) (by decide)
        have q1288 : h1064 78 1 = h1059 78 1 := by rw [← e1066]; exact x_up_i (by first | decide | omega)
        have q1289 : h1059 78 1 = h1054 78 1 := by rw [← e1061]; exact x_up_i (by first | decide | omega)
        have q1290 : h1054 78 1 = h532 78 1 := by rw [← e1056]; exact x_up_i (by first | decide | omega)
        have q1291 : h532 78 1 = h434 78 1 := jK 0 f534 rg_78_1_0_1 (by first | decide | omega) (by first | decide | omega) (by decide)
        have q1292 : h434 78 1 = h420 78 1 := by rw [← e436]; exact x_up_i (by first | decide | omega)
        have q1293 : h420 78 1 = h337 78 1 := jK 0 f422 rg_78_1_0_1 (by first | decide | omega) (by first | decide | omega) (by decide)
        have q1294 : h337 78 1 = h261 78 1 := jK 0 f339 rg_78_1_0_1 (by first | decide | omega) (by first | decide | omega) (by decide)
        have q1295 : h261 78 1 = h247 78 1 := by rw [← e263]; exact x_up_i (by first | decide | omega)
        have q1296 : h247 78 1 = h185 78 1 := jK 0 f249 rg_78_1_0_1 (by first | decide | omega) (by first | decide | omega) (by decide)
        have q1297 : h185 78 1 = h130 78 1 := jK 0 f187 rg_78_1_0_1 (by first | decide | omega) (by first | decide | omega) (by decide)
        have q1298 : h130 78 1 = h116 78 1 := by rw [← e132]; exact x_up_i (by first | decide | omega)
        have q1299 : h116 78 1 = h68 78 1 := jK 0 f118 rg_78_1_0_1 (by first | decide | omega) (by first | decide | omega) (by decide)
        have q1300 : h68 78 1 = h34 78 1 := jK 0 f70 rg_78_1_0_1 (by first | decide | omega) (by first | decide | omega) (by decide)
        have q1301 : h34 78 1 = h19 78 1 := by rw [← e36]; exact x_up_i (by first | decide | omega)
        have q1302 : h19 78 1 = h 78 1 := jK 0 f21 rg_78_1_0_1 (by first | decide | omega) (by first | decide | omega) (by decide)
        have q1303 : h1258 78 2 = h1244 78 2 := by rw [← e1260]; exact x_up_i (by first | decide | omega)
        have q1304 : h1244 78 2 = h1075 78 2 := jK 0 f1246 rg_78_2_0_1 (by first | decide | omega) (by first | decide | omega) (by decide)
        have q1305 : h1075 78 2 = h1064 78 2 := jK 0 f1077 rg_78_2_0_1 (by first | decide | omega) (by first | decide | omega) (by decide)
        have q1306 : h1064 78 2 = h1059 78 2 := by rw [← e1066]; exact x_up_i (by first | decide | omega)
        have q1307 : h1059 78 2 = h1054 78 2 := by rw [← e1061]; exact x_up_i (by first | decide | omega)
        have q1308 : h1054 78 2 = h532 78 2 := by rw [← e1056]; exact x_up_i (by first | decide | omega)
        have q1309 : h532 78 2 = h434 78 2 := jK 0 f534 rg_78_2_0_1 (by first | decide | omega) (by first | decide | omega) (by decide)
        have q1310 : h434 78 2 = h420 78 2 := by rw [← e436]; exact x_up_i (by first | decide | omega)
        have q1311 : h420 78 2 = h337 78 2 := jK 0 f422 rg_78_2_0_1 (by first | decide | omega) (by first | decide | omega) (by decide)
        have q1312 : h337 78 2 = h261 78 2 := jK 0 f339 rg_78_2_0_1 (by first | decide | omega) (by first | decide | omega) (by decide)
        have q1313 : h261 78 2 = h247 78 2 := by rw [← e263]; exact x_up_i (by first | decide | omega)
        have q1314 : h247 78 2 = h185 78 2 := jK 0 f249 rg_78_2_0_1 (by first | decide | omega) (by first | decide | omega) (by decide)
        have q1315 : h185 78 2 = h130 78 2 := jK 0 f187 rg_78_2_0_1 (by first | decide | omega) (by first | decide | omega) (by decide)
        have q1316 : h130 78 2 = h116 78 2 := by rw [← e132]; exact x_up_i (by first | decide | omega)
        have q1317 : h116 78 2 = h68 78 2 := jK 0 f118 rg_78_2_0_1 (by first | decide | omega) (by first | decide | omega) (by decide)
        have q1318 : h68 78 2 = h34 78 2 := jK 0 f70 rg_78_2_0_1 (by first | decide | omega) (by first | decide | omega) (by decide)
        have q1319 : h34 78 2 = h19 78 2 := by rw [← e36]; exact x_up_i (by first | decide | omega)
        have q1320 : h19 78 2 = h 78 2 := jK 0 f21 rg_78_2_0_1 (by first | decide | omega) (by first | decide | omega) (by decide)
        have b1321 := jB (e := 3) 0 hJ rg_78_3_0_1 (by first | decide | omega) (by first | decide | omega)
        have q1322 : h1258 78 3 = h1244 78 3 := by rw [← e1260]; exact x_up_i (by first | decide | omega)
        have q1323 : h1244 78 3 = h1075 78 3 := jK 0 f1246 rg_78_3_0_1 (by first | decide | omega) (by first | decide | omega) (by decide)
        have q1324 : h1075 78 3 = h1064 78 3 := jK 0 f1077 rg_78_3_0_1 (by first | decide | omega) (by first | decide | omega) (by decide)
        have q1325 : h1064 78 3 = h1059 78 3 := by rw [← e1066]; exact x_up_i (by first | decide | omega)
        have q1326 : h1059 78 3 = h1054 78 3 := by rw [← e1061]; exact x_up_i (by first | decide | omega)
        have q1327 : h1054 78 3 = h532 78 3 := by rw [← e1056]; exact x_up_i (by first | decide | omega)
        have q1328 : h532 78 3 = h434 78 3 := jK 0 f534 rg_78_3_0_1 (by first | decide | omega) (by first | decide | omega) (by decide)
        have q1329 : h434 78 3 = h420 78 3 := by rw [← e436]; exact x_up_i (by first | decide | omega)
        have q1330 : h420 78 3 = h337 78 3 := jK 0 f422 rg_78_3_0_1 (by first | decide | omega) (by first | decide | omega) (by decide)
        have q1331 : h337 78 3 = h261 78 3 := jK 0 f339 rg_78_3_0_1 (by first | decide | omega) (by first | decide | omega) (by decide)
        have q1332 : h261 78 3 = h247 78 3 := by rw [← e263]; exact x_up_i (by first | decide | omega)
        have q1333 : h247 78 3 = h185 78 3 := jK 0 f249 rg_78_3_0_1 (by first | decide | omega) (by first | decide | omega) (by decide)
        have q1334 : h185 78 3 = h130 78 3 := jK 0 f187 rg_78_3_0_1 (by first | decide | omega) (by first | decide | omega) (by decide)
        have q1335 : h130 78 3 = h116 78 3 := by rw [← e132]; exact x_up_i (by first | decide | omega)
        have q1336 : h116 78 3 = h68 78 3 := jK 0 f118 rg_78_3_0_1 (by first | decide | omega) (by first | decide | omega) (by decide)
        have q1337 : h68 78 3 = h34 78 3 := jK 0 f70 rg_78_3_0_1 (by first | decide | omega) (by first | decide | omega) (by decide)
        have q1338 : h34 78 3 = h19 78 3 := by rw [← e36]; exact x_up_i (by first | decide | omega)
        have q1339 : h19 78 3 = h 78 3 := jK 0 f21 rg_78_3_0_1 (by first | decide | omega) (by first | decide | omega) (by decide)
        have b1340 := jB (e := 4) 0 hJ rg_78_4_0_1 (by first | decide | omega) (by first | decide | omega)
        have q1341 : h1258 78 4 = h1244 78 4 := by rw [← e1260]; exact x_up_i (by first | decide | omega)
        have q1342 : h1244 78 4 = h1075 78 4 := jK 0 f1246 rg_78_4_0_1 (by first | decide | omega) (by first | decide | omega) (by decide)
        have q1343 : h1075 78 4 = h1064 78 4 := jK 0 f1077 rg_78_4_0_1 (by first | decide | omega) (by first | decide | omega) (by decide)
        have q1344 : h1064 78 4 = h1059 78 4 := by rw [← e1066]; exact x_up_i (by first | decide | omega)
        have q1345 : h1059 78 4 = h1054 78 4 := by rw [← e1061]; exact x_up_i (by first | decide | omega)
        have q1346 : h1054 78 4 = h532 78 4 := by rw [← e1056]; exact x_up_i (by first | decide | omega)
        have q1347 : h532 78 4 = h434 78 4 := jK 0 f534 rg_78_4_0_1 (by first | decide | omega) (by first | decide | omega) (by decide)
        have q1348 : h434 78 4 = h420 78 4 := by rw [← e436]; exact x_up_i (by first | decide | omega)
        have q1349 : h420 78 4 = h337 78 4 := jK 0 f422 rg_78_4_0_1 (by first | decide | omega) (by first | decide | omega) (by decide)
        have q1350 : h337 78 4 = h261 78 4 := jK 0 f339 rg_78_4_0_1 (by first | decide | omega) (by first | decide | omega) (by decide)
        have q1351 : h261 78 4 = h247 78 4 := by rw [← e263]; exact x_up_i (by first | decide | omega)
        have q1352 : h247 78 4 = h185 78 4 := jK 0 f249 rg_78_4_0_1 (by first | decide | omega) (by first | decide | omega) (by decide)
        have q1353 : h185 78 4 = h130 78 4 := jK 0 f187 rg_78_4_0_1 (by first | decide | omega) (by first | decide | omega) (by decide)
        have q1354 : h130 78 4 = h116 78 4 := by rw [← e132]; exact x_up_i (by first | decide | omega)
        have q1355 : h116 78 4 = h68 78 4 := jK 0 f118 rg_78_4_0_1 (by first | decide | omega) (by first | decide | omega) (by decide)
        have q1356 : h68 78 4 = h34 78 4 := jK 0 f70 rg_78_4_0_1 (by first | decide | omega) (by first | decide | omega) (by decide)
        have q1357 : h34 78 4 = h19 78 4 := by rw [← e36]; exact x_up_i (by first | decide | omega)
        have q1358 : h19 78 4 = h 78 4 := jK 0 f21 rg_78_4_0_1 (by first | decide | omega) (by first | decide | omega) (by decide)
        have b1359 := jB (e := 5) 0 hJ rg_78_5_0_1 (by first | decide | omega) (by first | decide | omega)
        have q1360 : h1258 78 5 = h1244 78 5 := by rw [← e1260]; exact x_up_i (by first | decide | omega)
        have q1361 : h1244 78 5 = h1075 78 5 := jK 0 f1246 rg_78_5_0_1 (by first | decide | omega) (by first | decide | omega) (by decide)
        have q1362 : h1075 78 5 = h1064 78 5 := jK 0 f1077 rg_78_5_0_1 (by first | decide | omega) (by first | decide | omega) (by decide)
        have q1363 : h1064 78 5 = h1059 78 5 := by rw [← e1066]; exact x_up_i (by first | decide | omega)
        have q1364 : h1059 78 5 = h1054 78 5 := by rw [← e1061]; exact x_up_i (by first | decide | omega)
        have q1365 : h1054 78 5 = h532 78 5 := by rw [← e1056]; exact x_up_i (by first | decide | omega)
        have q1366 : h532 78 5 = h434 78 5 := jK 0 f534 rg_78_5_0_1 (by first | decide | omega) (by first | decide | omega) (by decide)
        have q1367 : h434 78 5 = h420 78 5 := by rw [← e436]; exact x_up_i (by first | decide | omega)
        have q1368 : h420 78 5 = h337 78 5 := jK 0 f422 rg_78_5_0_1 (by first | decide | omega) (by first | decide | omega) (by decide)
        have q1369 : h337 78 5 = h261 78 5 := jK 0 f339 rg_78_5_0_1 (by first | decide | omega) (by first | decide | omega) (by decide)
        have q1370 : h261 78 5 = h247 78 5 := by rw [← e263]; exact x_up_i (by first | decide | omega)
        have q1371 : h247 78 5 = h185 78 5 := jK 0 f249 rg_78_5_0_1 (by first | decide | omega) (by first | decide | omega) (by decide)
        have q1372 : h185 78 5 = h130 78 5 := jK 0 f187 rg_78_5_0_1 (by first | decide | omega) (by first | decide | omega) (by decide)
        have q1373 : h130 78 5 = h116 78 5 := by rw [← e132]; exact x_up_i (by first | decide | omega)
        have q1374 : h116 78 5 = h68 78 5 := jK 0 f118 rg_78_5_0_1 (by first | decide | omega) (by first | decide | omega) (by decide)
        have q1375 : h68 78 5 = h34 78 5 := jK 0 f70 rg_78_5_0_1 (by first | decide | omega) (by first | decide | omega) (by decide)
        have q1376 : h34 78 5 = h19 78 5 := by rw [← e36]; exact x_up_i (by first | decide | omega)
        have q1377 : h19 78 5 = h 78 5 := jK 0 f21 rg_78_5_0_1 (by first | decide | omega) (by first | decide | omega) (by decide)
        have q1378 : h34 75 7 = h19 75 7 := by rw [← e36]; exact x_up_k (by decide)
        obtain ⟨w1379, e1380⟩ := Tw.yes c74 (by first | decide | omega)
        have q1381 : h130 75 7 = h116 75 7 := by rw [← e132]; exact x_up_k (by decide)
        obtain ⟨w1382, e1383⟩ := Tw.yes c191 (by first | decide | omega)
        have q1384 : h261 75 7 = h247 75 7 := by rw [← e263]; exact x_up_k (by decide)
        obtain ⟨w1385, e1386⟩ := Tw.yes c343 (by first | decide | omega)
        have q1387 : h434 75 7 = h420 75 7 := by rw [← e436]; exact x_up_k (by decide)
        obtain ⟨w1388, e1389⟩ := Tk.yes c538 (by first | decide | omega)
        have q1390 : h1064 75 7 = h1059 75 7 := by rw [← e1066]; exact x_up_k (by decide)
        have q1391 : h1059 75 7 = h1054 75 7 := by rw [← e1061]; exact x_up_k (by decide)
        have q1392 : h1054 75 7 = h532 75 7 := by rw [← e1056]; exact x_up_k (by decide)
        obtain ⟨w1393, e1394⟩ := Tk.yes c1081 (by first | decide | omega)
        refine x_retI (np := 171) (x := 0) (by decide +kernel) (by decide) (Or.inr ⟨by decide +kernel, by first | decide | omega, by first | decide | omega⟩) ⟨_, rfl, (by decide), ?_⟩
        exact ⟨j1259, f1261, (by first | decide | omega), (fun z => by first | decide | omega), (fun z => by first | decide | omega), (fun z => by first | decide | omega), (fun z => by first | decide | omega), (fun z => by first | decide | omega), (fun z => by first | decide | omega), (fun z => absurd z (by first | decide | omega)), (Or.inr ⟨by first | decide | omega, (nm9.y c28 (by first | decide | omega) (by first | decide | omega) rfl (by first | decide | omega) rfl (wd9.y w1379 (congrArg (sk tB tN) (show h34 75 7 = h19 75 7 by first | decide | omega)) e1380 rfl (nm9.y c125 (by first | decide | omega) (by first | decide | omega) rfl (by first | decide | omega) rfl (wd9.y w1382 (congrArg (sk tB tN) (show h130 75 7 = h116 75 7 by first | decide | omega)) e1383 rfl (nm9.y c256 (by first | decide | omega) (by first | decide | omega) rfl (by first | decide | omega) rfl (wd9.y w1385 (congrArg (sk tB tN) (show h261 75 7 = h247 75 7 by first | decide | omega)) e1386 rfl (nm9.y c429 (by first | decide | omega) (by first | decide | omega) rfl (by first | decide | omega) rfl (or9.y w1388 (congrArg (sk tB tN) (show h434 75 7 = h420 75 7 by first | decide | omega)) e1389 rfl (or9.y w1393 (congrArg (sk tB tN) (show h1064 75 7 = h532 75 7 by first | decide | omega)) e1394 rfl (nm9.f c1253 (by first | decide | omega) (by first | decide | omega) rfl (by first | decide | omega) (by first | decide | omega)))))))))))⟩)⟩
      have q1263 : ¬ (v1240 < 2147483648) := q1263
      have b1395 := c1249 (by first | decide | omega)
      have b1396 := c1250 (by first | decide | omega)
      have b1397 := c1251 (by first | decide | omega)
      refine x_const (np := 12) (x := 9223372043297226753) (a := 2147483649) (by decide +kernel) (by decide) (by decide) ?_
      refine x_goto (np := 15) (x := 16) (by decide +kernel) ?_
      refine x_retI (np := 17) (x := 0) (by decide +kernel) (by decide) (Or.inr ⟨by decide +kernel, by first | decide | omega, by first | decide | omega⟩) ⟨_, rfl, (by decide), ?_⟩
      refine x_ifz (k := 1) (tg := 171) (np := 169) (by decide +kernel) (by decide) (by decide) (fun q1398 => ?_) (fun q1399 => ?_)
      · have q1398 : 2147483649 ≠ 2147483648 := q1398
        refine x_aload (np := 172) (x := 0) (by decide +kernel) rfl (x_nc_le (by decide)) ?_
        have q1400 : h1258 75 3 = 78 := by have z := jB (e := 3) 0 j1259 rg_75_3_0_1 (by decide) (by decide); omega
        refine x_getR (np := 175) (x := 707) (f := 3) (q := 78) (by decide +kernel) (by decide) (by decide +kernel) q1400 ?_
        refine x_const (np := 176) (x := 9223372047592194050) (a := 2147483650) (by decide +kernel) (by decide) (by decide) ?_
        refine x_dup2 (np := 177) (x := 0) (by decide +kernel) (by have z := (iw_c_lt (a := 2147483650) (by decide)).1; omega) (by have z := x_nc_le (k := 78) (by decide); unfold x_r; omega) ?_
        have q1401 : h1258 78 2 = h1244 78 2 := by rw [← e1260]; exact x_up_i (by first | decide | omega)
        have q1402 : h1244 78 2 = h1075 78 2 := jK 0 f1246 rg_78_2_0_1 (by first | decide | omega) (by first | decide | omega) (by decide)
        have q1403 : h1075 78 2 = h1064 78 2 := jK 0 f1077 rg_78_2_0_1 (by first | decide | omega) (by first | decide | omega) (by decide)
        have q1404 : h1064 78 2 = h1059 78 2 := by rw [← e1066]; exact x_up_i (by first | decide | omega)
        have q1405 : h1059 78 2 = h1054 78 2 := by rw [← e1061]; exact x_up_i (by first | decide | omega)
        have q1406 : h1054 78 2 = h532 78 2 := by rw [← e1056]; exact x_up_i (by first | decide | omega)
        have q1407 : h532 78 2 = h434 78 2 := jK 0 f534 rg_78_2_0_1 (by first | decide | omega) (by first | decide | omega) (by decide)
        have q1408 : h434 78 2 = h420 78 2 := by rw [← e436]; exact x_up_i (by first | decide | omega)
        have q1409 : h420 78 2 = h337 78 2 := jK 0 f422 rg_78_2_0_1 (by first | decide | omega) (by first | decide | omega) (by decide)
        have q1410 : h337 78 2 = h261 78 2 := jK 0 f339 rg_78_2_0_1 (by first | decide | omega) (by first | decide | omega) (by decide)
        have q1411 : h261 78 2 = h247 78 2 := by rw [← e263]; exact x_up_i (by first | decide | omega)
        have q1412 : h247 78 2 = h185 78 2 := jK 0 f249 rg_78_2_0_1 (by first | decide | omega) (by first | decide | omega) (by decide)
        have q1413 : h185 78 2 = h130 78 2 := jK 0 f187 rg_78_2_0_1 (by first | decide | omega) (by first | decide | omega) (by decide)
        have q1414 : h130 78 2 = h116 78 2 := by rw [← e132]; exact x_up_i (by first | decide | omega)
        have q1415 : h116 78 2 = h68 78 2 := jK 0 f118 rg_78_2_0_1 (by first | decide | omega) (by first | decide | omega) (by decide)
        have q1416 : h68 78 2 = h34 78 2 := jK 0 f70 rg_78_2_0_1 (by first | decide | omega) (by first | decide | omega) (by decide)
        have q1417 : h34 78 2 = h19 78 2 := by rw [← e36]; exact x_up_i (by first | decide | omega)
        have q1418 : h19 78 2 = h 78 2 := jK 0 f21 rg_78_2_0_1 (by first | decide | omega) (by first | decide | omega) (by decide)
        refine x_aldC (np := 178) (x := 0) (n := 290) (i := 2) (q := (h 78 2)) (by decide +kernel) (by decide +kernel) (by first | decide | omega) (by first | decide | omega) (by decide) (((((((((((((((((q1401.trans q1402).trans q1403).trans q1404).trans q1405).trans q1406).trans q1407).trans q1408).trans q1409).trans q1410).trans q1411).trans q1412).trans q1413).trans q1414).trans q1415).trans q1416).trans q1417).trans q1418) (fun l1419 => ?_)
        refine x_const (np := 179) (x := 9223372043297226753) (a := 2147483649) (by decide +kernel) (by decide) (by decide) ?_
        refine x_iadd (np := 180) (x := 0) (v := (1 + (h 78 2))) (by decide +kernel) l3 (by decide) (by first | decide | omega) (by first | decide | omega) ?_
        refine x_ast (np := 181) (x := 0) (kd := 1) (n := 290) (i := 2) (by decide +kernel) (Or.inl rfl) (by decide +kernel) (by first | decide | omega) (by first | decide | omega) (by decide) (by first | decide | omega) (fun z => absurd z (by decide)) ?_
        have j1421 := jU (e := 2) (v := (1 + (h 78 2))) 0 j1259 rg_78_2_0_1 (by first | decide | omega) (by first | decide | omega) (by first | decide | omega)
        have f1423 := jF (e := 2) (v := (1 + (h 78 2))) 0 f1261 rg_78_2_0_1 (by first | decide | omega) (by first | decide | omega) (by decide)
        generalize e1422 : x_up h1258 78 2 (1 + (h 78 2)) = h1420 at j1421 f1423 ⊢
        refine x_const (np := 182) (x := 9223372043297226753) (a := 2147483649) (by decide +kernel) (by decide) (by decide) ?_
        have b1424 := jB (e := 0) 0 hJ rg_78_0_0_1 (by first | decide | omega) (by first | decide | omega)
        have q1425 : h1420 78 0 = h1258 78 0 := by rw [← e1422]; exact x_up_i (by first | decide | omega)
        have q1426 : h1258 78 0 = h1244 78 0 := by rw [← e1260]; exact x_up_i (by first | decide | omega)
        have q1427 : h1244 78 0 = h1075 78 0 := jK 0 f1246 rg_78_0_0_1 (by first | decide | omega) (by first | decide | omega) (by decide)
        have q1428 : h1075 78 0 = h1064 78 0 := jK 0 f1077 rg_78_0_0_1 (by first | decide | omega) (by first | decide | omega) (by decide)
        have q1429 : h1064 78 0 = h1059 78 0 := by rw [← e1066]; exact x_up_i (by first | decide | omega)
        have q1430 : h1059 78 0 = h1054 78 0 := by rw [← e1061]; exact x_up_i (by first | decide | omega)
        have q1431 : h1054 78 0 = h532 78 0 := by rw [← e1056]; exact x_up_i (by first | decide | omega)
        have q1432 : h532 78 0 = h434 78 0 := jK 0 f534 rg_78_0_0_1 (by first | decide | omega) (by first | decide | omega) (by decide)
        have q1433 : h434 78 0 = h420 78 0 := by rw [← e436]; exact x_up_i (by first | decide | omega)
        have q1434 : h420 78 0 = h337 78 0 := jK 0 f422 rg_78_0_0_1 (by first | decide | omega) (by first | decide | omega) (by decide)
        have q1435 : h337 78 0 = h261 78 0 := jK 0 f339 rg_78_0_0_1 (by first | decide | omega) (by first | decide | omega) (by decide)
        have q1436 : h261 78 0 = h247 78 0 := by rw [← e263]; exact x_up_i (by first | decide | omega)
        have q1437 : h247 78 0 = h185 78 0 := jK 0 f249 rg_78_0_0_1 (by first | decide | omega) (by first | decide | omega) (by decide)
        have q1438 : h185 78 0 = h130 78 0 := jK 0 f187 rg_78_0_0_1 (by first | decide | omega) (by first | decide | omega) (by decide)
        have q1439 : h130 78 0 = h116 78 0 := by rw [← e132]; exact x_up_i (by first | decide | omega)
        have q1440 : h116 78 0 = h68 78 0 := jK 0 f118 rg_78_0_0_1 (by first | decide | omega) (by first | decide | omega) (by decide)
        have q1441 : h68 78 0 = h34 78 0 := jK 0 f70 rg_78_0_0_1 (by first | decide | omega) (by first | decide | omega) (by decide)
        have q1442 : h34 78 0 = h19 78 0 := by rw [← e36]; exact x_up_i (by first | decide | omega)
        have q1443 : h19 78 0 = h 78 0 := jK 0 f21 rg_78_0_0_1 (by first | decide | omega) (by first | decide | omega) (by decide)
        have q1444 : h1420 78 1 = h1258 78 1 := by rw [← e1422]; exact x_up_i (by first | decide | omega)
        have q1445 : h1258 78 1 = h1244 78 1 := by rw [← e1260]; exact x_up_i (by first | decide | omega)
        have q1446 : h1244 78 1 = h1075 78 1 := jK 0 f1246 rg_78_1_0_1 (by first | decide | omega) (by first | decide | omega) (by decide)
        have q1447 : h1075 78 1 = h1064 78 1 := jK 0 f1077 rg_78_1_0_1 (by first | decide | omega) (by first | decide | omega) (by decide)
        have q1448 : h1064 78 1 = h1059 78 1 := by rw [← e1066]; exact x_up_i (by first | decide | omega)
        have q1449 : h1059 78 1 = h1054 78 1 := by rw [← e1061]; exact x_up_i (by first | decide | omega)
        have q1450 : h1054 78 1 = h532 78 1 := by rw [← e1056]; exact x_up_i (by first | decide | omega)
        have q1451 : h532 78 1 = h434 78 1 := jK 0 f534 rg_78_1_0_1 (by first | decide | omega) (by first | decide | omega) (by decide)
        have q1452 : h434 78 1 = h420 78 1 := by rw [← e436]; exact x_up_i (by first | decide | omega)
        have q1453 : h420 78 1 = h337 78 1 := jK 0 f422 rg_78_1_0_1 (by first | decide | omega) (by first | decide | omega) (by decide)
        have q1454 : h337 78 1 = h261 78 1 := jK 0 f339 rg_78_1_0_1 (by first | decide | omega) (by first | decide | omega) (by decide)
        have q1455 : h261 78 1 = h247 78 1 := by rw [← e263]; exact x_up_i (by first | decide | omega)
        have q1456 : h247 78 1 = h185 78 1 := jK 0 f249 rg_78_1_0_1 (by first | decide | omega) (by first | decide | omega) (by decide)
        have q1457 : h185 78 1 = h130 78 1 := jK 0 f187 rg_78_1_0_1 (by first | decide | omega) (by first | decide | omega) (by decide)
        have q1458 : h130 78 1 = h116 78 1 := by rw [← e132]; exact x_up_i (by first | decide | omega)
        have q1459 : h116 78 1 = h68 78 1 := jK 0 f118 rg_78_1_0_1 (by first | decide | omega) (by first | decide | omega) (by decide)
        have q1460 : h68 78 1 = h34 78 1 := jK 0 f70 rg_78_1_0_1 (by first | decide | omega) (by first | decide | omega) (by decide)
        have q1461 : h34 78 1 = h19 78 1 := by rw [← e36]; exact x_up_i (by first | decide | omega)
        have q1462 : h19 78 1 = h 78 1 := jK 0 f21 rg_78_1_0_1 (by first | decide | omega) (by first | decide | omega) (by decide)
        have q1463 : h1420 78 2 = (1 + (h 78 2)) := by rw [← e1422]; exact x_up_at
        have b1464 := jB (e := 3) 0 hJ rg_78_3_0_1 (by first | decide | omega) (by first | decide | omega)
        have q1465 : h1420 78 3 = h1258 78 3 := by rw [← e1422]; exact x_up_i (by first | decide | omega)
        have q1466 : h1258 78 3 = h1244 78 3 := by rw [← e1260]; exact x_up_i (by first | decide | omega)
        have q1467 : h1244 78 3 = h1075 78 3 := jK 0 f1246 rg_78_3_0_1 (by first | decide | omega) (by first | decide | omega) (by decide)
        have q1468 : h1075 78 3 = h1064 78 3 := jK 0 f1077 rg_78_3_0_1 (by first | decide | omega) (by first | decide | omega) (by decide)
        have q1469 : h1064 78 3 = h1059 78 3 := by rw [← e1066]; exact x_up_i (by first | decide | omega)
        have q1470 : h1059 78 3 = h1054 78 3 := by rw [← e1061]; exact x_up_i (by first | decide | omega)
        have q1471 : h1054 78 3 = h532 78 3 := by rw [← e1056]; exact x_up_i (by first | decide | omega)
        have q1472 : h532 78 3 = h434 78 3 := jK 0 f534 rg_78_3_0_1 (by first | decide | omega) (by first | decide | omega) (by decide)
        have q1473 : h434 78 3 = h420 78 3 := by rw [← e436]; exact x_up_i (by first | decide | omega)
        have q1474 : h420 78 3 = h337 78 3 := jK 0 f422 rg_78_3_0_1 (by first | decide | omega) (by first | decide | omega) (by decide)
        have q1475 : h337 78 3 = h261 78 3 := jK 0 f339 rg_78_3_0_1 (by first | decide | omega) (by first | decide | omega) (by decide)
        have q1476 : h261 78 3 = h247 78 3 := by rw [← e263]; exact x_up_i (by first | decide | omega)
        have q1477 : h247 78 3 = h185 78 3 := jK 0 f249 rg_78_3_0_1 (by first | decide | omega) (by first | decide | omega) (by decide)
        have q1478 : h185 78 3 = h130 78 3 := jK 0 f187 rg_78_3_0_1 (by first | decide | omega) (by first | decide | omega) (by decide)
        have q1479 : h130 78 3 = h116 78 3 := by rw [← e132]; exact x_up_i (by first | decide | omega)
        have q1480 : h116 78 3 = h68 78 3 := jK 0 f118 rg_78_3_0_1 (by first | decide | omega) (by first | decide | omega) (by decide)
        have q1481 : h68 78 3 = h34 78 3 := jK 0 f70 rg_78_3_0_1 (by first | decide | omega) (by first | decide | omega) (by decide)
        have q1482 : h34 78 3 = h19 78 3 := by rw [← e36]; exact x_up_i (by first | decide | omega)
        have q1483 : h19 78 3 = h 78 3 := jK 0 f21 rg_78_3_0_1 (by first | decide | omega) (by first | decide | omega) (by decide)
        have b1484 := jB (e := 4) 0 hJ rg_78_4_0_1 (by first | decide | omega) (by first | decide | omega)
        have q1485 : h1420 78 4 = h1258 78 4 := by rw [← e1422]; exact x_up_i (by first | decide | omega)
        have q1486 : h1258 78 4 = h1244 78 4 := by rw [← e1260]; exact x_up_i (by first | decide | omega)
        have q1487 : h1244 78 4 = h1075 78 4 := jK 0 f1246 rg_78_4_0_1 (by first | decide | omega) (by first | decide | omega) (by decide)
        have q1488 : h1075 78 4 = h1064 78 4 := jK 0 f1077 rg_78_4_0_1 (by first | decide | omega) (by first | decide | omega) (by decide)
        have q1489 : h1064 78 4 = h1059 78 4 := by rw [← e1066]; exact x_up_i (by first | decide | omega)
        have q1490 : h1059 78 4 = h1054 78 4 := by rw [← e1061]; exact x_up_i (by first | decide | omega)
        have q1491 : h1054 78 4 = h532 78 4 := by rw [← e1056]; exact x_up_i (by first | decide | omega)
        have q1492 : h532 78 4 = h434 78 4 := jK 0 f534 rg_78_4_0_1 (by first | decide | omega) (by first | decide | omega) (by decide)
        have q1493 : h434 78 4 = h420 78 4 := by rw [← e436]; exact x_up_i (by first | decide | omega)
        have q1494 : h420 78 4 = h337 78 4 := jK 0 f422 rg_78_4_0_1 (by first | decide | omega) (by first | decide | omega) (by decide)
        have q1495 : h337 78 4 = h261 78 4 := jK 0 f339 rg_78_4_0_1 (by first | decide | omega) (by first | decide | omega) (by decide)
        have q1496 : h261 78 4 = h247 78 4 := by rw [← e263]; exact x_up_i (by first | decide | omega)
        have q1497 : h247 78 4 = h185 78 4 := jK 0 f249 rg_78_4_0_1 (by first | decide | omega) (by first | decide | omega) (by decide)
        have q1498 : h185 78 4 = h130 78 4 := jK 0 f187 rg_78_4_0_1 (by first | decide | omega) (by first | decide | omega) (by decide)
        have q1499 : h130 78 4 = h116 78 4 := by rw [← e132]; exact x_up_i (by first | decide | omega)
        have q1500 : h116 78 4 = h68 78 4 := jK 0 f118 rg_78_4_0_1 (by first | decide | omega) (by first | decide | omega) (by decide)
        have q1501 : h68 78 4 = h34 78 4 := jK 0 f70 rg_78_4_0_1 (by first | decide | omega) (by first | decide | omega) (by decide)
        have q1502 : h34 78 4 = h19 78 4 := by rw [← e36]; exact x_up_i (by first | decide | omega)
        have q1503 : h19 78 4 = h 78 4 := jK 0 f21 rg_78_4_0_1 (by first | decide | omega) (by first | decide | omega) (by decide)
        have b1504 := jB (e := 5) 0 hJ rg_78_5_0_1 (by first | decide | omega) (by first | decide | omega)
        have q1505 : h1420 78 5 = h1258 78 5 := by rw [← e1422]; exact x_up_i (by first | decide | omega)
        have q1506 : h1258 78 5 = h1244 78 5 := by rw [← e1260]; exact x_up_i (by first | decide | omega)
        have q1507 : h1244 78 5 = h1075 78 5 := jK 0 f1246 rg_78_5_0_1 (by first | decide | omega) (by first | decide | omega) (by decide)
        have q1508 : h1075 78 5 = h1064 78 5 := jK 0 f1077 rg_78_5_0_1 (by first | decide | omega) (by first | decide | omega) (by decide)
        have q1509 : h1064 78 5 = h1059 78 5 := by rw [← e1066]; exact x_up_i (by first | decide | omega)
        have q1510 : h1059 78 5 = h1054 78 5 := by rw [← e1061]; exact x_up_i (by first | decide | omega)
        have q1511 : h1054 78 5 = h532 78 5 := by rw [← e1056]; exact x_up_i (by first | decide | omega)
        have q1512 : h532 78 5 = h434 78 5 := jK 0 f534 rg_78_5_0_1 (by first | decide | omega) (by first | decide | omega) (by decide)
        have q1513 : h434 78 5 = h420 78 5 := by rw [← e436]; exact x_up_i (by first | decide | omega)
        have q1514 : h420 78 5 = h337 78 5 := jK 0 f422 rg_78_5_0_1 (by first | decide | omega) (by first | decide | omega) (by decide)
        have q1515 : h337 78 5 = h261 78 5 := jK 0 f339 rg_78_5_0_1 (by first | decide | omega) (by first | decide | omega) (by decide)
        have q1516 : h261 78 5 = h247 78 5 := by rw [← e263]; exact x_up_i (by first | decide | omega)
        have q1517 : h247 78 5 = h185 78 5 := jK 0 f249 rg_78_5_0_1 (by first | decide | omega) (by first | decide | omega) (by decide)
        have q1518 : h185 78 5 = h130 78 5 := jK 0 f187 rg_78_5_0_1 (by first | decide | omega) (by first | decide | omega) (by decide)
        have q1519 : h130 78 5 = h116 78 5 := by rw [← e132]; exact x_up_i (by first | decide | omega)
        have q1520 : h116 78 5 = h68 78 5 := jK 0 f118 rg_78_5_0_1 (by first | decide | omega) (by first | decide | omega) (by decide)
        have q1521 : h68 78 5 = h34 78 5 := jK 0 f70 rg_78_5_0_1 (by first | decide | omega) (by first | decide | omega) (by decide)
        have q1522 : h34 78 5 = h19 78 5 := by rw [← e36]; exact x_up_i (by first | decide | omega)
        have q1523 : h19 78 5 = h 78 5 := jK 0 f21 rg_78_5_0_1 (by first | decide | omega) (by first | decide | omega) (by decide)
        have m1542 := Cl.fr hC f21 (by decide)
        have m1541 : Cl h34 := by rw [← e36]; exact Cl.upR (e := (20 + 7 * u8)) (v := v16) u8 m1542 rg_76_20_7_20 (by first | decide | omega) (by first | decide | omega) (by first | decide | omega)
        have m1540 := Cl.fr m1541 f70 (by decide)
        have m1539 := Cl.fr m1540 f118 (by decide)
        have m1538 : Cl h130 := by rw [← e132]; exact Cl.upR (e := (21 + 7 * u8)) (v := v112) u8 m1539 rg_76_21_7_20 (by first | decide | omega) (by first | decide | omega) (by first | decide | omega)
        have m1537 := Cl.fr m1538 f187 (by decide)
        have m1536 := Cl.fr m1537 f249 (by decide)
        have m1535 : Cl h261 := by rw [← e263]; exact Cl.upR (e := (22 + 7 * u8)) (v := v243) u8 m1536 rg_76_22_7_20 (by first | decide | omega) (by first | decide | omega) (by first | decide | omega)
        have m1534 := Cl.fr m1535 f339 (by decide)
        have m1533 := Cl.fr m1534 f422 (by decide)
        have m1532 : Cl h434 := by rw [← e436]; exact Cl.upR (e := (23 + 7 * u8)) (v := v416) u8 m1533 rg_76_23_7_20 (by first | decide | omega) (by first | decide | omega) (by first | decide | omega)
        have m1531 := Cl.fr m1532 f534 (by decide)
        have m1530 : Cl h1054 := by rw [← e1056]; exact Cl.upR (e := (24 + 7 * u8)) (v := 2147483649) u8 m1531 rg_76_24_7_20 (by first | decide | omega) (by first | decide | omega) (by first | decide | omega)
        have m1529 : Cl h1059 := by rw [← e1061]; exact Cl.upR (e := (25 + 7 * u8)) (v := 2147483648) u8 m1530 rg_76_25_7_20 (by first | decide | omega) (by first | decide | omega) (by first | decide | omega)
        have m1528 : Cl h1064 := by rw [← e1066]; exact Cl.upR (e := (26 + 7 * u8)) (v := 2147483648) u8 m1529 rg_76_26_7_20 (by first | decide | omega) (by first | decide | omega) (by first | decide | omega)
        have m1527 := Cl.fr m1528 f1077 (by decide)
        have m1526 := Cl.fr m1527 f1246 (by decide)
        have m1525 : Cl h1258 := by rw [← e1260]; exact Cl.upR (e := (25 + 7 * u8)) (v := v1240) u8 m1526 rg_76_25_7_20 (by first | decide | omega) (by first | decide | omega) (by first | decide | omega)
        have m1524 : Cl h1420 := by rw [← e1422]; exact Cl.upR (e := 2) (v := (1 + (h 78 2))) 0 m1525 rg_76_2_0_1 (by first | decide | omega) (by first | decide | omega) (by first | decide | omega)
        have q1543 : h34 75 7 = h19 75 7 := by rw [← e36]; exact x_up_k (by decide)
        obtain ⟨w1544, e1545⟩ := Tw.yes c74 (by first | decide | omega)
        have q1546 : h130 75 7 = h116 75 7 := by rw [← e132]; exact x_up_k (by decide)
        obtain ⟨w1547, e1548⟩ := Tw.yes c191 (by first | decide | omega)
        have q1549 : h261 75 7 = h247 75 7 := by rw [← e263]; exact x_up_k (by decide)
        obtain ⟨w1550, e1551⟩ := Tw.yes c343 (by first | decide | omega)
        have q1552 : h434 75 7 = h420 75 7 := by rw [← e436]; exact x_up_k (by decide)
        obtain ⟨w1553, e1554⟩ := Tk.yes c538 (by first | decide | omega)
        have q1555 : h1064 75 7 = h1059 75 7 := by rw [← e1066]; exact x_up_k (by decide)
        have q1556 : h1059 75 7 = h1054 75 7 := by rw [← e1061]; exact x_up_k (by decide)
        have q1557 : h1054 75 7 = h532 75 7 := by rw [← e1056]; exact x_up_k (by decide)
        obtain ⟨w1558, e1559⟩ := Tk.yes c1081 (by first | decide | omega)
        have q1560 : h1420 75 7 = h1258 75 7 := by rw [← e1422]; exact x_up_k (by decide)
        have q1561 : h1258 75 7 = h1244 75 7 := by rw [← e1260]; exact x_up_k (by decide)
        refine x_retI (np := 183) (x := 0) (by decide +kernel) (by decide) (Or.inr ⟨by decide +kernel, by first | decide | omega, by first | decide | omega⟩) ⟨_, rfl, (by decide), ?_⟩
        exact ⟨j1421, f1423, (by first | decide | omega), (fun z => by first | decide | omega), (fun z => by first | decide | omega), (fun z => by first | decide | omega), (fun z => by first | decide | omega), (fun z => by first | decide | omega), (fun z => by first | decide | omega), (fun _ => m1524), (Or.inr ⟨by first | decide | omega, (nm9.y c28 (by first | decide | omega) (by first | decide | omega) rfl (by first | decide | omega) rfl (wd9.y w1544 (congrArg (sk tB tN) (show h34 75 7 = h19 75 7 by first | decide | omega)) e1545 rfl (nm9.y c125 (by first | decide | omega) (by first | decide | omega) rfl (by first | decide | omega) rfl (wd9.y w1547 (congrArg (sk tB tN) (show h130 75 7 = h116 75 7 by first | decide | omega)) e1548 rfl (nm9.y c256 (by first | decide | omega) (by first | decide | omega) rfl (by first | decide | omega) rfl (wd9.y w1550 (congrArg (sk tB tN) (show h261 75 7 = h247 75 7 by first | decide | omega)) e1551 rfl (nm9.y c429 (by first | decide | omega) (by first | decide | omega) rfl (by first | decide | omega) rfl (or9.y w1553 (congrArg (sk tB tN) (show h434 75 7 = h420 75 7 by first | decide | omega)) e1554 rfl (or9.y w1558 (congrArg (sk tB tN) (show h1064 75 7 = h532 75 7 by first | decide | omega)) e1559 rfl (nm9.y c1253 (by first | decide | omega) (by first | decide | omega) rfl (by first | decide | omega) rfl (fin9.mk (by first | decide | omega) (congrArg (sk tB tN) (show h1244 75 7 = h1420 75 7 by first | decide | omega)))))))))))))⟩)⟩
      have q1399 : ¬ (2147483649 ≠ 2147483648) := q1399
      exfalso; omega
    have q525 : ¬ (2147483649 ≠ 2147483648) := q525
    exfalso; omega
  have q5 : ¬ ((h 78 2) ≠ 2147483668) := q5
  refine x_const (np := 12) (x := 9223372039002259456) (a := 2147483648) (by decide +kernel) (by decide) (by decide) ?_
  have b1562 := jB (e := 0) 0 hJ rg_78_0_0_1 (by first | decide | omega) (by first | decide | omega)
  have b1563 := jB (e := 3) 0 hJ rg_78_3_0_1 (by first | decide | omega) (by first | decide | omega)
  have b1564 := jB (e := 4) 0 hJ rg_78_4_0_1 (by first | decide | omega) (by first | decide | omega)
  have b1565 := jB (e := 5) 0 hJ rg_78_5_0_1 (by first | decide | omega) (by first | decide | omega)
  have b1566 := jB (e := 0) 0 hJ rg_76_0_0_1 (by first | decide | omega) (by first | decide | omega)
  refine x_retI (np := 13) (x := 0) (by decide +kernel) (by decide) (Or.inr ⟨by decide +kernel, by first | decide | omega, by first | decide | omega⟩) ⟨_, rfl, (by decide), ?_⟩
  exact ⟨hJ, hF, (by first | decide | omega), (fun z => by first | decide | omega), (fun z => by first | decide | omega), (fun z => by first | decide | omega), (fun z => by first | decide | omega), (fun z => by first | decide | omega), (fun z => by first | decide | omega), (fun z => absurd z (by first | decide | omega)), (Or.inl ⟨by first | decide | omega, by first | decide | omega⟩)⟩
