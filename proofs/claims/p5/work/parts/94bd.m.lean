/-! ===== methods ===== -/
set_option maxHeartbeats 0 in
/-- LentNames.tell()I -/
theorem c106_0 {sc : Nat × Nat} {d  : Nat} {h : xh} {tB : Nat → Nat} {tN : Nat} (hJ : J h) (hT : Tp tB tN h) (hp0 : h 0 8 ≠ h 0 9) : X sc 106 (d + 10) (xT (fun r h' => J h' ∧ Fr 1548112372031163 h h' ∧ (1 ≤ r ∧ r ≤ 2147483658) ∧ (h' 1 1 = 2147483648) ∧ Tt tB tN (tv h 0) (tv h 2) (tv h 3) (tv h 4) (tv h 5) (some (tv h' 2, tv h' 3, tv h' 4, tv h' 5)) ∧ tv h' 0 = tv h 0 ∧ tv h' 1 = tv h 1 + 1 ∧ r = tv h 1 + 1 ∧ tv h 1 < 2147483658 ∧ h' 0 8 = h 0 9 ∧ h' 0 9 = h 0 8 ∧ h' 0 11 = 2147483647) (fun E h' => J h' ∧ Fr 1548112372031163 h h' ∧ (E = 0 ∨ E = 3) ∧ (h' 1 1 = 2147483648) ∧ Te tB tN (tv h 0) (tv h 1) (tv h 2) (tv h 3) (tv h 4) (tv h 5) E ∧ (∀ i, tv h' i = tv h i) ∧ h' 0 8 = h 0 8 ∧ h' 0 9 = h 0 9 ∧ (E = 0 → TF tB tN (tv h 0) (tv h 2) (tv h 3) (tv h 4) (tv h 5) (h' 0 11)) ∧ (E = 3 → h' 0 11 = 2147483647))) 0 0 0 [x_r 0, 147573952589676412928] [] h := by
  have hF := Fr.refl 1548112372031163 h
  refine x_aload (np := 1) (x := 0) (by decide +kernel) rfl (x_nc_le (by decide)) ?_
  have t1 : tw (h 0 9) := hJ.2.2.1
  refine x_getR (np := 4) (x := 649) (f := 9) (q := (h 0 9)) (by decide +kernel) (by decide) (by decide +kernel) rfl ?_
  refine x_aload (np := 5) (x := 0) (by decide +kernel) rfl (x_nc_le (by decide)) ?_
  have t2 : tw (h 0 8) := hJ.2.1
  refine x_getR (np := 8) (x := 648) (f := 8) (q := (h 0 8)) (by decide +kernel) (by decide) (by decide +kernel) rfl ?_
  refine x_cV (t := 6) (mj := 84) (n := 2) (rc := 9) (ml := 2) (nr := 0) (np := 11) (as := [x_r (h 0 9), x_r (h 0 8)]) (rest := []) (lo1 := [x_r (h 0 9), x_r (h 0 8)]) (by decide +kernel) (by decide) (by decide +kernel) (x_rb_of (tr_0_9 t1)) rfl rfl (x_wr (tn_0 t1) (x_wr (tn_0 t2) x_wn)) x_wn (by decide) rfl (c84_T0_T0 hJ t1 t2) (fun h6 q5 => ?_)
  obtain ⟨j7, f8, c11, c12, c13, c14, c15, c16, c17⟩ := q5
  have f18 := Fr.trans hF f8 (by decide)
  have b19 := jB (e := 7) 0 hJ (rg_T0_7_0_1 t2) (by first | decide | omega) (by first | decide | omega)
  have b20 := jB (e := 7) 0 j7 (rg_T0_7_0_1 t1) (by first | decide | omega) (by first | decide | omega)
  have b21 := jB (e := 2) 0 hJ (rg_T1_2_0_1 t2) (by first | decide | omega) (by first | decide | omega)
  have b22 := jB (e := 2) 0 j7 (rg_T1_2_0_1 t1) (by first | decide | omega) (by first | decide | omega)
  have b23 := jB (e := 2) 0 hJ (rg_T3_2_0_1 t2) (by first | decide | omega) (by first | decide | omega)
  have b24 := jB (e := 2) 0 j7 (rg_T3_2_0_1 t1) (by first | decide | omega) (by first | decide | omega)
  have b25 := jB (e := 2) 0 hJ (rg_T5_2_0_1 t2) (by first | decide | omega) (by first | decide | omega)
  have b26 := jB (e := 2) 0 j7 (rg_T5_2_0_1 t1) (by first | decide | omega) (by first | decide | omega)
  have b27 := jB (e := 2) 0 hJ (rg_T7_2_0_1 t2) (by first | decide | omega) (by first | decide | omega)
  have b28 := jB (e := 2) 0 j7 (rg_T7_2_0_1 t1) (by first | decide | omega) (by first | decide | omega)
  refine x_aload (np := 12) (x := 0) (by decide +kernel) rfl (x_nc_le (by decide)) ?_
  have q29 : h6 0 3 = 61 := by have z := jB (e := 3) 0 j7 rg_0_3_0_1 (by decide) (by decide); omega
  refine x_getR (np := 15) (x := 643) (f := 3) (q := 61) (by decide +kernel) (by decide) (by decide +kernel) q29 ?_
  refine x_aload (np := 16) (x := 0) (by decide +kernel) rfl (x_nc_le (by decide)) ?_
  have q30 : h6 0 9 = h 0 9 := f8 0 9 (by decide +kernel)
  refine x_getR (np := 19) (x := 649) (f := 9) (q := (h 0 9)) (by decide +kernel) (by decide) (by decide +kernel) q30 ?_
  have m34 := Tp.fr hT f8 (by decide) (by decide)
  refine x_cI (t := 6) (mj := 92) (n := 2) (rc := 10) (ml := 3) (nr := 0) (np := 22) (as := [x_r 61, x_r (h 0 9)]) (rest := []) (lo1 := [x_r 61, x_r (h 0 9), 147573952589676412928]) (by decide +kernel) (by decide) (by decide +kernel) (x_rb_of (by decide +kernel)) rfl rfl (x_wr (by decide) (x_wr (tn_0 t1) x_wn)) x_wn (by decide) rfl (c92_61_T0 j7  t1 m34) (fun v31 h35 l32 q33 => ?_)
  obtain ⟨j36, f37, b38, c39, c40, c41, c42, c43⟩ := q33
  have f44 := Fr.trans f18 f37 (by decide)
  have b45 := jB (e := 7) 0 j36 (rg_T0_7_0_1 t1) (by first | decide | omega) (by first | decide | omega)
  refine x_istore (np := 23) (x := 1) (lo' := [x_r 0, iv_c v31]) (by decide +kernel) l32 (Nat.le_of_ble_eq_true rfl) rfl ?_
  refine x_aload (np := 24) (x := 0) (by decide +kernel) rfl (x_nc_le (by decide)) ?_
  refine x_iload (np := 25) (x := 1) (by decide +kernel) rfl l32 ?_
  refine x_nV (t := 6) (mj := 141) (n := 2) (rc := 11) (ml := 2) (nr := 0) (np := 28) (as := [x_r 0, iv_c v31]) (rest := []) (lo1 := [x_r 0, iv_c v31]) (by decide +kernel) (by decide) (by decide +kernel) (x_rb_of (by decide +kernel)) rfl rfl (x_wr (by decide) (x_wi l32 x_wn)) x_wn (by decide) rfl ?_
  refine x_aload (np := 1) (x := 0) (by decide +kernel) rfl (x_nc_le (by decide)) ?_
  refine x_iload (np := 2) (x := 1) (by decide +kernel) rfl l32 ?_
  refine x_ifz (k := 0) (tg := 9) (np := 5) (by decide +kernel) (by decide) l32 (fun q46 => ?_) (fun q47 => ?_)
  · have q46 : v31 = 2147483648 := q46
    refine x_aload (np := 10) (x := 0) (by decide +kernel) rfl (x_nc_le (by decide)) ?_
    have q48 : h35 0 0 = 1 := by have z := jB (e := 0) 0 j36 rg_0_0_0_1 (by decide) (by decide); omega
    refine x_getR (np := 13) (x := 640) (f := 0) (q := 1) (by decide +kernel) (by decide) (by decide +kernel) q48 ?_
    have b49 := jB (e := 2) 0 j36 rg_1_2_0_1 (by first | decide | omega) (by first | decide | omega)
    refine x_getC (np := 16) (x := 450) (f := 2) (q := (h35 1 2)) (by decide +kernel) (by decide) (by decide +kernel) rfl (fun l50 => ?_)
    refine x_putI (np := 19) (x := 651) (f := 11) (by decide +kernel) (by decide +kernel) l50 (Or.inl (by decide)) ?_
    have j52 := jU (e := 11) (v := (h35 1 2)) 0 j36 rg_0_11_0_1 (by first | decide | omega) (by first | decide | omega) (by first | decide | omega)
    have f54 := jF (e := 11) (v := (h35 1 2)) 0 f44 rg_0_11_0_1 (by first | decide | omega) (by first | decide | omega) (by decide)
    generalize e53 : x_up h35 0 11 (h35 1 2) = h51 at j52 f54 ⊢
    refine x_aload (np := 20) (x := 0) (by decide +kernel) rfl (x_nc_le (by decide)) ?_
    have q55 : h51 0 0 = 1 := by have z := jB (e := 0) 0 j52 rg_0_0_0_1 (by decide) (by decide); omega
    refine x_getR (np := 23) (x := 640) (f := 0) (q := 1) (by decide +kernel) (by decide) (by decide +kernel) q55 ?_
    refine x_const (np := 24) (x := 9223372039002259456) (a := 2147483648) (by decide +kernel) (by decide) (by decide) ?_
    refine x_putI (np := 27) (x := 449) (f := 1) (by decide +kernel) (by decide +kernel) (by decide) (Or.inl (by decide)) ?_
    have j57 := jU (e := 1) (v := 2147483648) 0 j52 rg_1_1_0_1 (by first | decide | omega) (by first | decide | omega) (by first | decide | omega)
    have f59 := jF (e := 1) (v := 2147483648) 0 f54 rg_1_1_0_1 (by first | decide | omega) (by first | decide | omega) (by decide)
    generalize e58 : x_up h51 1 1 2147483648 = h56 at j57 f59 ⊢
    refine x_retV (np := 28) (x := 0) (by decide +kernel) (by decide +kernel) ⟨rfl, ?_⟩
    refine x_iload (np := 29) (x := 1) (by decide +kernel) rfl l32 ?_
    refine x_ifz (k := 1) (tg := 42) (np := 32) (by decide +kernel) (by decide) l32 (fun q60 => ?_) (fun q61 => ?_)
    · have q60 : v31 ≠ 2147483648 := q60
      exfalso; omega
    have q61 : ¬ (v31 ≠ 2147483648) := q61
    have q62 : h56 1 1 = 2147483648 := by rw [← e58]; exact x_up_at
    have e63 : tv h 0 = (h (h 0 8) 7) := (congrArg (fun z => svq h z 0) rfl).trans rfl
    have e64 : tv h 1 = (h (h 0 8) 8) := (congrArg (fun z => svq h z 1) rfl).trans rfl
    have e65 : tv h 2 = (h ((h 0 8) + 1) 2) := (congrArg (fun z => svq h z 2) rfl).trans rfl
    have b66 := jB (e := 2) 0 j36 (rg_T1_2_0_1 t1) (by first | decide | omega) (by first | decide | omega)
    have e67 : tv h 3 = (h ((h 0 8) + 3) 2) := (congrArg (fun z => svq h z 3) rfl).trans rfl
    have b68 := jB (e := 2) 0 j36 (rg_T3_2_0_1 t1) (by first | decide | omega) (by first | decide | omega)
    have e69 : tv h 4 = (h ((h 0 8) + 5) 2) := (congrArg (fun z => svq h z 4) rfl).trans rfl
    have b70 := jB (e := 2) 0 j36 (rg_T5_2_0_1 t1) (by first | decide | omega) (by first | decide | omega)
    have e71 : tv h 5 = (h ((h 0 8) + 7) 2) := (congrArg (fun z => svq h z 5) rfl).trans rfl
    have b72 := jB (e := 2) 0 j36 (rg_T7_2_0_1 t1) (by first | decide | omega) (by first | decide | omega)
    have c73 := Tt.cast (pe' := tv h 0) (l1 := tv h 2) (t1 := tv h 3) (d1 := tv h 4) (s1 := tv h 5) c41 (by first | decide | omega) (by first | decide | omega) (by first | decide | omega) (by first | decide | omega) (by first | decide | omega)
    have q74 : h56 0 8 = h51 0 8 := by rw [← e58]; exact x_up_k (by decide)
    have q75 : h51 0 8 = h35 0 8 := by rw [← e53]; exact x_up_i (by first | decide | omega)
    have q76 : h35 0 8 = h6 0 8 := f37 0 8 (by decide +kernel)
    have q77 : h6 0 8 = h 0 8 := f8 0 8 (by decide +kernel)
    have q78 : h56 0 9 = h51 0 9 := by rw [← e58]; exact x_up_k (by decide)
    have q79 : h51 0 9 = h35 0 9 := by rw [← e53]; exact x_up_i (by first | decide | omega)
    have q80 : h35 0 9 = h6 0 9 := f37 0 9 (by decide +kernel)
    have q81 : h6 0 9 = h 0 9 := f8 0 9 (by decide +kernel)
    have m82 : Ot (h 0 9) h h6 := Ot.trans Ot.refl (c17)
    have m83 : Ot (h 0 9) h h35 := Ot.trans m82 (c42)
    have m84 : Ot (h 0 9) h h51 := by rw [← e53]; exact Ot.oth m83 (by decide)
    have m85 : Ot (h 0 9) h h56 := by rw [← e58]; exact Ot.oth m84 (by decide)
    have m86 : ∀ i, tv h56 i = tv h i := fun i => (congrArg (fun z => svq h56 z i) (((q74.trans q75).trans q76).trans q77)).trans (m85 _ t2 hp0 i)
    have q87 : h56 0 11 = h51 0 11 := by rw [← e58]; exact x_up_k (by decide)
    have q88 : h51 0 11 = (h35 1 2) := by rw [← e53]; exact x_up_at
    refine x_thr (np := 35) (x := 0) (by decide +kernel) (by decide +kernel) (Nat.le_trans x_wn (by decide)) (Or.inr ⟨_, rfl, ?_⟩)
    exact ⟨j57, f59, by decide, (by first | decide | omega), (Or.inl ⟨rfl, Tt.none4 c73 (by first | decide | omega)⟩), m86, (((q74.trans q75).trans q76).trans q77), (((q78.trans q79).trans q80).trans q81), (fun _ => TF.cast (c43 (by first | decide | omega)) (by first | decide | omega) (by first | decide | omega) (by first | decide | omega) (by first | decide | omega) (by first | decide | omega) (by first | decide | omega)), (fun z => absurd z (by decide))⟩
  have q47 : ¬ (v31 = 2147483648) := q47
  refine x_const (np := 6) (x := 9223372034707292159) (a := 2147483647) (by decide +kernel) (by decide) (by decide) ?_
  refine x_goto (np := 9) (x := 16) (by decide +kernel) ?_
  refine x_putI (np := 19) (x := 651) (f := 11) (by decide +kernel) (by decide +kernel) (by decide) (Or.inl (by decide)) ?_
  have j90 := jU (e := 11) (v := 2147483647) 0 j36 rg_0_11_0_1 (by first | decide | omega) (by first | decide | omega) (by first | decide | omega)
  have f92 := jF (e := 11) (v := 2147483647) 0 f44 rg_0_11_0_1 (by first | decide | omega) (by first | decide | omega) (by decide)
  generalize e91 : x_up h35 0 11 2147483647 = h89 at j90 f92 ⊢
  refine x_aload (np := 20) (x := 0) (by decide +kernel) rfl (x_nc_le (by decide)) ?_
  have q93 : h89 0 0 = 1 := by have z := jB (e := 0) 0 j90 rg_0_0_0_1 (by decide) (by decide); omega
  refine x_getR (np := 23) (x := 640) (f := 0) (q := 1) (by decide +kernel) (by decide) (by decide +kernel) q93 ?_
  refine x_const (np := 24) (x := 9223372039002259456) (a := 2147483648) (by decide +kernel) (by decide) (by decide) ?_
  refine x_putI (np := 27) (x := 449) (f := 1) (by decide +kernel) (by decide +kernel) (by decide) (Or.inl (by decide)) ?_
  have j95 := jU (e := 1) (v := 2147483648) 0 j90 rg_1_1_0_1 (by first | decide | omega) (by first | decide | omega) (by first | decide | omega)
  have f97 := jF (e := 1) (v := 2147483648) 0 f92 rg_1_1_0_1 (by first | decide | omega) (by first | decide | omega) (by decide)
  generalize e96 : x_up h89 1 1 2147483648 = h94 at j95 f97 ⊢
  refine x_retV (np := 28) (x := 0) (by decide +kernel) (by decide +kernel) ⟨rfl, ?_⟩
  refine x_iload (np := 29) (x := 1) (by decide +kernel) rfl l32 ?_
  refine x_ifz (k := 1) (tg := 42) (np := 32) (by decide +kernel) (by decide) l32 (fun q98 => ?_) (fun q99 => ?_)
  · have q98 : v31 ≠ 2147483648 := q98
    have m100 : Ot (h 0 9) h h6 := Ot.trans Ot.refl (c17)
    have m101 : Ot (h 0 9) h h35 := Ot.trans m100 (c42)
    have z102 : h35 (h 0 8) 8 = h (h 0 8) 8 := m101 _ t2 hp0 1
    have e103 : tv h 1 = (h (h 0 8) 8) := (congrArg (fun z => svq h z 1) rfl).trans rfl
    refine x_aload (np := 43) (x := 0) (by decide +kernel) rfl (x_nc_le (by decide)) ?_
    have q104 : h94 0 8 = h89 0 8 := by rw [← e96]; exact x_up_k (by decide)
    have q105 : h89 0 8 = h35 0 8 := by rw [← e91]; exact x_up_i (by first | decide | omega)
    have q106 : h35 0 8 = h6 0 8 := f37 0 8 (by decide +kernel)
    have q107 : h6 0 8 = h 0 8 := f8 0 8 (by decide +kernel)
    refine x_getR (np := 46) (x := 648) (f := 8) (q := (h 0 8)) (by decide +kernel) (by decide) (by decide +kernel) (((q104.trans q105).trans q106).trans q107) ?_
    have q108 : h94 (h 0 8) 8 = h89 (h 0 8) 8 := by rw [← e96]; exact x_up_k (tne_0_1 t2)
    have q109 : h89 (h 0 8) 8 = h35 (h 0 8) 8 := by rw [← e91]; exact x_up_k (tne_0_0 t2)
    refine x_getC (np := 49) (x := 520) (f := 8) (q := (h35 (h 0 8) 8)) (by decide +kernel) (by decide) (tg_0_520_8_0 t2) (q108.trans q109) (fun l110 => ?_)
    refine x_const (np := 51) (x := 9223372081951932426) (a := 2147483658) (by decide +kernel) (by decide) (by decide) ?_
    refine x_icmp (k := 2) (tg := 64) (np := 54) (by decide +kernel) (by decide) l110 (by decide) (fun q111 => ?_) (fun q112 => ?_)
    · have q111 : (h35 (h 0 8) 8) < 2147483658 := q111
      refine x_aload (np := 65) (x := 0) (by decide +kernel) rfl (x_nc_le (by decide)) ?_
      have q113 : h94 0 9 = h89 0 9 := by rw [← e96]; exact x_up_k (by decide)
      have q114 : h89 0 9 = h35 0 9 := by rw [← e91]; exact x_up_i (by first | decide | omega)
      have q115 : h35 0 9 = h6 0 9 := f37 0 9 (by decide +kernel)
      have q116 : h6 0 9 = h 0 9 := f8 0 9 (by decide +kernel)
      refine x_getR (np := 68) (x := 649) (f := 9) (q := (h 0 9)) (by decide +kernel) (by decide) (by decide +kernel) (((q113.trans q114).trans q115).trans q116) ?_
      refine x_dup (np := 69) (x := 0) (by decide +kernel) (by have z := x_nc_le (k := (h 0 9)) (tn_0 t1); unfold x_r; omega) ?_
      have q117 : h94 (h 0 9) 8 = h89 (h 0 9) 8 := by rw [← e96]; exact x_up_k (tne_0_1 t1)
      have q118 : h89 (h 0 9) 8 = h35 (h 0 9) 8 := by rw [← e91]; exact x_up_k (tne_0_0 t1)
      refine x_getC (np := 72) (x := 520) (f := 8) (q := (h35 (h 0 9) 8)) (by decide +kernel) (by decide) (tg_0_520_8_0 t1) (q117.trans q118) (fun l119 => ?_)
      refine x_const (np := 73) (x := 9223372043297226753) (a := 2147483649) (by decide +kernel) (by decide) (by decide) ?_
      refine x_iadd (np := 74) (x := 0) (v := (1 + (h35 (h 0 9) 8))) (by decide +kernel) l119 (by decide) (by first | decide | omega) (by first | decide | omega) ?_
      refine x_putI (np := 77) (x := 520) (f := 8) (by decide +kernel) (tg_0_520_8_0 t1) (by first | decide | omega) (Or.inl (by decide)) ?_
      have j121 := jU (e := 8) (v := (1 + (h35 (h 0 9) 8))) 0 j95 (rg_T0_8_0_1 t1) (by first | decide | omega) (by first | decide | omega) (by first | decide | omega)
      have f123 := jF (e := 8) (v := (1 + (h35 (h 0 9) 8))) 0 f97 (rg_T0_8_0_1 t1) (by first | decide | omega) (by first | decide | omega) (by decide)
      generalize e122 : x_up h94 (h 0 9) 8 (1 + (h35 (h 0 9) 8)) = h120 at j121 f123 ⊢
      refine x_aload (np := 78) (x := 0) (by decide +kernel) rfl (x_nc_le (by decide)) ?_
      refine x_nV (t := 6) (mj := 142) (n := 1) (rc := 11) (ml := 2) (nr := 0) (np := 81) (as := [x_r 0]) (rest := []) (lo1 := [x_r 0, 147573952589676412928]) (by decide +kernel) (by decide) (by decide +kernel) (x_rb_of (by decide +kernel)) rfl rfl (x_wr (by decide) x_wn) x_wn (by decide) rfl ?_
      refine x_aload (np := 1) (x := 0) (by decide +kernel) rfl (x_nc_le (by decide)) ?_
      have q124 : h120 0 8 = h94 0 8 := by rw [← e122]; exact x_up_k (Ne.symm (tne_0_0 t1))
      have q125 : h94 0 8 = h89 0 8 := by rw [← e96]; exact x_up_k (by decide)
      have q126 : h89 0 8 = h35 0 8 := by rw [← e91]; exact x_up_i (by first | decide | omega)
      have q127 : h35 0 8 = h6 0 8 := f37 0 8 (by decide +kernel)
      have q128 : h6 0 8 = h 0 8 := f8 0 8 (by decide +kernel)
      refine x_getR (np := 4) (x := 648) (f := 8) (q := (h 0 8)) (by decide +kernel) (by decide) (by decide +kernel) ((((q124.trans q125).trans q126).trans q127).trans q128) ?_
      refine x_astore (np := 5) (x := 1) (lo' := [x_r 0, x_r (h 0 8)]) (by decide +kernel) (x_nc_le (tn_0 t2)) (Nat.le_of_ble_eq_true rfl) rfl ?_
      refine x_aload (np := 6) (x := 0) (by decide +kernel) rfl (x_nc_le (by decide)) ?_
      refine x_aload (np := 7) (x := 0) (by decide +kernel) rfl (x_nc_le (by decide)) ?_
      have q129 : h120 0 9 = h94 0 9 := by rw [← e122]; exact x_up_k (Ne.symm (tne_0_0 t1))
      have q130 : h94 0 9 = h89 0 9 := by rw [← e96]; exact x_up_k (by decide)
      have q131 : h89 0 9 = h35 0 9 := by rw [← e91]; exact x_up_i (by first | decide | omega)
      have q132 : h35 0 9 = h6 0 9 := f37 0 9 (by decide +kernel)
      have q133 : h6 0 9 = h 0 9 := f8 0 9 (by decide +kernel)
      refine x_getR (np := 10) (x := 649) (f := 9) (q := (h 0 9)) (by decide +kernel) (by decide) (by decide +kernel) ((((q129.trans q130).trans q131).trans q132).trans q133) ?_
      refine x_putR (np := 13) (x := 8840) (f := 8) (by decide +kernel) (by decide +kernel) (tn_0 t1) (by decide) ?_
      have j135 := J_upW (k := 0) (i := 8) j121 t1 (by decide)
      have f137 := Fr.up (k := 0) (i := 8) (v := (h 0 9)) f123 (by decide +kernel)
      generalize e136 : x_up h120 0 8 (h 0 9) = h134 at j135 f137 ⊢
      refine x_aload (np := 14) (x := 0) (by decide +kernel) rfl (x_nc_le (by decide)) ?_
      refine x_aload (np := 15) (x := 1) (by decide +kernel) rfl (x_nc_le (tn_0 t2)) ?_
      refine x_putR (np := 18) (x := 8841) (f := 9) (by decide +kernel) (by decide +kernel) (tn_0 t2) (by decide) ?_
      have j139 := J_upW (k := 0) (i := 9) j135 t2 (by decide)
      have f141 := Fr.up (k := 0) (i := 9) (v := (h 0 8)) f137 (by decide +kernel)
      generalize e140 : x_up h134 0 9 (h 0 8) = h138 at j139 f141 ⊢
      refine x_retV (np := 19) (x := 0) (by decide +kernel) (by decide +kernel) ⟨rfl, ?_⟩
      refine x_aload (np := 82) (x := 0) (by decide +kernel) rfl (x_nc_le (by decide)) ?_
      refine x_nV (t := 6) (mj := 143) (n := 1) (rc := 11) (ml := 1) (nr := 0) (np := 85) (as := [x_r 0]) (rest := []) (lo1 := [x_r 0]) (by decide +kernel) (by decide) (by decide +kernel) (x_rb_of (by decide +kernel)) rfl rfl (x_wr (by decide) x_wn) x_wn (by decide) rfl ?_
      refine x_aload (np := 1) (x := 0) (by decide +kernel) rfl (x_nc_le (by decide)) ?_
      have q142 : h138 0 1 = 45 := by have z := jB (e := 1) 0 j139 rg_0_1_0_1 (by decide) (by decide); omega
      refine x_getR (np := 4) (x := 641) (f := 1) (q := 45) (by decide +kernel) (by decide) (by decide +kernel) q142 ?_
      refine x_aload (np := 5) (x := 0) (by decide +kernel) rfl (x_nc_le (by decide)) ?_
      have q143 : h138 0 8 = h134 0 8 := by rw [← e140]; exact x_up_i (by first | decide | omega)
      have q144 : h134 0 8 = (h 0 9) := by rw [← e136]; exact x_up_at
      refine x_getR (np := 8) (x := 648) (f := 8) (q := (h 0 9)) (by decide +kernel) (by decide) (by decide +kernel) (q143.trans q144) ?_
      refine x_cV (t := 6) (mj := 4) (n := 2) (rc := 2) (ml := 3) (nr := 0) (np := 11) (as := [x_r 45, x_r (h 0 9)]) (rest := []) (lo1 := [x_r 45, x_r (h 0 9), 147573952589676412928]) (by decide +kernel) (by decide) (by decide +kernel) (x_rb_of (by decide +kernel)) rfl rfl (x_wr (by decide) (x_wr (tn_0 t1) x_wn)) x_wn (by decide) rfl (c4_45_T0 j139  t1) (fun h148 q147 => ?_)
      obtain ⟨j149, f150⟩ := q147
      have f153 := Fr.trans f141 f150 (by decide)
      refine x_aload (np := 12) (x := 0) (by decide +kernel) rfl (x_nc_le (by decide)) ?_
      have q154 : h148 0 5 = 63 := by have z := jB (e := 5) 0 j149 rg_0_5_0_1 (by decide) (by decide); omega
      refine x_getR (np := 15) (x := 645) (f := 5) (q := 63) (by decide +kernel) (by decide) (by decide +kernel) q154 ?_
      refine x_nV (t := 8) (mj := 270) (n := 1) (rc := 5) (ml := 1) (nr := 0) (np := 18) (as := [x_r 63]) (rest := []) (lo1 := [x_r 63]) (by decide +kernel) (by decide) (by decide +kernel) (x_rb_of (by decide +kernel)) rfl rfl (x_wr (by decide) x_wn) x_wn (by decide) rfl ?_
      refine x_aload (np := 1) (x := 0) (by decide +kernel) rfl (x_nc_le (by decide)) ?_
      refine x_const (np := 2) (x := 9223372039002259456) (a := 2147483648) (by decide +kernel) (by decide) (by decide) ?_
      refine x_putI (np := 5) (x := 4878) (f := 14) (by decide +kernel) (by decide +kernel) (by decide) (Or.inr ⟨by decide, by first | decide | omega, by first | decide | omega⟩) ?_
      have j156 := jU (e := 14) (v := 2147483648) 0 j149 rg_63_14_0_1 (by first | decide | omega) (by first | decide | omega) (by first | decide | omega)
      have f158 := jF (e := 14) (v := 2147483648) 0 f153 rg_63_14_0_1 (by first | decide | omega) (by first | decide | omega) (by decide)
      generalize e157 : x_up h148 63 14 2147483648 = h155 at j156 f158 ⊢
      refine x_retV (np := 6) (x := 0) (by decide +kernel) (by decide +kernel) ⟨rfl, ?_⟩
      refine x_aload (np := 19) (x := 0) (by decide +kernel) rfl (x_nc_le (by decide)) ?_
      have q159 : h155 0 6 = 69 := by have z := jB (e := 6) 0 j156 rg_0_6_0_1 (by decide) (by decide); omega
      refine x_getR (np := 22) (x := 646) (f := 6) (q := 69) (by decide +kernel) (by decide) (by decide +kernel) q159 ?_
      refine x_nV (t := 8) (mj := 270) (n := 1) (rc := 6) (ml := 1) (nr := 0) (np := 25) (as := [x_r 69]) (rest := []) (lo1 := [x_r 69]) (by decide +kernel) (by decide) (by decide +kernel) (x_rb_of (by decide +kernel)) rfl rfl (x_wr (by decide) x_wn) x_wn (by decide) rfl ?_
      refine x_aload (np := 1) (x := 0) (by decide +kernel) rfl (x_nc_le (by decide)) ?_
      refine x_const (np := 2) (x := 9223372039002259456) (a := 2147483648) (by decide +kernel) (by decide) (by decide) ?_
      refine x_putI (np := 5) (x := 4878) (f := 14) (by decide +kernel) (by decide +kernel) (by decide) (Or.inr ⟨by decide, by first | decide | omega, by first | decide | omega⟩) ?_
      have j161 := jU (e := 14) (v := 2147483648) 0 j156 rg_69_14_0_1 (by first | decide | omega) (by first | decide | omega) (by first | decide | omega)
      have f163 := jF (e := 14) (v := 2147483648) 0 f158 rg_69_14_0_1 (by first | decide | omega) (by first | decide | omega) (by decide)
      generalize e162 : x_up h155 69 14 2147483648 = h160 at j161 f163 ⊢
      refine x_retV (np := 6) (x := 0) (by decide +kernel) (by decide +kernel) ⟨rfl, ?_⟩
      refine x_retV (np := 26) (x := 0) (by decide +kernel) (by decide +kernel) ⟨rfl, ?_⟩
      refine x_aload (np := 86) (x := 0) (by decide +kernel) rfl (x_nc_le (by decide)) ?_
      have q164 : h160 0 8 = h155 0 8 := by rw [← e162]; exact x_up_k (by decide)
      have q165 : h155 0 8 = h148 0 8 := by rw [← e157]; exact x_up_k (by decide)
      have q166 : h148 0 8 = h138 0 8 := f150 0 8 (by decide +kernel)
      have q167 : h138 0 8 = h134 0 8 := by rw [← e140]; exact x_up_i (by first | decide | omega)
      have q168 : h134 0 8 = (h 0 9) := by rw [← e136]; exact x_up_at
      refine x_getR (np := 89) (x := 648) (f := 8) (q := (h 0 9)) (by decide +kernel) (by decide) (by decide +kernel) ((((q164.trans q165).trans q166).trans q167).trans q168) ?_
      have q169 : h160 (h 0 9) 8 = h155 (h 0 9) 8 := by rw [← e162]; exact x_up_k (tne_0_69 t1)
      have q170 : h155 (h 0 9) 8 = h148 (h 0 9) 8 := by rw [← e157]; exact x_up_k (tne_0_63 t1)
      have q171 : h148 (h 0 9) 8 = h138 (h 0 9) 8 := jK 0 f150 (rg_T0_8_0_1 t1) (by first | decide | omega) (by first | decide | omega) (by decide)
      have q172 : h138 (h 0 9) 8 = h134 (h 0 9) 8 := by rw [← e140]; exact x_up_k (tne_0_0 t1)
      have q173 : h134 (h 0 9) 8 = h120 (h 0 9) 8 := by rw [← e136]; exact x_up_k (tne_0_0 t1)
      have q174 : h120 (h 0 9) 8 = (1 + (h35 (h 0 9) 8)) := by rw [← e122]; exact x_up_at
      refine x_getC (np := 92) (x := 520) (f := 8) (q := (1 + (h35 (h 0 9) 8))) (by decide +kernel) (by decide) (tg_0_520_8_0 t1) (((((q169.trans q170).trans q171).trans q172).trans q173).trans q174) (fun l175 => ?_)
      have q176 : h160 1 1 = h155 1 1 := by rw [← e162]; exact x_up_k (by decide)
      have q177 : h155 1 1 = h148 1 1 := by rw [← e157]; exact x_up_k (by decide)
      have q178 : h148 1 1 = h138 1 1 := jK 0 f150 rg_1_1_0_1 (by first | decide | omega) (by first | decide | omega) (by decide)
      have q179 : h138 1 1 = h134 1 1 := by rw [← e140]; exact x_up_k (by decide)
      have q180 : h134 1 1 = h120 1 1 := by rw [← e136]; exact x_up_k (by decide)
      have q181 : h120 1 1 = h94 1 1 := by rw [← e122]; exact x_up_k (Ne.symm (tne_0_1 t1))
      have q182 : h94 1 1 = 2147483648 := by rw [← e96]; exact x_up_at
      have e183 : tv h 0 = (h (h 0 8) 7) := (congrArg (fun z => svq h z 0) rfl).trans rfl
      have e184 : tv h 2 = (h ((h 0 8) + 1) 2) := (congrArg (fun z => svq h z 2) rfl).trans rfl
      have b185 := jB (e := 2) 0 j36 (rg_T1_2_0_1 t1) (by first | decide | omega) (by first | decide | omega)
      have e186 : tv h 3 = (h ((h 0 8) + 3) 2) := (congrArg (fun z => svq h z 3) rfl).trans rfl
      have b187 := jB (e := 2) 0 j36 (rg_T3_2_0_1 t1) (by first | decide | omega) (by first | decide | omega)
      have e188 : tv h 4 = (h ((h 0 8) + 5) 2) := (congrArg (fun z => svq h z 4) rfl).trans rfl
      have b189 := jB (e := 2) 0 j36 (rg_T5_2_0_1 t1) (by first | decide | omega) (by first | decide | omega)
      have e190 : tv h 5 = (h ((h 0 8) + 7) 2) := (congrArg (fun z => svq h z 5) rfl).trans rfl
      have b191 := jB (e := 2) 0 j36 (rg_T7_2_0_1 t1) (by first | decide | omega) (by first | decide | omega)
      have c192 := Tt.cast (pe' := tv h 0) (l1 := tv h 2) (t1 := tv h 3) (d1 := tv h 4) (s1 := tv h 5) c41 (by first | decide | omega) (by first | decide | omega) (by first | decide | omega) (by first | decide | omega) (by first | decide | omega)
      have q193 : h160 0 8 = h155 0 8 := by rw [← e162]; exact x_up_k (by decide)
      have q194 : h155 0 8 = h148 0 8 := by rw [← e157]; exact x_up_k (by decide)
      have q195 : h148 0 8 = h138 0 8 := f150 0 8 (by decide +kernel)
      have q196 : h138 0 8 = h134 0 8 := by rw [← e140]; exact x_up_i (by first | decide | omega)
      have q197 : h134 0 8 = (h 0 9) := by rw [← e136]; exact x_up_at
      have q198 : h160 (h 0 9) 7 = h155 (h 0 9) 7 := by rw [← e162]; exact x_up_k (tne_0_69 t1)
      have q199 : h155 (h 0 9) 7 = h148 (h 0 9) 7 := by rw [← e157]; exact x_up_k (tne_0_63 t1)
      have q200 : h148 (h 0 9) 7 = h138 (h 0 9) 7 := jK 0 f150 (rg_T0_7_0_1 t1) (by first | decide | omega) (by first | decide | omega) (by decide)
      have q201 : h138 (h 0 9) 7 = h134 (h 0 9) 7 := by rw [← e140]; exact x_up_k (tne_0_0 t1)
      have q202 : h134 (h 0 9) 7 = h120 (h 0 9) 7 := by rw [← e136]; exact x_up_k (tne_0_0 t1)
      have q203 : h120 (h 0 9) 7 = h94 (h 0 9) 7 := by rw [← e122]; exact x_up_i (by first | decide | omega)
      have q204 : h94 (h 0 9) 7 = h89 (h 0 9) 7 := by rw [← e96]; exact x_up_k (tne_0_1 t1)
      have q205 : h89 (h 0 9) 7 = h35 (h 0 9) 7 := by rw [← e91]; exact x_up_k (tne_0_0 t1)
      have e206 : tv h160 0 = (h35 (h 0 9) 7) := (congrArg (fun z => svq h160 z 0) ((((q193.trans q194).trans q195).trans q196).trans q197)).trans (((((((q198.trans q199).trans q200).trans q201).trans q202).trans q203).trans q204).trans q205)
      have q207 : h160 0 8 = h155 0 8 := by rw [← e162]; exact x_up_k (by decide)
      have q208 : h155 0 8 = h148 0 8 := by rw [← e157]; exact x_up_k (by decide)
      have q209 : h148 0 8 = h138 0 8 := f150 0 8 (by decide +kernel)
      have q210 : h138 0 8 = h134 0 8 := by rw [← e140]; exact x_up_i (by first | decide | omega)
      have q211 : h134 0 8 = (h 0 9) := by rw [← e136]; exact x_up_at
      have q212 : h160 (h 0 9) 8 = h155 (h 0 9) 8 := by rw [← e162]; exact x_up_k (tne_0_69 t1)
      have q213 : h155 (h 0 9) 8 = h148 (h 0 9) 8 := by rw [← e157]; exact x_up_k (tne_0_63 t1)
      have q214 : h148 (h 0 9) 8 = h138 (h 0 9) 8 := jK 0 f150 (rg_T0_8_0_1 t1) (by first | decide | omega) (by first | decide | omega) (by decide)
      have q215 : h138 (h 0 9) 8 = h134 (h 0 9) 8 := by rw [← e140]; exact x_up_k (tne_0_0 t1)
      have q216 : h134 (h 0 9) 8 = h120 (h 0 9) 8 := by rw [← e136]; exact x_up_k (tne_0_0 t1)
      have q217 : h120 (h 0 9) 8 = (1 + (h35 (h 0 9) 8)) := by rw [← e122]; exact x_up_at
      have e218 : tv h160 1 = (1 + (h35 (h 0 9) 8)) := (congrArg (fun z => svq h160 z 1) ((((q207.trans q208).trans q209).trans q210).trans q211)).trans (((((q212.trans q213).trans q214).trans q215).trans q216).trans q217)
      have q219 : h160 0 8 = h155 0 8 := by rw [← e162]; exact x_up_k (by decide)
      have q220 : h155 0 8 = h148 0 8 := by rw [← e157]; exact x_up_k (by decide)
      have q221 : h148 0 8 = h138 0 8 := f150 0 8 (by decide +kernel)
      have q222 : h138 0 8 = h134 0 8 := by rw [← e140]; exact x_up_i (by first | decide | omega)
      have q223 : h134 0 8 = (h 0 9) := by rw [← e136]; exact x_up_at
      have q224 : h160 ((h 0 9) + 1) 2 = h155 ((h 0 9) + 1) 2 := by rw [← e162]; exact x_up_k (tne_1_69 t1)
      have q225 : h155 ((h 0 9) + 1) 2 = h148 ((h 0 9) + 1) 2 := by rw [← e157]; exact x_up_k (tne_1_63 t1)
      have q226 : h148 ((h 0 9) + 1) 2 = h138 ((h 0 9) + 1) 2 := jK 0 f150 (rg_T1_2_0_1 t1) (by first | decide | omega) (by first | decide | omega) (by decide)
      have q227 : h138 ((h 0 9) + 1) 2 = h134 ((h 0 9) + 1) 2 := by rw [← e140]; exact x_up_k (tne_1_0 t1)
      have q228 : h134 ((h 0 9) + 1) 2 = h120 ((h 0 9) + 1) 2 := by rw [← e136]; exact x_up_k (tne_1_0 t1)
      have q229 : h120 ((h 0 9) + 1) 2 = h94 ((h 0 9) + 1) 2 := by rw [← e122]; exact x_up_k tof_1_0
      have q230 : h94 ((h 0 9) + 1) 2 = h89 ((h 0 9) + 1) 2 := by rw [← e96]; exact x_up_k (tne_1_1 t1)
      have q231 : h89 ((h 0 9) + 1) 2 = h35 ((h 0 9) + 1) 2 := by rw [← e91]; exact x_up_k (tne_1_0 t1)
      have e232 : tv h160 2 = (h35 ((h 0 9) + 1) 2) := (congrArg (fun z => svq h160 z 2) ((((q219.trans q220).trans q221).trans q222).trans q223)).trans (((((((q224.trans q225).trans q226).trans q227).trans q228).trans q229).trans q230).trans q231)
      have q233 : h160 0 8 = h155 0 8 := by rw [← e162]; exact x_up_k (by decide)
      have q234 : h155 0 8 = h148 0 8 := by rw [← e157]; exact x_up_k (by decide)
      have q235 : h148 0 8 = h138 0 8 := f150 0 8 (by decide +kernel)
      have q236 : h138 0 8 = h134 0 8 := by rw [← e140]; exact x_up_i (by first | decide | omega)
      have q237 : h134 0 8 = (h 0 9) := by rw [← e136]; exact x_up_at
      have q238 : h160 ((h 0 9) + 3) 2 = h155 ((h 0 9) + 3) 2 := by rw [← e162]; exact x_up_k (tne_3_69 t1)
      have q239 : h155 ((h 0 9) + 3) 2 = h148 ((h 0 9) + 3) 2 := by rw [← e157]; exact x_up_k (tne_3_63 t1)
      have q240 : h148 ((h 0 9) + 3) 2 = h138 ((h 0 9) + 3) 2 := jK 0 f150 (rg_T3_2_0_1 t1) (by first | decide | omega) (by first | decide | omega) (by decide)
      have q241 : h138 ((h 0 9) + 3) 2 = h134 ((h 0 9) + 3) 2 := by rw [← e140]; exact x_up_k (tne_3_0 t1)
      have q242 : h134 ((h 0 9) + 3) 2 = h120 ((h 0 9) + 3) 2 := by rw [← e136]; exact x_up_k (tne_3_0 t1)
      have q243 : h120 ((h 0 9) + 3) 2 = h94 ((h 0 9) + 3) 2 := by rw [← e122]; exact x_up_k tof_3_0
      have q244 : h94 ((h 0 9) + 3) 2 = h89 ((h 0 9) + 3) 2 := by rw [← e96]; exact x_up_k (tne_3_1 t1)
      have q245 : h89 ((h 0 9) + 3) 2 = h35 ((h 0 9) + 3) 2 := by rw [← e91]; exact x_up_k (tne_3_0 t1)
      have e246 : tv h160 3 = (h35 ((h 0 9) + 3) 2) := (congrArg (fun z => svq h160 z 3) ((((q233.trans q234).trans q235).trans q236).trans q237)).trans (((((((q238.trans q239).trans q240).trans q241).trans q242).trans q243).trans q244).trans q245)
      have q247 : h160 0 8 = h155 0 8 := by rw [← e162]; exact x_up_k (by decide)
      have q248 : h155 0 8 = h148 0 8 := by rw [← e157]; exact x_up_k (by decide)
      have q249 : h148 0 8 = h138 0 8 := f150 0 8 (by decide +kernel)
      have q250 : h138 0 8 = h134 0 8 := by rw [← e140]; exact x_up_i (by first | decide | omega)
      have q251 : h134 0 8 = (h 0 9) := by rw [← e136]; exact x_up_at
      have q252 : h160 ((h 0 9) + 5) 2 = h155 ((h 0 9) + 5) 2 := by rw [← e162]; exact x_up_k (tne_5_69 t1)
      have q253 : h155 ((h 0 9) + 5) 2 = h148 ((h 0 9) + 5) 2 := by rw [← e157]; exact x_up_k (tne_5_63 t1)
      have q254 : h148 ((h 0 9) + 5) 2 = h138 ((h 0 9) + 5) 2 := jK 0 f150 (rg_T5_2_0_1 t1) (by first | decide | omega) (by first | decide | omega) (by decide)
      have q255 : h138 ((h 0 9) + 5) 2 = h134 ((h 0 9) + 5) 2 := by rw [← e140]; exact x_up_k (tne_5_0 t1)
      have q256 : h134 ((h 0 9) + 5) 2 = h120 ((h 0 9) + 5) 2 := by rw [← e136]; exact x_up_k (tne_5_0 t1)
      have q257 : h120 ((h 0 9) + 5) 2 = h94 ((h 0 9) + 5) 2 := by rw [← e122]; exact x_up_k tof_5_0
      have q258 : h94 ((h 0 9) + 5) 2 = h89 ((h 0 9) + 5) 2 := by rw [← e96]; exact x_up_k (tne_5_1 t1)
      have q259 : h89 ((h 0 9) + 5) 2 = h35 ((h 0 9) + 5) 2 := by rw [← e91]; exact x_up_k (tne_5_0 t1)
      have e260 : tv h160 4 = (h35 ((h 0 9) + 5) 2) := (congrArg (fun z => svq h160 z 4) ((((q247.trans q248).trans q249).trans q250).trans q251)).trans (((((((q252.trans q253).trans q254).trans q255).trans q256).trans q257).trans q258).trans q259)
      have q261 : h160 0 8 = h155 0 8 := by rw [← e162]; exact x_up_k (by decide)
      have q262 : h155 0 8 = h148 0 8 := by rw [← e157]; exact x_up_k (by decide)
      have q263 : h148 0 8 = h138 0 8 := f150 0 8 (by decide +kernel)
      have q264 : h138 0 8 = h134 0 8 := by rw [← e140]; exact x_up_i (by first | decide | omega)
      have q265 : h134 0 8 = (h 0 9) := by rw [← e136]; exact x_up_at
      have q266 : h160 ((h 0 9) + 7) 2 = h155 ((h 0 9) + 7) 2 := by rw [← e162]; exact x_up_k (tne_7_69 t1)
      have q267 : h155 ((h 0 9) + 7) 2 = h148 ((h 0 9) + 7) 2 := by rw [← e157]; exact x_up_k (tne_7_63 t1)
      have q268 : h148 ((h 0 9) + 7) 2 = h138 ((h 0 9) + 7) 2 := jK 0 f150 (rg_T7_2_0_1 t1) (by first | decide | omega) (by first | decide | omega) (by decide)
      have q269 : h138 ((h 0 9) + 7) 2 = h134 ((h 0 9) + 7) 2 := by rw [← e140]; exact x_up_k (tne_7_0 t1)
      have q270 : h134 ((h 0 9) + 7) 2 = h120 ((h 0 9) + 7) 2 := by rw [← e136]; exact x_up_k (tne_7_0 t1)
      have q271 : h120 ((h 0 9) + 7) 2 = h94 ((h 0 9) + 7) 2 := by rw [← e122]; exact x_up_k tof_7_0
      have q272 : h94 ((h 0 9) + 7) 2 = h89 ((h 0 9) + 7) 2 := by rw [← e96]; exact x_up_k (tne_7_1 t1)
      have q273 : h89 ((h 0 9) + 7) 2 = h35 ((h 0 9) + 7) 2 := by rw [← e91]; exact x_up_k (tne_7_0 t1)
      have e274 : tv h160 5 = (h35 ((h 0 9) + 7) 2) := (congrArg (fun z => svq h160 z 5) ((((q261.trans q262).trans q263).trans q264).trans q265)).trans (((((((q266.trans q267).trans q268).trans q269).trans q270).trans q271).trans q272).trans q273)
      have q275 : h160 0 8 = h155 0 8 := by rw [← e162]; exact x_up_k (by decide)
      have q276 : h155 0 8 = h148 0 8 := by rw [← e157]; exact x_up_k (by decide)
      have q277 : h148 0 8 = h138 0 8 := f150 0 8 (by decide +kernel)
      have q278 : h138 0 8 = h134 0 8 := by rw [← e140]; exact x_up_i (by first | decide | omega)
      have q279 : h134 0 8 = (h 0 9) := by rw [← e136]; exact x_up_at
      have q280 : h160 0 9 = h155 0 9 := by rw [← e162]; exact x_up_k (by decide)
      have q281 : h155 0 9 = h148 0 9 := by rw [← e157]; exact x_up_k (by decide)
      have q282 : h148 0 9 = h138 0 9 := f150 0 9 (by decide +kernel)
      have q283 : h138 0 9 = (h 0 8) := by rw [← e140]; exact x_up_at
      have q284 : h160 0 11 = h155 0 11 := by rw [← e162]; exact x_up_k (by decide)
      have q285 : h155 0 11 = h148 0 11 := by rw [← e157]; exact x_up_k (by decide)
      have q286 : h148 0 11 = h138 0 11 := jK 0 f150 rg_0_11_0_1 (by first | decide | omega) (by first | decide | omega) (by decide)
      have q287 : h138 0 11 = h134 0 11 := by rw [← e140]; exact x_up_i (by first | decide | omega)
      have q288 : h134 0 11 = h120 0 11 := by rw [← e136]; exact x_up_i (by first | decide | omega)
      have q289 : h120 0 11 = h94 0 11 := by rw [← e122]; exact x_up_k (Ne.symm (tne_0_0 t1))
      have q290 : h94 0 11 = h89 0 11 := by rw [← e96]; exact x_up_k (by decide)
      have q291 : h89 0 11 = 2147483647 := by rw [← e91]; exact x_up_at
      refine x_retI (np := 93) (x := 0) (by decide +kernel) (by first | decide | omega) (Or.inl (by decide +kernel)) (Or.inl ⟨_, rfl, (by first | decide | omega), ?_⟩)
      exact ⟨j161, f163, (by first | decide | omega), (by first | decide | omega), (Tt.some4 c192 (by first | decide | omega) (by first | decide | omega) (by first | decide | omega) (by first | decide | omega) (by first | decide | omega)), (by first | decide | omega), (by first | decide | omega), (by first | decide | omega), (by first | decide | omega), ((((q275.trans q276).trans q277).trans q278).trans q279), (((q280.trans q281).trans q282).trans q283), (by first | decide | omega)⟩
    have q112 : ¬ ((h35 (h 0 8) 8) < 2147483658) := q112
    have q292 : h94 1 1 = 2147483648 := by rw [← e96]; exact x_up_at
    have e293 : tv h 0 = (h (h 0 8) 7) := (congrArg (fun z => svq h z 0) rfl).trans rfl
    have e294 : tv h 2 = (h ((h 0 8) + 1) 2) := (congrArg (fun z => svq h z 2) rfl).trans rfl
    have b295 := jB (e := 2) 0 j36 (rg_T1_2_0_1 t1) (by first | decide | omega) (by first | decide | omega)
    have e296 : tv h 3 = (h ((h 0 8) + 3) 2) := (congrArg (fun z => svq h z 3) rfl).trans rfl
    have b297 := jB (e := 2) 0 j36 (rg_T3_2_0_1 t1) (by first | decide | omega) (by first | decide | omega)
    have e298 : tv h 4 = (h ((h 0 8) + 5) 2) := (congrArg (fun z => svq h z 4) rfl).trans rfl
    have b299 := jB (e := 2) 0 j36 (rg_T5_2_0_1 t1) (by first | decide | omega) (by first | decide | omega)
    have e300 : tv h 5 = (h ((h 0 8) + 7) 2) := (congrArg (fun z => svq h z 5) rfl).trans rfl
    have b301 := jB (e := 2) 0 j36 (rg_T7_2_0_1 t1) (by first | decide | omega) (by first | decide | omega)
    have c302 := Tt.cast (pe' := tv h 0) (l1 := tv h 2) (t1 := tv h 3) (d1 := tv h 4) (s1 := tv h 5) c41 (by first | decide | omega) (by first | decide | omega) (by first | decide | omega) (by first | decide | omega) (by first | decide | omega)
    have q303 : h94 0 8 = h89 0 8 := by rw [← e96]; exact x_up_k (by decide)
    have q304 : h89 0 8 = h35 0 8 := by rw [← e91]; exact x_up_i (by first | decide | omega)
    have q305 : h35 0 8 = h6 0 8 := f37 0 8 (by decide +kernel)
    have q306 : h6 0 8 = h 0 8 := f8 0 8 (by decide +kernel)
    have q307 : h94 0 9 = h89 0 9 := by rw [← e96]; exact x_up_k (by decide)
    have q308 : h89 0 9 = h35 0 9 := by rw [← e91]; exact x_up_i (by first | decide | omega)
    have q309 : h35 0 9 = h6 0 9 := f37 0 9 (by decide +kernel)
    have q310 : h6 0 9 = h 0 9 := f8 0 9 (by decide +kernel)
    have m311 : Ot (h 0 9) h h89 := by rw [← e91]; exact Ot.oth m101 (by decide)
    have m312 : Ot (h 0 9) h h94 := by rw [← e96]; exact Ot.oth m311 (by decide)
    have m313 : ∀ i, tv h94 i = tv h i := fun i => (congrArg (fun z => svq h94 z i) (((q303.trans q304).trans q305).trans q306)).trans (m312 _ t2 hp0 i)
    have q314 : h94 0 11 = h89 0 11 := by rw [← e96]; exact x_up_k (by decide)
    have q315 : h89 0 11 = 2147483647 := by rw [← e91]; exact x_up_at
    refine x_thr (np := 57) (x := 3) (by decide +kernel) (by decide +kernel) (Nat.le_trans x_wn (by decide)) (Or.inr ⟨_, rfl, ?_⟩)
    exact ⟨j95, f97, by decide, (by first | decide | omega), (Or.inr ⟨rfl, by first | decide | omega, _, Tt.some4 c302 (by first | decide | omega) rfl rfl rfl rfl⟩), m313, (((q303.trans q304).trans q305).trans q306), (((q307.trans q308).trans q309).trans q310), (fun z => absurd z (by decide)), (fun _ => by first | decide | omega)⟩
  have q99 : ¬ (v31 ≠ 2147483648) := q99
  exfalso; omega
set_option maxHeartbeats 0 in
/-- LentNamesLaw.tell(LLentNames;[J)I -/
theorem c282_0_97 {sc : Nat × Nat} {d  : Nat} {h : xh} {tB : Nat → Nat} {tN : Nat} (hJ : J h) (hT : Tp tB tN h) (hp0 : h 0 8 ≠ h 0 9) : X sc 282 (d + 11) (xI fun r h' => J h' ∧ Fr 1618481116208827 h h' ∧ (2147483648 ≤ r ∧ r ≤ 2147483650) ∧ (h' 1 1 = 2147483648) ∧ Tc tB tN h h' r ∧ Fc tB tN h h' r) 0 0 0 [x_r 0, x_r 97, 147573952589676412928] [] h := by
  have hF := Fr.refl 1618481116208827 h
  refine x_aload (np := 1) (x := 1) (by decide +kernel) rfl (x_nc_le (by decide)) ?_
  refine x_const (np := 2) (x := 9223372039002259456) (a := 2147483648) (by decide +kernel) (by decide) (by decide) ?_
  refine x_aload (np := 3) (x := 0) (by decide +kernel) rfl (x_nc_le (by decide)) ?_
  refine x_cT (t := 6) (mj := 106) (n := 1) (rc := 11) (ml := 2) (cc := 1) (ss := 6) (nr := 2) (np := 6) (as := [x_r 0]) (rest := [iv_c 2147483648, x_r 97]) (lo1 := [x_r 0, 147573952589676412928]) (by decide +kernel) (by decide) (by decide +kernel) (x_rb_of (by decide +kernel)) rfl rfl (x_wr (by decide) x_wn) (x_wi (by decide) (x_wr (by decide) x_wn)) (by decide) rfl (c106_0 hJ  hT hp0) (fun v15 h18 l16 q17 => ?_) (fun E20 h21 q19 => ?_)
  · obtain ⟨j22, f23, b24, c25, c1, c2, c3, c4, c5, c6, c7, c8⟩ := q17
    have f26 := Fr.trans hF f23 (by decide)
    have b27 := jB (e := 1) 0 j22 rg_1_1_0_1 (by first | decide | omega) (by first | decide | omega)
    refine x_i2l (np := 7) (x := 0) (by decide +kernel) l16 ?_
    refine x_last (np := 8) (x := 0) (n := 1) (i := 0) (by decide +kernel) (by decide) (by decide +kernel) (by decide +kernel) (by first | decide | omega) (by first | decide | omega) (by decide) l16 ?_
    have j29 := jU (e := 0) (v := v15) 0 j22 rg_97_0_1_1 (by first | decide | omega) (by first | decide | omega) (by first | decide | omega)
    have f31 := jF (e := 0) (v := v15) 0 f26 rg_97_0_1_1 (by first | decide | omega) (by first | decide | omega) (by decide)
    generalize e30 : x_up h18 97 0 v15 = h28 at j29 f31 ⊢
    refine x_goto (np := 11) (x := 17) (by decide +kernel) ?_
    refine x_const (np := 18) (x := 9223372039002259456) (a := 2147483648) (by decide +kernel) (by decide) (by decide) ?_
    have q32 : h28 1 1 = h18 1 1 := by rw [← e30]; exact x_up_k (by decide)
    have t33 : tw (h18 0 8) := j22.2.1
    have b34 := jB (e := 7) 0 j22 (rg_T0_7_0_1 t33) (by first | decide | omega) (by first | decide | omega)
    have e35 : tv h18 0 = (h18 (h18 0 8) 7) := (congrArg (fun z => svq h18 z 0) rfl).trans rfl
    have q36 : h28 0 8 = h18 0 8 := by rw [← e30]; exact x_up_k (by decide)
    have q37 : h28 (h18 0 8) 7 = h18 (h18 0 8) 7 := by rw [← e30]; exact x_up_k (tne_0_97 t33)
    have e38 : tv h28 0 = (h18 (h18 0 8) 7) := (congrArg (fun z => svq h28 z 0) q36).trans q37
    have t39 : tw (h 0 8) := hJ.2.1
    have b40 := jB (e := 7) 0 hJ (rg_T0_7_0_1 t39) (by first | decide | omega) (by first | decide | omega)
    have e41 : tv h 0 = (h (h 0 8) 7) := (congrArg (fun z => svq h z 0) rfl).trans rfl
    have e42 : tv h18 1 = (h18 (h18 0 8) 8) := (congrArg (fun z => svq h18 z 1) rfl).trans rfl
    have q43 : h28 0 8 = h18 0 8 := by rw [← e30]; exact x_up_k (by decide)
    have q44 : h28 (h18 0 8) 8 = h18 (h18 0 8) 8 := by rw [← e30]; exact x_up_k (tne_0_97 t33)
    have e45 : tv h28 1 = (h18 (h18 0 8) 8) := (congrArg (fun z => svq h28 z 1) q43).trans q44
    have e46 : tv h 1 = (h (h 0 8) 8) := (congrArg (fun z => svq h z 1) rfl).trans rfl
    have b47 := jB (e := 2) 0 j22 (rg_T1_2_0_1 t33) (by first | decide | omega) (by first | decide | omega)
    have e48 : tv h18 2 = (h18 ((h18 0 8) + 1) 2) := (congrArg (fun z => svq h18 z 2) rfl).trans rfl
    have q49 : h28 0 8 = h18 0 8 := by rw [← e30]; exact x_up_k (by decide)
    have q50 : h28 ((h18 0 8) + 1) 2 = h18 ((h18 0 8) + 1) 2 := by rw [← e30]; exact x_up_k (tne_1_97 t33)
    have e51 : tv h28 2 = (h18 ((h18 0 8) + 1) 2) := (congrArg (fun z => svq h28 z 2) q49).trans q50
    have b52 := jB (e := 2) 0 hJ (rg_T1_2_0_1 t39) (by first | decide | omega) (by first | decide | omega)
    have e53 : tv h 2 = (h ((h 0 8) + 1) 2) := (congrArg (fun z => svq h z 2) rfl).trans rfl
    have b54 := jB (e := 2) 0 j22 (rg_T3_2_0_1 t33) (by first | decide | omega) (by first | decide | omega)
    have e55 : tv h18 3 = (h18 ((h18 0 8) + 3) 2) := (congrArg (fun z => svq h18 z 3) rfl).trans rfl
    have q56 : h28 0 8 = h18 0 8 := by rw [← e30]; exact x_up_k (by decide)
    have q57 : h28 ((h18 0 8) + 3) 2 = h18 ((h18 0 8) + 3) 2 := by rw [← e30]; exact x_up_k (tne_3_97 t33)
    have e58 : tv h28 3 = (h18 ((h18 0 8) + 3) 2) := (congrArg (fun z => svq h28 z 3) q56).trans q57
    have b59 := jB (e := 2) 0 hJ (rg_T3_2_0_1 t39) (by first | decide | omega) (by first | decide | omega)
    have e60 : tv h 3 = (h ((h 0 8) + 3) 2) := (congrArg (fun z => svq h z 3) rfl).trans rfl
    have b61 := jB (e := 2) 0 j22 (rg_T5_2_0_1 t33) (by first | decide | omega) (by first | decide | omega)
    have e62 : tv h18 4 = (h18 ((h18 0 8) + 5) 2) := (congrArg (fun z => svq h18 z 4) rfl).trans rfl
    have q63 : h28 0 8 = h18 0 8 := by rw [← e30]; exact x_up_k (by decide)
    have q64 : h28 ((h18 0 8) + 5) 2 = h18 ((h18 0 8) + 5) 2 := by rw [← e30]; exact x_up_k (tne_5_97 t33)
    have e65 : tv h28 4 = (h18 ((h18 0 8) + 5) 2) := (congrArg (fun z => svq h28 z 4) q63).trans q64
    have b66 := jB (e := 2) 0 hJ (rg_T5_2_0_1 t39) (by first | decide | omega) (by first | decide | omega)
    have e67 : tv h 4 = (h ((h 0 8) + 5) 2) := (congrArg (fun z => svq h z 4) rfl).trans rfl
    have b68 := jB (e := 2) 0 j22 (rg_T7_2_0_1 t33) (by first | decide | omega) (by first | decide | omega)
    have e69 : tv h18 5 = (h18 ((h18 0 8) + 7) 2) := (congrArg (fun z => svq h18 z 5) rfl).trans rfl
    have q70 : h28 0 8 = h18 0 8 := by rw [← e30]; exact x_up_k (by decide)
    have q71 : h28 ((h18 0 8) + 7) 2 = h18 ((h18 0 8) + 7) 2 := by rw [← e30]; exact x_up_k (tne_7_97 t33)
    have e72 : tv h28 5 = (h18 ((h18 0 8) + 7) 2) := (congrArg (fun z => svq h28 z 5) q70).trans q71
    have b73 := jB (e := 2) 0 hJ (rg_T7_2_0_1 t39) (by first | decide | omega) (by first | decide | omega)
    have e74 : tv h 5 = (h ((h 0 8) + 7) 2) := (congrArg (fun z => svq h z 5) rfl).trans rfl
    have q75 : h28 97 0 = v15 := by rw [← e30]; exact x_up_at
    have q76 : h28 0 8 = h18 0 8 := by rw [← e30]; exact x_up_k (by decide)
    have q77 : h28 0 9 = h18 0 9 := by rw [← e30]; exact x_up_k (by decide)
    have t78 : tw (h18 0 9) := j22.2.2.1
    have q79 : h28 0 11 = h18 0 11 := by rw [← e30]; exact x_up_k (by decide)
    refine x_retI (np := 19) (x := 0) (by decide +kernel) (by decide) (Or.inl (by decide +kernel)) ⟨_, rfl, (by decide), ?_⟩
    exact ⟨j29, f31, (by first | decide | omega), (by first | decide | omega), (Or.inl ⟨by first | decide | omega, Tt.seq c1 (by first | decide | omega) (by first | decide | omega) (by first | decide | omega) (by first | decide | omega), by first | decide | omega, by first | decide | omega, by first | decide | omega, by first | decide | omega, (Eq.trans q76 c6), (Eq.trans q77 c7)⟩), ⟨(fun z => absurd z (by first | decide | omega)), fun _ => by first | decide | omega⟩⟩
  obtain ⟨j80, f81, e82, c83, c9, c10, c11, c12, c13, c14⟩ := q19
  have f84 := Fr.trans hF f81 (by decide)
  have b85 := jB (e := 1) 0 j80 rg_1_1_0_1 (by first | decide | omega) (by first | decide | omega)
  rcases e82 with rfl | rfl
  · refine ⟨11, fun _ _ => rfl, ?_⟩
    refine x_astE (np := 12) (x := 2) (lo' := [x_r 0, x_r 97, 55340232221128654850]) (by decide +kernel) (Nat.le_of_ble_eq_true rfl) rfl ?_
    refine x_const (np := 13) (x := 9223372043297226753) (a := 2147483649) (by decide +kernel) (by decide) (by decide) ?_
    refine x_retI (np := 14) (x := 0) (by decide +kernel) (by decide) (Or.inl (by decide +kernel)) ⟨_, rfl, (by decide), ?_⟩
    exact ⟨j80, f84, (by first | decide | omega), (by first | decide | omega), (Or.inr (Or.inl ⟨by first | decide | omega, Te.iae c9, c10, c11, c12⟩)), ⟨fun _ => TF.cast (c13 rfl) rfl rfl rfl rfl rfl (by first | decide | omega), fun z => absurd (by first | decide | omega) z⟩⟩
  · refine ⟨14, fun _ _ => rfl, ?_⟩
    refine x_astE (np := 15) (x := 2) (lo' := [x_r 0, x_r 97, 55340232221128654850]) (by decide +kernel) (Nat.le_of_ble_eq_true rfl) rfl ?_
    refine x_const (np := 16) (x := 9223372047592194050) (a := 2147483650) (by decide +kernel) (by decide) (by decide) ?_
    have z86 := c14 rfl
    refine x_retI (np := 17) (x := 0) (by decide +kernel) (by decide) (Or.inl (by decide +kernel)) ⟨_, rfl, (by decide), ?_⟩
    exact ⟨j80, f84, (by first | decide | omega), (by first | decide | omega), (Or.inr (Or.inr ⟨by first | decide | omega, Te.uoe c9, c10, c11, c12⟩)), ⟨(fun z => absurd z (by first | decide | omega)), fun _ => by first | decide | omega⟩⟩
set_option maxHeartbeats 0 in
/-- LentNames.people(I)V -/
theorem c109_0 {sc : Nat × Nat} {d a1 : Nat} {h : xh} (hJ : J h) (ba1 : 0 ≤ a1 ∧ a1 ≤ 4294967295) : X sc 109 (d + 7) (xU (fun h' => J h' ∧ Fr 422212465171969 h h' ∧ tv h' 0 = a1 ∧ tv h' 1 = tv h 1 ∧ tv h' 2 = tv h 2 ∧ tv h' 3 = tv h 3 ∧ tv h' 4 = tv h 4 ∧ tv h' 5 = tv h 5 ∧ 2147483650 ≤ a1 ∧ a1 ≤ 2147483654 ∧ tv h 1 ≤ 2147483648 ∧ h' 0 8 = h 0 8 ∧ h' 0 9 = h 0 9) (fun E h' => J h' ∧ Fr 422212465171969 h h' ∧ (E = 0 ∨ E = 1) ∧ ((E = 0 ∧ (a1 < 2147483650 ∨ 2147483654 < a1)) ∨ (E = 1 ∧ 2147483650 ≤ a1 ∧ a1 ≤ 2147483654 ∧ 2147483648 < tv h 1)) ∧ h' = h)) 0 0 0 [x_r 0, iv_c a1] [] h := by
  have la1 : a1 < 4294967296 := by first | decide | omega
  have hF := Fr.refl 422212465171969 h
  refine x_iload (np := 1) (x := 1) (by decide +kernel) rfl la1 ?_
  refine x_const (np := 2) (x := 9223372047592194050) (a := 2147483650) (by decide +kernel) (by decide) (by decide) ?_
  refine x_icmp (k := 2) (tg := 11) (np := 5) (by decide +kernel) (by decide) la1 (by decide) (fun q1 => ?_) (fun q2 => ?_)
  · have q1 : a1 < 2147483650 := q1
    have t3 : tw (h 0 8) := hJ.2.1
    have e4 : tv h 1 = (h (h 0 8) 8) := (congrArg (fun z => svq h z 1) rfl).trans rfl
    refine x_thr (np := 14) (x := 0) (by decide +kernel) (by decide +kernel) (Nat.le_trans x_wn (by decide)) (Or.inr ⟨_, rfl, ?_⟩)
    exact ⟨hJ, hF, by decide, (Or.inl ⟨rfl, by first | decide | omega⟩), rfl⟩
  have q2 : ¬ (a1 < 2147483650) := q2
  refine x_iload (np := 6) (x := 1) (by decide +kernel) rfl la1 ?_
  refine x_const (np := 8) (x := 9223372064772063238) (a := 2147483654) (by decide +kernel) (by decide) (by decide) ?_
  refine x_icmp (k := 5) (tg := 21) (np := 11) (by decide +kernel) (by decide) la1 (by decide) (fun q5 => ?_) (fun q6 => ?_)
  · have q5 : a1 ≤ 2147483654 := q5
    refine x_aload (np := 22) (x := 0) (by decide +kernel) rfl (x_nc_le (by decide)) ?_
    have t7 : tw (h 0 8) := hJ.2.1
    refine x_getR (np := 25) (x := 648) (f := 8) (q := (h 0 8)) (by decide +kernel) (by decide) (by decide +kernel) rfl ?_
    refine x_getC (np := 28) (x := 520) (f := 8) (q := (h (h 0 8) 8)) (by decide +kernel) (by decide) (tg_0_520_8_0 t7) rfl (fun l8 => ?_)
    refine x_ifz (k := 5) (tg := 41) (np := 31) (by decide +kernel) (by decide) l8 (fun q9 => ?_) (fun q10 => ?_)
    · have q9 : (h (h 0 8) 8) ≤ 2147483648 := q9
      refine x_aload (np := 42) (x := 0) (by decide +kernel) rfl (x_nc_le (by decide)) ?_
      refine x_getR (np := 45) (x := 648) (f := 8) (q := (h 0 8)) (by decide +kernel) (by decide) (by decide +kernel) rfl ?_
      refine x_iload (np := 46) (x := 1) (by decide +kernel) rfl la1 ?_
      refine x_putI (np := 49) (x := 519) (f := 7) (by decide +kernel) (tg_0_519_7_0 t7) la1 (Or.inl (by decide)) ?_
      have j12 := jU (e := 7) (v := a1) 0 hJ (rg_T0_7_0_1 t7) (by first | decide | omega) (by first | decide | omega) (by first | decide | omega)
      have f14 := jF (e := 7) (v := a1) 0 hF (rg_T0_7_0_1 t7) (by first | decide | omega) (by first | decide | omega) (by decide)
      generalize e13 : x_up h (h 0 8) 7 a1 = h11 at j12 f14 ⊢
      refine x_aload (np := 50) (x := 0) (by decide +kernel) rfl (x_nc_le (by decide)) ?_
      refine x_nV (t := 6) (mj := 143) (n := 1) (rc := 11) (ml := 1) (nr := 0) (np := 53) (as := [x_r 0]) (rest := []) (lo1 := [x_r 0]) (by decide +kernel) (by decide) (by decide +kernel) (x_rb_of (by decide +kernel)) rfl rfl (x_wr (by decide) x_wn) x_wn (by decide) rfl ?_
      refine x_aload (np := 1) (x := 0) (by decide +kernel) rfl (x_nc_le (by decide)) ?_
      have q15 : h11 0 1 = 45 := by have z := jB (e := 1) 0 j12 rg_0_1_0_1 (by decide) (by decide); omega
      refine x_getR (np := 4) (x := 641) (f := 1) (q := 45) (by decide +kernel) (by decide) (by decide +kernel) q15 ?_
      refine x_aload (np := 5) (x := 0) (by decide +kernel) rfl (x_nc_le (by decide)) ?_
      have q16 : h11 0 8 = h 0 8 := by rw [← e13]; exact x_up_k (Ne.symm (tne_0_0 t7))
      refine x_getR (np := 8) (x := 648) (f := 8) (q := (h 0 8)) (by decide +kernel) (by decide) (by decide +kernel) q16 ?_
      refine x_cV (t := 6) (mj := 4) (n := 2) (rc := 2) (ml := 3) (nr := 0) (np := 11) (as := [x_r 45, x_r (h 0 8)]) (rest := []) (lo1 := [x_r 45, x_r (h 0 8), 147573952589676412928]) (by decide +kernel) (by decide) (by decide +kernel) (x_rb_of (by decide +kernel)) rfl rfl (x_wr (by decide) (x_wr (tn_0 t7) x_wn)) x_wn (by decide) rfl (c4_45_T0 j12  t7) (fun h20 q19 => ?_)
      obtain ⟨j21, f22⟩ := q19
      have f25 := Fr.trans f14 f22 (by decide)
      refine x_aload (np := 12) (x := 0) (by decide +kernel) rfl (x_nc_le (by decide)) ?_
      have q26 : h20 0 5 = 63 := by have z := jB (e := 5) 0 j21 rg_0_5_0_1 (by decide) (by decide); omega
      refine x_getR (np := 15) (x := 645) (f := 5) (q := 63) (by decide +kernel) (by decide) (by decide +kernel) q26 ?_
      refine x_nV (t := 8) (mj := 270) (n := 1) (rc := 5) (ml := 1) (nr := 0) (np := 18) (as := [x_r 63]) (rest := []) (lo1 := [x_r 63]) (by decide +kernel) (by decide) (by decide +kernel) (x_rb_of (by decide +kernel)) rfl rfl (x_wr (by decide) x_wn) x_wn (by decide) rfl ?_
      refine x_aload (np := 1) (x := 0) (by decide +kernel) rfl (x_nc_le (by decide)) ?_
      refine x_const (np := 2) (x := 9223372039002259456) (a := 2147483648) (by decide +kernel) (by decide) (by decide) ?_
      refine x_putI (np := 5) (x := 4878) (f := 14) (by decide +kernel) (by decide +kernel) (by decide) (Or.inr ⟨by decide, by first | decide | omega, by first | decide | omega⟩) ?_
      have j28 := jU (e := 14) (v := 2147483648) 0 j21 rg_63_14_0_1 (by first | decide | omega) (by first | decide | omega) (by first | decide | omega)
      have f30 := jF (e := 14) (v := 2147483648) 0 f25 rg_63_14_0_1 (by first | decide | omega) (by first | decide | omega) (by decide)
      generalize e29 : x_up h20 63 14 2147483648 = h27 at j28 f30 ⊢
      refine x_retV (np := 6) (x := 0) (by decide +kernel) (by decide +kernel) ⟨rfl, ?_⟩
      refine x_aload (np := 19) (x := 0) (by decide +kernel) rfl (x_nc_le (by decide)) ?_
      have q31 : h27 0 6 = 69 := by have z := jB (e := 6) 0 j28 rg_0_6_0_1 (by decide) (by decide); omega
      refine x_getR (np := 22) (x := 646) (f := 6) (q := 69) (by decide +kernel) (by decide) (by decide +kernel) q31 ?_
      refine x_nV (t := 8) (mj := 270) (n := 1) (rc := 6) (ml := 1) (nr := 0) (np := 25) (as := [x_r 69]) (rest := []) (lo1 := [x_r 69]) (by decide +kernel) (by decide) (by decide +kernel) (x_rb_of (by decide +kernel)) rfl rfl (x_wr (by decide) x_wn) x_wn (by decide) rfl ?_
      refine x_aload (np := 1) (x := 0) (by decide +kernel) rfl (x_nc_le (by decide)) ?_
      refine x_const (np := 2) (x := 9223372039002259456) (a := 2147483648) (by decide +kernel) (by decide) (by decide) ?_
      refine x_putI (np := 5) (x := 4878) (f := 14) (by decide +kernel) (by decide +kernel) (by decide) (Or.inr ⟨by decide, by first | decide | omega, by first | decide | omega⟩) ?_
      have j33 := jU (e := 14) (v := 2147483648) 0 j28 rg_69_14_0_1 (by first | decide | omega) (by first | decide | omega) (by first | decide | omega)
      have f35 := jF (e := 14) (v := 2147483648) 0 f30 rg_69_14_0_1 (by first | decide | omega) (by first | decide | omega) (by decide)
      generalize e34 : x_up h27 69 14 2147483648 = h32 at j33 f35 ⊢
      refine x_retV (np := 6) (x := 0) (by decide +kernel) (by decide +kernel) ⟨rfl, ?_⟩
      refine x_retV (np := 26) (x := 0) (by decide +kernel) (by decide +kernel) ⟨rfl, ?_⟩
      have q36 : h32 0 8 = h27 0 8 := by rw [← e34]; exact x_up_k (by decide)
      have q37 : h27 0 8 = h20 0 8 := by rw [← e29]; exact x_up_k (by decide)
      have q38 : h20 0 8 = h11 0 8 := f22 0 8 (by decide +kernel)
      have q39 : h11 0 8 = h 0 8 := by rw [← e13]; exact x_up_k (Ne.symm (tne_0_0 t7))
      have q40 : h32 0 9 = h27 0 9 := by rw [← e34]; exact x_up_k (by decide)
      have q41 : h27 0 9 = h20 0 9 := by rw [← e29]; exact x_up_k (by decide)
      have q42 : h20 0 9 = h11 0 9 := f22 0 9 (by decide +kernel)
      have q43 : h11 0 9 = h 0 9 := by rw [← e13]; exact x_up_k (Ne.symm (tne_0_0 t7))
      have t44 : tw (h 0 9) := hJ.2.2.1
      have b45 := jB (e := 7) 0 hJ (rg_T0_7_0_1 t7) (by first | decide | omega) (by first | decide | omega)
      have e46 : tv h 0 = (h (h 0 8) 7) := (congrArg (fun z => svq h z 0) rfl).trans rfl
      have q47 : h32 0 8 = h27 0 8 := by rw [← e34]; exact x_up_k (by decide)
      have q48 : h27 0 8 = h20 0 8 := by rw [← e29]; exact x_up_k (by decide)
      have q49 : h20 0 8 = h11 0 8 := f22 0 8 (by decide +kernel)
      have q50 : h11 0 8 = h 0 8 := by rw [← e13]; exact x_up_k (Ne.symm (tne_0_0 t7))
      have q51 : h32 (h 0 8) 7 = h27 (h 0 8) 7 := by rw [← e34]; exact x_up_k (tne_0_69 t7)
      have q52 : h27 (h 0 8) 7 = h20 (h 0 8) 7 := by rw [← e29]; exact x_up_k (tne_0_63 t7)
      have q53 : h20 (h 0 8) 7 = h11 (h 0 8) 7 := jK 0 f22 (rg_T0_7_0_1 t7) (by first | decide | omega) (by first | decide | omega) (by decide)
      have q54 : h11 (h 0 8) 7 = a1 := by rw [← e13]; exact x_up_at
      have e55 : tv h32 0 = a1 := (congrArg (fun z => svq h32 z 0) (((q47.trans q48).trans q49).trans q50)).trans (((q51.trans q52).trans q53).trans q54)
      have e56 : tv h 1 = (h (h 0 8) 8) := (congrArg (fun z => svq h z 1) rfl).trans rfl
      have q57 : h32 0 8 = h27 0 8 := by rw [← e34]; exact x_up_k (by decide)
      have q58 : h27 0 8 = h20 0 8 := by rw [← e29]; exact x_up_k (by decide)
      have q59 : h20 0 8 = h11 0 8 := f22 0 8 (by decide +kernel)
      have q60 : h11 0 8 = h 0 8 := by rw [← e13]; exact x_up_k (Ne.symm (tne_0_0 t7))
      have q61 : h32 (h 0 8) 8 = h27 (h 0 8) 8 := by rw [← e34]; exact x_up_k (tne_0_69 t7)
      have q62 : h27 (h 0 8) 8 = h20 (h 0 8) 8 := by rw [← e29]; exact x_up_k (tne_0_63 t7)
      have q63 : h20 (h 0 8) 8 = h11 (h 0 8) 8 := jK 0 f22 (rg_T0_8_0_1 t7) (by first | decide | omega) (by first | decide | omega) (by decide)
      have q64 : h11 (h 0 8) 8 = h (h 0 8) 8 := by rw [← e13]; exact x_up_i (by first | decide | omega)
      have e65 : tv h32 1 = (h (h 0 8) 8) := (congrArg (fun z => svq h32 z 1) (((q57.trans q58).trans q59).trans q60)).trans (((q61.trans q62).trans q63).trans q64)
      have b66 := jB (e := 2) 0 hJ (rg_T1_2_0_1 t7) (by first | decide | omega) (by first | decide | omega)
      have e67 : tv h 2 = (h ((h 0 8) + 1) 2) := (congrArg (fun z => svq h z 2) rfl).trans rfl
      have q68 : h32 0 8 = h27 0 8 := by rw [← e34]; exact x_up_k (by decide)
      have q69 : h27 0 8 = h20 0 8 := by rw [← e29]; exact x_up_k (by decide)
      have q70 : h20 0 8 = h11 0 8 := f22 0 8 (by decide +kernel)
      have q71 : h11 0 8 = h 0 8 := by rw [← e13]; exact x_up_k (Ne.symm (tne_0_0 t7))
      have q72 : h32 ((h 0 8) + 1) 2 = h27 ((h 0 8) + 1) 2 := by rw [← e34]; exact x_up_k (tne_1_69 t7)
      have q73 : h27 ((h 0 8) + 1) 2 = h20 ((h 0 8) + 1) 2 := by rw [← e29]; exact x_up_k (tne_1_63 t7)
      have q74 : h20 ((h 0 8) + 1) 2 = h11 ((h 0 8) + 1) 2 := jK 0 f22 (rg_T1_2_0_1 t7) (by first | decide | omega) (by first | decide | omega) (by decide)
      have q75 : h11 ((h 0 8) + 1) 2 = h ((h 0 8) + 1) 2 := by rw [← e13]; exact x_up_k tof_1_0
      have e76 : tv h32 2 = (h ((h 0 8) + 1) 2) := (congrArg (fun z => svq h32 z 2) (((q68.trans q69).trans q70).trans q71)).trans (((q72.trans q73).trans q74).trans q75)
      have b77 := jB (e := 2) 0 hJ (rg_T3_2_0_1 t7) (by first | decide | omega) (by first | decide | omega)
      have e78 : tv h 3 = (h ((h 0 8) + 3) 2) := (congrArg (fun z => svq h z 3) rfl).trans rfl
      have q79 : h32 0 8 = h27 0 8 := by rw [← e34]; exact x_up_k (by decide)
      have q80 : h27 0 8 = h20 0 8 := by rw [← e29]; exact x_up_k (by decide)
      have q81 : h20 0 8 = h11 0 8 := f22 0 8 (by decide +kernel)
      have q82 : h11 0 8 = h 0 8 := by rw [← e13]; exact x_up_k (Ne.symm (tne_0_0 t7))
      have q83 : h32 ((h 0 8) + 3) 2 = h27 ((h 0 8) + 3) 2 := by rw [← e34]; exact x_up_k (tne_3_69 t7)
      have q84 : h27 ((h 0 8) + 3) 2 = h20 ((h 0 8) + 3) 2 := by rw [← e29]; exact x_up_k (tne_3_63 t7)
      have q85 : h20 ((h 0 8) + 3) 2 = h11 ((h 0 8) + 3) 2 := jK 0 f22 (rg_T3_2_0_1 t7) (by first | decide | omega) (by first | decide | omega) (by decide)
      have q86 : h11 ((h 0 8) + 3) 2 = h ((h 0 8) + 3) 2 := by rw [← e13]; exact x_up_k tof_3_0
      have e87 : tv h32 3 = (h ((h 0 8) + 3) 2) := (congrArg (fun z => svq h32 z 3) (((q79.trans q80).trans q81).trans q82)).trans (((q83.trans q84).trans q85).trans q86)
      have b88 := jB (e := 2) 0 hJ (rg_T5_2_0_1 t7) (by first | decide | omega) (by first | decide | omega)
      have e89 : tv h 4 = (h ((h 0 8) + 5) 2) := (congrArg (fun z => svq h z 4) rfl).trans rfl
      have q90 : h32 0 8 = h27 0 8 := by rw [← e34]; exact x_up_k (by decide)
      have q91 : h27 0 8 = h20 0 8 := by rw [← e29]; exact x_up_k (by decide)
      have q92 : h20 0 8 = h11 0 8 := f22 0 8 (by decide +kernel)
      have q93 : h11 0 8 = h 0 8 := by rw [← e13]; exact x_up_k (Ne.symm (tne_0_0 t7))
      have q94 : h32 ((h 0 8) + 5) 2 = h27 ((h 0 8) + 5) 2 := by rw [← e34]; exact x_up_k (tne_5_69 t7)
      have q95 : h27 ((h 0 8) + 5) 2 = h20 ((h 0 8) + 5) 2 := by rw [← e29]; exact x_up_k (tne_5_63 t7)
      have q96 : h20 ((h 0 8) + 5) 2 = h11 ((h 0 8) + 5) 2 := jK 0 f22 (rg_T5_2_0_1 t7) (by first | decide | omega) (by first | decide | omega) (by decide)
      have q97 : h11 ((h 0 8) + 5) 2 = h ((h 0 8) + 5) 2 := by rw [← e13]; exact x_up_k tof_5_0
      have e98 : tv h32 4 = (h ((h 0 8) + 5) 2) := (congrArg (fun z => svq h32 z 4) (((q90.trans q91).trans q92).trans q93)).trans (((q94.trans q95).trans q96).trans q97)
      have b99 := jB (e := 2) 0 hJ (rg_T7_2_0_1 t7) (by first | decide | omega) (by first | decide | omega)
      have e100 : tv h 5 = (h ((h 0 8) + 7) 2) := (congrArg (fun z => svq h z 5) rfl).trans rfl
      have q101 : h32 0 8 = h27 0 8 := by rw [← e34]; exact x_up_k (by decide)
      have q102 : h27 0 8 = h20 0 8 := by rw [← e29]; exact x_up_k (by decide)
      have q103 : h20 0 8 = h11 0 8 := f22 0 8 (by decide +kernel)
      have q104 : h11 0 8 = h 0 8 := by rw [← e13]; exact x_up_k (Ne.symm (tne_0_0 t7))
      have q105 : h32 ((h 0 8) + 7) 2 = h27 ((h 0 8) + 7) 2 := by rw [← e34]; exact x_up_k (tne_7_69 t7)
      have q106 : h27 ((h 0 8) + 7) 2 = h20 ((h 0 8) + 7) 2 := by rw [← e29]; exact x_up_k (tne_7_63 t7)
      have q107 : h20 ((h 0 8) + 7) 2 = h11 ((h 0 8) + 7) 2 := jK 0 f22 (rg_T7_2_0_1 t7) (by first | decide | omega) (by first | decide | omega) (by decide)
      have q108 : h11 ((h 0 8) + 7) 2 = h ((h 0 8) + 7) 2 := by rw [← e13]; exact x_up_k tof_7_0
      have e109 : tv h32 5 = (h ((h 0 8) + 7) 2) := (congrArg (fun z => svq h32 z 5) (((q101.trans q102).trans q103).trans q104)).trans (((q105.trans q106).trans q107).trans q108)
      refine x_retV (np := 54) (x := 0) (by decide +kernel) (by decide +kernel) (Or.inl ⟨rfl, ?_⟩)
      exact ⟨j33, f35, (by first | decide | omega), (by first | decide | omega), (by first | decide | omega), (by first | decide | omega), (by first | decide | omega), (by first | decide | omega), (by first | decide | omega), (by first | decide | omega), (by first | decide | omega), (((q36.trans q37).trans q38).trans q39), (((q40.trans q41).trans q42).trans q43)⟩
    have q10 : ¬ ((h (h 0 8) 8) ≤ 2147483648) := q10
    have e110 : tv h 1 = (h (h 0 8) 8) := (congrArg (fun z => svq h z 1) rfl).trans rfl
    refine x_thr (np := 34) (x := 1) (by decide +kernel) (by decide +kernel) (Nat.le_trans x_wn (by decide)) (Or.inr ⟨_, rfl, ?_⟩)
    exact ⟨hJ, hF, by decide, (Or.inr ⟨rfl, by first | decide | omega, by first | decide | omega, by first | decide | omega⟩), rfl⟩
  have q6 : ¬ (a1 ≤ 2147483654) := q6
  have t111 : tw (h 0 8) := hJ.2.1
  have e112 : tv h 1 = (h (h 0 8) 8) := (congrArg (fun z => svq h z 1) rfl).trans rfl
  refine x_thr (np := 14) (x := 0) (by decide +kernel) (by decide +kernel) (Nat.le_trans x_wn (by decide)) (Or.inr ⟨_, rfl, ?_⟩)
  exact ⟨hJ, hF, by decide, (Or.inl ⟨rfl, by first | decide | omega⟩), rfl⟩
set_option maxHeartbeats 0 in
/-- LentNamesLaw.people(LLentNames;I)I -/
theorem c283_0 {sc : Nat × Nat} {d a1 : Nat} {h : xh} (hJ : J h) (ba1 : 0 ≤ a1 ∧ a1 ≤ 4294967295) : X sc 283 (d + 8) (xI fun r h' => J h' ∧ Fr 422212465171969 h h' ∧ (2147483648 ≤ r ∧ r ≤ 2147483650) ∧ Pc h h' a1 r) 0 0 0 [x_r 0, iv_c a1, 147573952589676412928] [] h := by
  have la1 : a1 < 4294967296 := by first | decide | omega
  have hF := Fr.refl 422212465171969 h
  refine x_aload (np := 1) (x := 0) (by decide +kernel) rfl (x_nc_le (by decide)) ?_
  refine x_iload (np := 2) (x := 1) (by decide +kernel) rfl la1 ?_
  refine x_cTU (t := 6) (mj := 109) (n := 2) (rc := 11) (ml := 2) (cc := 1) (ss := 6) (nr := 0) (np := 5) (as := [x_r 0, iv_c a1]) (rest := []) (lo1 := [x_r 0, iv_c a1]) (by decide +kernel) (by decide) (by decide +kernel) (x_rb_of (by decide +kernel)) rfl rfl (x_wr (by decide) (x_wi la1 x_wn)) x_wn (by decide) rfl (c109_0 hJ  (by first | decide | omega)) (fun h17 q16 => ?_) (fun E19 h20 q18 => ?_)
  · obtain ⟨j21, f22, c1, c2, c3, c4, c5, c6, c7, c8, c9, c10, c11⟩ := q16
    have f24 := Fr.trans hF f22 (by decide)
    refine x_goto (np := 8) (x := 14) (by decide +kernel) ?_
    refine x_const (np := 15) (x := 9223372039002259456) (a := 2147483648) (by decide +kernel) (by decide) (by decide) ?_
    refine x_retI (np := 16) (x := 0) (by decide +kernel) (by decide) (Or.inl (by decide +kernel)) ⟨_, rfl, (by decide), ?_⟩
    exact ⟨j21, f24, (by first | decide | omega), (Or.inl ⟨by first | decide | omega, c1, c2, c3, c4, c5, c6, c7, c8, c9, c10, c11⟩)⟩
  obtain ⟨j25, f26, e27, c12, c13⟩ := q18
  have f28 := Fr.trans hF f26 (by decide)
  rcases e27 with rfl | rfl
  · refine ⟨8, fun _ _ => rfl, ?_⟩
    refine x_astE (np := 9) (x := 2) (lo' := [x_r 0, iv_c a1, 55340232221128654850]) (by decide +kernel) (Nat.le_of_ble_eq_true rfl) rfl ?_
    refine x_const (np := 10) (x := 9223372043297226753) (a := 2147483649) (by decide +kernel) (by decide) (by decide) ?_
    refine x_retI (np := 11) (x := 0) (by decide +kernel) (by decide) (Or.inl (by decide +kernel)) ⟨_, rfl, (by decide), ?_⟩
    exact ⟨j25, f28, (by first | decide | omega), (Or.inr (Or.inl ⟨by first | decide | omega, c12.elim (fun z => z.2) (fun z => absurd z.1 (by decide)), c13⟩))⟩
  · refine ⟨11, fun _ _ => rfl, ?_⟩
    refine x_astE (np := 12) (x := 2) (lo' := [x_r 0, iv_c a1, 55340232221128654850]) (by decide +kernel) (Nat.le_of_ble_eq_true rfl) rfl ?_
    refine x_const (np := 13) (x := 9223372047592194050) (a := 2147483650) (by decide +kernel) (by decide) (by decide) ?_
    refine x_retI (np := 14) (x := 0) (by decide +kernel) (by decide) (Or.inl (by decide +kernel)) ⟨_, rfl, (by decide), ?_⟩
    exact ⟨j25, f28, (by first | decide | omega), (Or.inr (Or.inr ⟨by first | decide | omega, c12.elim (fun z => absurd z.1 (by decide)) (fun z => z.2), c13⟩))⟩
set_option maxHeartbeats 0 in
/-- LentNames.bears(II)I -/
theorem c110_0 {sc : Nat × Nat} {d a1 a2 : Nat} {h : xh} (hJ : J h) (ba1 : 0 ≤ a1 ∧ a1 ≤ 4294967295) (ba2 : 0 ≤ a2 ∧ a2 ≤ 4294967295) : X sc 110 (d + 2) (xT (fun r h' => J h' ∧ Fr 0 h h' ∧ (2147483647 ≤ r ∧ r ≤ 2147483653)) (fun E h' => J h' ∧ Fr 0 h h' ∧ (E = 2))) 0 0 0 [x_r 0, iv_c a1, iv_c a2] [] h := by
  have la1 : a1 < 4294967296 := by first | decide | omega
  have la2 : a2 < 4294967296 := by first | decide | omega
  have hF := Fr.refl 0 h
  refine x_aload (np := 1) (x := 0) (by decide +kernel) rfl (x_nc_le (by decide)) ?_
  refine x_iload (np := 2) (x := 1) (by decide +kernel) rfl la1 ?_
  refine x_nU (t := 6) (mj := 144) (n := 2) (rc := 11) (ml := 2) (cc := 1) (ss := 6) (nr := 0) (np := 5) (as := [x_r 0, iv_c a1]) (rest := []) (lo1 := [x_r 0, iv_c a1]) (by decide +kernel) (by decide) (by decide +kernel) (by decide +kernel) (x_rb_of (by decide +kernel)) rfl rfl (x_wr (by decide) (x_wi la1 x_wn)) x_wn (by decide) rfl ?_
  refine x_iload (np := 1) (x := 1) (by decide +kernel) rfl la1 ?_
  refine x_ifz (k := 2) (tg := 15) (np := 4) (by decide +kernel) (by decide) la1 (fun q1 => ?_) (fun q2 => ?_)
  · have q1 : a1 < 2147483648 := q1
    refine x_thr (np := 18) (x := 2) (by decide +kernel) (by decide +kernel) (Nat.le_trans x_wn (by decide)) (Or.inr ⟨_, rfl, ?_⟩)
    refine Or.inr ⟨_, rfl, ?_⟩
    exact ⟨hJ, hF, by decide⟩
  have q2 : ¬ (a1 < 2147483648) := q2
  refine x_iload (np := 5) (x := 1) (by decide +kernel) rfl la1 ?_
  refine x_aload (np := 6) (x := 0) (by decide +kernel) rfl (x_nc_le (by decide)) ?_
  have t3 : tw (h 0 8) := hJ.2.1
  refine x_getR (np := 9) (x := 648) (f := 8) (q := (h 0 8)) (by decide +kernel) (by decide) (by decide +kernel) rfl ?_
  have b4 := jB (e := 7) 0 hJ (rg_T0_7_0_1 t3) (by first | decide | omega) (by first | decide | omega)
  refine x_getC (np := 12) (x := 519) (f := 7) (q := (h (h 0 8) 7)) (by decide +kernel) (by decide) (tg_0_519_7_0 t3) rfl (fun l5 => ?_)
  refine x_icmp (k := 2) (tg := 26) (np := 15) (by decide +kernel) (by decide) la1 l5 (fun q6 => ?_) (fun q7 => ?_)
  · have q6 : a1 < (h (h 0 8) 7) := q6
    refine x_retV (np := 27) (x := 0) (by decide +kernel) (by decide +kernel) (Or.inl ⟨rfl, ?_⟩)
    refine x_iload (np := 6) (x := 2) (by decide +kernel) rfl la2 ?_
    refine x_nU (t := 0) (mj := 146) (n := 1) (rc := 0) (ml := 1) (cc := 1) (ss := 6) (nr := 0) (np := 9) (as := [iv_c a2]) (rest := []) (lo1 := [iv_c a2]) (by decide +kernel) (by decide) (by decide +kernel) (by decide +kernel) (Or.inl rfl) rfl rfl (x_wi la2 x_wn) x_wn (by decide) rfl ?_
    refine x_iload (np := 1) (x := 0) (by decide +kernel) rfl la2 ?_
    refine x_ifz (k := 2) (tg := 10) (np := 4) (by decide +kernel) (by decide) la2 (fun q8 => ?_) (fun q9 => ?_)
    · have q8 : a2 < 2147483648 := q8
      refine x_thr (np := 13) (x := 2) (by decide +kernel) (by decide +kernel) (Nat.le_trans x_wn (by decide)) (Or.inr ⟨_, rfl, ?_⟩)
      refine Or.inr ⟨_, rfl, ?_⟩
      exact ⟨hJ, hF, by decide⟩
    have q9 : ¬ (a2 < 2147483648) := q9
    refine x_iload (np := 5) (x := 0) (by decide +kernel) rfl la2 ?_
    refine x_const (np := 7) (x := 9223372090541867020) (a := 2147483660) (by decide +kernel) (by decide) (by decide) ?_
    refine x_icmp (k := 2) (tg := 21) (np := 10) (by decide +kernel) (by decide) la2 (by decide) (fun q10 => ?_) (fun q11 => ?_)
    · have q10 : a2 < 2147483660 := q10
      refine x_retV (np := 22) (x := 0) (by decide +kernel) (by decide +kernel) (Or.inl ⟨rfl, ?_⟩)
      refine x_aload (np := 10) (x := 0) (by decide +kernel) rfl (x_nc_le (by decide)) ?_
      have q12 : h 0 1 = 45 := by have z := jB (e := 1) 0 hJ rg_0_1_0_1 (by decide) (by decide); omega
      refine x_getR (np := 13) (x := 641) (f := 1) (q := 45) (by decide +kernel) (by decide) (by decide +kernel) q12 ?_
      refine x_iload (np := 14) (x := 1) (by decide +kernel) rfl la1 ?_
      refine x_iload (np := 15) (x := 2) (by decide +kernel) rfl la2 ?_
      refine x_cP (t := 6) (mj := 5) (n := 3) (rc := 2) (ml := 3) (nr := 0) (np := 18) (as := [x_r 45, iv_c a1, iv_c a2]) (rest := []) (lo1 := [x_r 45, iv_c a1, iv_c a2]) (by decide +kernel) (by decide) (by decide +kernel) (x_rb_of (by decide +kernel)) rfl rfl (x_wr (by decide) (x_wi la1 (x_wi la2 x_wn))) x_wn (by decide) rfl (c5_45 hJ  (by first | decide | omega) (by first | decide | omega)) (fun v13 l14 q15 => ?_)
      refine x_retI (np := 19) (x := 0) (by decide +kernel) l14 (Or.inl (by decide +kernel)) (Or.inl ⟨_, rfl, l14, ?_⟩)
      exact ⟨hJ, hF, (by first | decide | omega)⟩
    have q11 : ¬ (a2 < 2147483660) := q11
    refine x_thr (np := 13) (x := 2) (by decide +kernel) (by decide +kernel) (Nat.le_trans x_wn (by decide)) (Or.inr ⟨_, rfl, ?_⟩)
    refine Or.inr ⟨_, rfl, ?_⟩
    exact ⟨hJ, hF, by decide⟩
  have q7 : ¬ (a1 < (h (h 0 8) 7)) := q7
  refine x_thr (np := 18) (x := 2) (by decide +kernel) (by decide +kernel) (Nat.le_trans x_wn (by decide)) (Or.inr ⟨_, rfl, ?_⟩)
  refine Or.inr ⟨_, rfl, ?_⟩
  exact ⟨hJ, hF, by decide⟩
set_option maxHeartbeats 0 in
/-- LentNamesLaw.bears(LLentNames;II[J)I -/
theorem c284_0_97 {sc : Nat × Nat} {d a1 a2 : Nat} {h : xh} (hJ : J h) (ba1 : 0 ≤ a1 ∧ a1 ≤ 4294967295) (ba2 : 0 ≤ a2 ∧ a2 ≤ 4294967295) : X sc 284 (d + 3) (xI fun r h' => J h' ∧ Fr 70368744177664 h h' ∧ (2147483648 ≤ r ∧ r ≤ 2147483649)) 0 0 0 [x_r 0, iv_c a1, iv_c a2, x_r 97, 147573952589676412928] [] h := by
  have la1 : a1 < 4294967296 := by first | decide | omega
  have la2 : a2 < 4294967296 := by first | decide | omega
  have hF := Fr.refl 70368744177664 h
  refine x_aload (np := 1) (x := 3) (by decide +kernel) rfl (x_nc_le (by decide)) ?_
  refine x_const (np := 2) (x := 9223372039002259456) (a := 2147483648) (by decide +kernel) (by decide) (by decide) ?_
  refine x_aload (np := 3) (x := 0) (by decide +kernel) rfl (x_nc_le (by decide)) ?_
  refine x_iload (np := 4) (x := 1) (by decide +kernel) rfl la1 ?_
  refine x_iload (np := 5) (x := 2) (by decide +kernel) rfl la2 ?_
  refine x_cT (t := 6) (mj := 110) (n := 3) (rc := 11) (ml := 3) (cc := 2) (ss := 12) (nr := 2) (np := 8) (as := [x_r 0, iv_c a1, iv_c a2]) (rest := [iv_c 2147483648, x_r 97]) (lo1 := [x_r 0, iv_c a1, iv_c a2]) (by decide +kernel) (by decide) (by decide +kernel) (x_rb_of (by decide +kernel)) rfl rfl (x_wr (by decide) (x_wi la1 (x_wi la2 x_wn))) (x_wi (by decide) (x_wr (by decide) x_wn)) (by decide) rfl (c110_0 hJ  (by first | decide | omega) (by first | decide | omega)) (fun v1 h4 l2 q3 => ?_) (fun E6 h7 q5 => ?_)
  · obtain ⟨j8, f9, b10⟩ := q3
    have f11 := Fr.trans hF f9 (by decide)
    refine x_i2l (np := 9) (x := 0) (by decide +kernel) l2 ?_
    refine x_last (np := 10) (x := 0) (n := 1) (i := 0) (by decide +kernel) (by decide) (by decide +kernel) (by decide +kernel) (by first | decide | omega) (by first | decide | omega) (by decide) l2 ?_
    have j13 := jU (e := 0) (v := v1) 0 j8 rg_97_0_1_1 (by first | decide | omega) (by first | decide | omega) (by first | decide | omega)
    have f15 := jF (e := 0) (v := v1) 0 f11 rg_97_0_1_1 (by first | decide | omega) (by first | decide | omega) (by decide)
    generalize e14 : x_up h4 97 0 v1 = h12 at j13 f15 ⊢
    refine x_goto (np := 13) (x := 17) (by decide +kernel) ?_
    refine x_const (np := 18) (x := 9223372039002259456) (a := 2147483648) (by decide +kernel) (by decide) (by decide) ?_
    refine x_retI (np := 19) (x := 0) (by decide +kernel) (by decide) (Or.inl (by decide +kernel)) ⟨_, rfl, (by decide), ?_⟩
    exact ⟨j13, f15, (by first | decide | omega)⟩
  obtain ⟨j16, f17, e18⟩ := q5
  have f19 := Fr.trans hF f17 (by decide)
  rcases e18 with rfl
  · refine ⟨13, fun _ _ => rfl, ?_⟩
    refine x_astE (np := 15) (x := 4) (lo' := [x_r 0, iv_c a1, iv_c a2, x_r 97, 55340232221128654850]) (by decide +kernel) (Nat.le_of_ble_eq_true rfl) rfl ?_
    refine x_const (np := 16) (x := 9223372043297226753) (a := 2147483649) (by decide +kernel) (by decide) (by decide) ?_
    refine x_retI (np := 17) (x := 0) (by decide +kernel) (by decide) (Or.inl (by decide +kernel)) ⟨_, rfl, (by decide), ?_⟩
    exact ⟨j16, f19, (by first | decide | omega)⟩
set_option maxHeartbeats 0 in
/-- LentNames$Calendar.namesOf(II)I -/
theorem c8_45 {sc : Nat × Nat} {d a1 a2 : Nat} {h : xh} (hJ : J h) (ba1 : 2147483648 ≤ a1 ∧ a1 ≤ 2147483653) (ba2 : 2147483648 ≤ a2 ∧ a2 ≤ 2147483659) : X sc 8 (d + 2) (xI fun r h' => h' = h ∧ (0 ≤ r ∧ r ≤ 4294967295)) 0 0 0 [x_r 45, iv_c a1, iv_c a2, 147573952589676412928, 147573952589676412928] [] h := by
  have la1 : a1 < 4294967296 := by first | decide | omega
  have la2 : a2 < 4294967296 := by first | decide | omega
  refine x_const (np := 1) (x := 9223372039002259456) (a := 2147483648) (by decide +kernel) (by decide) (by decide) ?_
  refine x_istore (np := 2) (x := 3) (lo' := [x_r 45, iv_c a1, iv_c a2, iv_c 2147483648, 147573952589676412928]) (by decide +kernel) (by decide) (Nat.le_of_ble_eq_true rfl) rfl ?_
  refine x_const (np := 3) (x := 9223372039002259456) (a := 2147483648) (by decide +kernel) (by decide) (by decide) ?_
  refine x_istore (np := 5) (x := 4) (lo' := [x_r 45, iv_c a1, iv_c a2, iv_c 2147483648, iv_c 2147483648]) (by decide +kernel) (by decide) (Nat.le_of_ble_eq_true rfl) rfl ?_
  have p113 : ∀ (n : Nat) (v109 : Nat) (v111 : Nat), 4294967296 - v111 < n → (0 ≤ v109 ∧ v109 ≤ 4294967295) → (2147483648 ≤ v111 ∧ v111 ≤ 2147483654) → X sc 8 (d + 2) (xI fun r h' => h' = h ∧ (0 ≤ r ∧ r ≤ 4294967295)) 0 0 5 [x_r 45, iv_c a1, iv_c a2, iv_c v109, iv_c v111] [] h := by
    intro n
    induction n with
    | zero => intro v109 v111 q114; exact absurd q114 (Nat.not_lt_zero _)
    | succ n i115 =>
      intro v109 v111 q114 b110 b112
      refine x_iload (np := 7) (x := 4) (by decide +kernel) rfl (by first | decide | omega) ?_
      refine x_aload (np := 8) (x := 0) (by decide +kernel) rfl (x_nc_le (by decide)) ?_
      have t116 : tw (h 45 5) := hJ.2.2.2.1
      refine x_getR (np := 11) (x := 69) (f := 5) (q := (h 45 5)) (by decide +kernel) (by decide) (by decide +kernel) rfl ?_
      have b117 := jB (e := 7) 0 hJ (rg_T0_7_0_1 t116) (by first | decide | omega) (by first | decide | omega)
      refine x_getC (np := 14) (x := 519) (f := 7) (q := (h (h 45 5) 7)) (by decide +kernel) (by decide) (tg_0_519_7_0 t116) rfl (fun l118 => ?_)
      refine x_icmp (k := 3) (tg := 41) (np := 17) (by decide +kernel) (by decide) (by first | decide | omega) l118 (fun q119 => ?_) (fun q120 => ?_)
      · have q119 : (h (h 45 5) 7) ≤ v111 := q119
        refine x_iload (np := 42) (x := 3) (by decide +kernel) rfl (by first | decide | omega) ?_
        refine x_retI (np := 43) (x := 0) (by decide +kernel) (by first | decide | omega) (Or.inl (by decide +kernel)) ⟨_, rfl, (by first | decide | omega), ?_⟩
        exact ⟨rfl, (by first | decide | omega)⟩
      have q120 : ¬ ((h (h 45 5) 7) ≤ v111) := q120
      refine x_aload (np := 18) (x := 0) (by decide +kernel) rfl (x_nc_le (by decide)) ?_
      refine x_iload (np := 20) (x := 4) (by decide +kernel) rfl (by first | decide | omega) ?_
      refine x_iload (np := 21) (x := 2) (by decide +kernel) rfl la2 ?_
      refine x_cP (t := 6) (mj := 5) (n := 3) (rc := 2) (ml := 3) (nr := 0) (np := 24) (as := [x_r 45, iv_c v111, iv_c a2]) (rest := []) (lo1 := [x_r 45, iv_c v111, iv_c a2]) (by decide +kernel) (by decide) (by decide +kernel) (x_rb_of (by decide +kernel)) rfl rfl (x_wr (by decide) (x_wi (by first | decide | omega) (x_wi la2 x_wn))) x_wn (by decide) rfl (c5_45 hJ  (by first | decide | omega) (by first | decide | omega)) (fun v121 l122 q123 => ?_)
      refine x_iload (np := 25) (x := 1) (by decide +kernel) rfl la1 ?_
      refine x_icmp (k := 1) (tg := 35) (np := 28) (by decide +kernel) (by decide) l122 la1 (fun q124 => ?_) (fun q125 => ?_)
      · have q124 : v121 ≠ a1 := q124
        refine x_iinc (np := 38) (i := 4) (j := 2147483649) (v := (1 + v111)) (lo' := [x_r 45, iv_c a1, iv_c a2, iv_c v109, iv_c (1 + v111)]) (by decide +kernel) (by decide) (by decide) rfl (by first | decide | omega) (by first | decide | omega) (by first | decide | omega) rfl ?_
        refine x_goto (np := 41) (x := 5) (by decide +kernel) ?_
        exact i115 v109 (1 + v111) (by first | decide | omega) (by first | decide | omega) (by first | decide | omega)
      have q125 : ¬ (v121 ≠ a1) := q125
      refine x_iload (np := 29) (x := 3) (by decide +kernel) rfl (by first | decide | omega) ?_
      refine x_const (np := 30) (x := 9223372043297226753) (a := 2147483649) (by decide +kernel) (by decide) (by decide) ?_
      refine x_iload (np := 32) (x := 4) (by decide +kernel) rfl (by first | decide | omega) ?_
      refine x_any (np := 33) (k9 := 3) (by decide +kernel) (by decide) (by decide) (by first | decide | omega) (fun v126 l127 => ?_)
      refine x_any (np := 34) (k9 := 1) (by decide +kernel) (by decide) (by first | decide | omega) l127 (fun v128 l129 => ?_)
      refine x_istore (np := 35) (x := 3) (lo' := [x_r 45, iv_c a1, iv_c a2, iv_c v128, iv_c v111]) (by decide +kernel) l129 (Nat.le_of_ble_eq_true rfl) rfl ?_
      refine x_iinc (np := 38) (i := 4) (j := 2147483649) (v := (1 + v111)) (lo' := [x_r 45, iv_c a1, iv_c a2, iv_c v128, iv_c (1 + v111)]) (by decide +kernel) (by decide) (by decide) rfl (by first | decide | omega) (by first | decide | omega) (by first | decide | omega) rfl ?_
      refine x_goto (np := 41) (x := 5) (by decide +kernel) ?_
      exact i115 v128 (1 + v111) (by first | decide | omega) (by first | decide | omega) (by first | decide | omega)
  exact p113 _ 2147483648 2147483648 (Nat.lt_succ_self _) (by first | decide | omega) (by first | decide | omega)
set_option maxHeartbeats 0 in
/-- LentNames.names(II)I -/
theorem c111_0 {sc : Nat × Nat} {d a1 a2 : Nat} {h : xh} (hJ : J h) (ba1 : 0 ≤ a1 ∧ a1 ≤ 4294967295) (ba2 : 0 ≤ a2 ∧ a2 ≤ 4294967295) : X sc 111 (d + 3) (xT (fun r h' => J h' ∧ Fr 0 h h' ∧ (0 ≤ r ∧ r ≤ 4294967295)) (fun E h' => J h' ∧ Fr 0 h h' ∧ (E = 2))) 0 0 0 [x_r 0, iv_c a1, iv_c a2] [] h := by
  have la1 : a1 < 4294967296 := by first | decide | omega
  have la2 : a2 < 4294967296 := by first | decide | omega
  have hF := Fr.refl 0 h
  refine x_aload (np := 1) (x := 0) (by decide +kernel) rfl (x_nc_le (by decide)) ?_
  refine x_iload (np := 2) (x := 1) (by decide +kernel) rfl la1 ?_
  refine x_nU (t := 6) (mj := 145) (n := 2) (rc := 11) (ml := 2) (cc := 1) (ss := 6) (nr := 0) (np := 5) (as := [x_r 0, iv_c a1]) (rest := []) (lo1 := [x_r 0, iv_c a1]) (by decide +kernel) (by decide) (by decide +kernel) (by decide +kernel) (x_rb_of (by decide +kernel)) rfl rfl (x_wr (by decide) (x_wi la1 x_wn)) x_wn (by decide) rfl ?_
  refine x_iload (np := 1) (x := 1) (by decide +kernel) rfl la1 ?_
  refine x_ifz (k := 2) (tg := 15) (np := 4) (by decide +kernel) (by decide) la1 (fun q1 => ?_) (fun q2 => ?_)
  · have q1 : a1 < 2147483648 := q1
    refine x_thr (np := 18) (x := 2) (by decide +kernel) (by decide +kernel) (Nat.le_trans x_wn (by decide)) (Or.inr ⟨_, rfl, ?_⟩)
    refine Or.inr ⟨_, rfl, ?_⟩
    exact ⟨hJ, hF, by decide⟩
  have q2 : ¬ (a1 < 2147483648) := q2
  refine x_iload (np := 5) (x := 1) (by decide +kernel) rfl la1 ?_
  refine x_aload (np := 6) (x := 0) (by decide +kernel) rfl (x_nc_le (by decide)) ?_
  have t3 : tw (h 0 8) := hJ.2.1
  refine x_getR (np := 9) (x := 648) (f := 8) (q := (h 0 8)) (by decide +kernel) (by decide) (by decide +kernel) rfl ?_
  have b4 := jB (e := 7) 0 hJ (rg_T0_7_0_1 t3) (by first | decide | omega) (by first | decide | omega)
  refine x_getC (np := 12) (x := 519) (f := 7) (q := (h (h 0 8) 7)) (by decide +kernel) (by decide) (tg_0_519_7_0 t3) rfl (fun l5 => ?_)
  refine x_icmp (k := 2) (tg := 26) (np := 15) (by decide +kernel) (by decide) la1 l5 (fun q6 => ?_) (fun q7 => ?_)
  · have q6 : a1 < (h (h 0 8) 7) := q6
    refine x_retV (np := 27) (x := 0) (by decide +kernel) (by decide +kernel) (Or.inl ⟨rfl, ?_⟩)
    refine x_iload (np := 6) (x := 2) (by decide +kernel) rfl la2 ?_
    refine x_nU (t := 0) (mj := 146) (n := 1) (rc := 0) (ml := 1) (cc := 1) (ss := 6) (nr := 0) (np := 9) (as := [iv_c a2]) (rest := []) (lo1 := [iv_c a2]) (by decide +kernel) (by decide) (by decide +kernel) (by decide +kernel) (Or.inl rfl) rfl rfl (x_wi la2 x_wn) x_wn (by decide) rfl ?_
    refine x_iload (np := 1) (x := 0) (by decide +kernel) rfl la2 ?_
    refine x_ifz (k := 2) (tg := 10) (np := 4) (by decide +kernel) (by decide) la2 (fun q8 => ?_) (fun q9 => ?_)
    · have q8 : a2 < 2147483648 := q8
      refine x_thr (np := 13) (x := 2) (by decide +kernel) (by decide +kernel) (Nat.le_trans x_wn (by decide)) (Or.inr ⟨_, rfl, ?_⟩)
      refine Or.inr ⟨_, rfl, ?_⟩
      exact ⟨hJ, hF, by decide⟩
    have q9 : ¬ (a2 < 2147483648) := q9
    refine x_iload (np := 5) (x := 0) (by decide +kernel) rfl la2 ?_
    refine x_const (np := 7) (x := 9223372090541867020) (a := 2147483660) (by decide +kernel) (by decide) (by decide) ?_
    refine x_icmp (k := 2) (tg := 21) (np := 10) (by decide +kernel) (by decide) la2 (by decide) (fun q10 => ?_) (fun q11 => ?_)
    · have q10 : a2 < 2147483660 := q10
      refine x_retV (np := 22) (x := 0) (by decide +kernel) (by decide +kernel) (Or.inl ⟨rfl, ?_⟩)
      refine x_aload (np := 10) (x := 0) (by decide +kernel) rfl (x_nc_le (by decide)) ?_
      have q12 : h 0 1 = 45 := by have z := jB (e := 1) 0 hJ rg_0_1_0_1 (by decide) (by decide); omega
      refine x_getR (np := 13) (x := 641) (f := 1) (q := 45) (by decide +kernel) (by decide) (by decide +kernel) q12 ?_
      refine x_iload (np := 14) (x := 1) (by decide +kernel) rfl la1 ?_
      refine x_iload (np := 15) (x := 2) (by decide +kernel) rfl la2 ?_
      refine x_cP (t := 6) (mj := 8) (n := 3) (rc := 2) (ml := 5) (nr := 0) (np := 18) (as := [x_r 45, iv_c a1, iv_c a2]) (rest := []) (lo1 := [x_r 45, iv_c a1, iv_c a2, 147573952589676412928, 147573952589676412928]) (by decide +kernel) (by decide) (by decide +kernel) (x_rb_of (by decide +kernel)) rfl rfl (x_wr (by decide) (x_wi la1 (x_wi la2 x_wn))) x_wn (by decide) rfl (c8_45 hJ  (by first | decide | omega) (by first | decide | omega)) (fun v13 l14 q15 => ?_)
      refine x_retI (np := 19) (x := 0) (by decide +kernel) l14 (Or.inl (by decide +kernel)) (Or.inl ⟨_, rfl, l14, ?_⟩)
      exact ⟨hJ, hF, (by first | decide | omega)⟩
    have q11 : ¬ (a2 < 2147483660) := q11
    refine x_thr (np := 13) (x := 2) (by decide +kernel) (by decide +kernel) (Nat.le_trans x_wn (by decide)) (Or.inr ⟨_, rfl, ?_⟩)
    refine Or.inr ⟨_, rfl, ?_⟩
    exact ⟨hJ, hF, by decide⟩
  have q7 : ¬ (a1 < (h (h 0 8) 7)) := q7
  refine x_thr (np := 18) (x := 2) (by decide +kernel) (by decide +kernel) (Nat.le_trans x_wn (by decide)) (Or.inr ⟨_, rfl, ?_⟩)
  refine Or.inr ⟨_, rfl, ?_⟩
  exact ⟨hJ, hF, by decide⟩
set_option maxHeartbeats 0 in
/-- LentNamesLaw.names(LLentNames;II[J)I -/
theorem c285_0_97 {sc : Nat × Nat} {d a1 a2 : Nat} {h : xh} (hJ : J h) (ba1 : 0 ≤ a1 ∧ a1 ≤ 4294967295) (ba2 : 0 ≤ a2 ∧ a2 ≤ 4294967295) : X sc 285 (d + 4) (xI fun r h' => J h' ∧ Fr 70368744177664 h h' ∧ (2147483648 ≤ r ∧ r ≤ 2147483649)) 0 0 0 [x_r 0, iv_c a1, iv_c a2, x_r 97, 147573952589676412928] [] h := by
  have la1 : a1 < 4294967296 := by first | decide | omega
  have la2 : a2 < 4294967296 := by first | decide | omega
  have hF := Fr.refl 70368744177664 h
  refine x_aload (np := 1) (x := 3) (by decide +kernel) rfl (x_nc_le (by decide)) ?_
  refine x_const (np := 2) (x := 9223372039002259456) (a := 2147483648) (by decide +kernel) (by decide) (by decide) ?_
  refine x_aload (np := 3) (x := 0) (by decide +kernel) rfl (x_nc_le (by decide)) ?_
  refine x_iload (np := 4) (x := 1) (by decide +kernel) rfl la1 ?_
  refine x_iload (np := 5) (x := 2) (by decide +kernel) rfl la2 ?_
  refine x_cT (t := 6) (mj := 111) (n := 3) (rc := 11) (ml := 3) (cc := 2) (ss := 12) (nr := 2) (np := 8) (as := [x_r 0, iv_c a1, iv_c a2]) (rest := [iv_c 2147483648, x_r 97]) (lo1 := [x_r 0, iv_c a1, iv_c a2]) (by decide +kernel) (by decide) (by decide +kernel) (x_rb_of (by decide +kernel)) rfl rfl (x_wr (by decide) (x_wi la1 (x_wi la2 x_wn))) (x_wi (by decide) (x_wr (by decide) x_wn)) (by decide) rfl (c111_0 hJ  (by first | decide | omega) (by first | decide | omega)) (fun v1 h4 l2 q3 => ?_) (fun E6 h7 q5 => ?_)
  · obtain ⟨j8, f9, b10⟩ := q3
    have f11 := Fr.trans hF f9 (by decide)
    refine x_i2l (np := 9) (x := 0) (by decide +kernel) l2 ?_
    refine x_last (np := 10) (x := 0) (n := 1) (i := 0) (by decide +kernel) (by decide) (by decide +kernel) (by decide +kernel) (by first | decide | omega) (by first | decide | omega) (by decide) l2 ?_
    have j13 := jU (e := 0) (v := v1) 0 j8 rg_97_0_1_1 (by first | decide | omega) (by first | decide | omega) (by first | decide | omega)
    have f15 := jF (e := 0) (v := v1) 0 f11 rg_97_0_1_1 (by first | decide | omega) (by first | decide | omega) (by decide)
    generalize e14 : x_up h4 97 0 v1 = h12 at j13 f15 ⊢
    refine x_goto (np := 13) (x := 17) (by decide +kernel) ?_
    refine x_const (np := 18) (x := 9223372039002259456) (a := 2147483648) (by decide +kernel) (by decide) (by decide) ?_
    refine x_retI (np := 19) (x := 0) (by decide +kernel) (by decide) (Or.inl (by decide +kernel)) ⟨_, rfl, (by decide), ?_⟩
    exact ⟨j13, f15, (by first | decide | omega)⟩
  obtain ⟨j16, f17, e18⟩ := q5
  have f19 := Fr.trans hF f17 (by decide)
  rcases e18 with rfl
  · refine ⟨13, fun _ _ => rfl, ?_⟩
    refine x_astE (np := 15) (x := 4) (lo' := [x_r 0, iv_c a1, iv_c a2, x_r 97, 55340232221128654850]) (by decide +kernel) (Nat.le_of_ble_eq_true rfl) rfl ?_
    refine x_const (np := 16) (x := 9223372043297226753) (a := 2147483649) (by decide +kernel) (by decide) (by decide) ?_
    refine x_retI (np := 17) (x := 0) (by decide +kernel) (by decide) (Or.inl (by decide +kernel)) ⟨_, rfl, (by decide), ?_⟩
    exact ⟨j16, f19, (by first | decide | omega)⟩
set_option maxHeartbeats 0 in
/-- LentNames.how(II)I -/
theorem c112_0 {sc : Nat × Nat} {d a1 a2 : Nat} {h : xh} (hJ : J h) (ba1 : 0 ≤ a1 ∧ a1 ≤ 4294967295) (ba2 : 0 ≤ a2 ∧ a2 ≤ 4294967295) : X sc 112 (d + 2) (xT (fun r h' => J h' ∧ Fr 0 h h' ∧ (0 ≤ r ∧ r ≤ 4294967295)) (fun E h' => J h' ∧ Fr 0 h h' ∧ (E = 2))) 0 0 0 [x_r 0, iv_c a1, iv_c a2] [] h := by
  have la1 : a1 < 4294967296 := by first | decide | omega
  have la2 : a2 < 4294967296 := by first | decide | omega
  have hF := Fr.refl 0 h
  refine x_aload (np := 1) (x := 0) (by decide +kernel) rfl (x_nc_le (by decide)) ?_
  refine x_iload (np := 2) (x := 1) (by decide +kernel) rfl la1 ?_
  refine x_nU (t := 6) (mj := 144) (n := 2) (rc := 11) (ml := 2) (cc := 1) (ss := 6) (nr := 0) (np := 5) (as := [x_r 0, iv_c a1]) (rest := []) (lo1 := [x_r 0, iv_c a1]) (by decide +kernel) (by decide) (by decide +kernel) (by decide +kernel) (x_rb_of (by decide +kernel)) rfl rfl (x_wr (by decide) (x_wi la1 x_wn)) x_wn (by decide) rfl ?_
  refine x_iload (np := 1) (x := 1) (by decide +kernel) rfl la1 ?_
  refine x_ifz (k := 2) (tg := 15) (np := 4) (by decide +kernel) (by decide) la1 (fun q1 => ?_) (fun q2 => ?_)
  · have q1 : a1 < 2147483648 := q1
    refine x_thr (np := 18) (x := 2) (by decide +kernel) (by decide +kernel) (Nat.le_trans x_wn (by decide)) (Or.inr ⟨_, rfl, ?_⟩)
    refine Or.inr ⟨_, rfl, ?_⟩
    exact ⟨hJ, hF, by decide⟩
  have q2 : ¬ (a1 < 2147483648) := q2
  refine x_iload (np := 5) (x := 1) (by decide +kernel) rfl la1 ?_
  refine x_aload (np := 6) (x := 0) (by decide +kernel) rfl (x_nc_le (by decide)) ?_
  have t3 : tw (h 0 8) := hJ.2.1
  refine x_getR (np := 9) (x := 648) (f := 8) (q := (h 0 8)) (by decide +kernel) (by decide) (by decide +kernel) rfl ?_
  have b4 := jB (e := 7) 0 hJ (rg_T0_7_0_1 t3) (by first | decide | omega) (by first | decide | omega)
  refine x_getC (np := 12) (x := 519) (f := 7) (q := (h (h 0 8) 7)) (by decide +kernel) (by decide) (tg_0_519_7_0 t3) rfl (fun l5 => ?_)
  refine x_icmp (k := 2) (tg := 26) (np := 15) (by decide +kernel) (by decide) la1 l5 (fun q6 => ?_) (fun q7 => ?_)
  · have q6 : a1 < (h (h 0 8) 7) := q6
    refine x_retV (np := 27) (x := 0) (by decide +kernel) (by decide +kernel) (Or.inl ⟨rfl, ?_⟩)
    refine x_iload (np := 6) (x := 2) (by decide +kernel) rfl la2 ?_
    refine x_nU (t := 0) (mj := 146) (n := 1) (rc := 0) (ml := 1) (cc := 1) (ss := 6) (nr := 0) (np := 9) (as := [iv_c a2]) (rest := []) (lo1 := [iv_c a2]) (by decide +kernel) (by decide) (by decide +kernel) (by decide +kernel) (Or.inl rfl) rfl rfl (x_wi la2 x_wn) x_wn (by decide) rfl ?_
    refine x_iload (np := 1) (x := 0) (by decide +kernel) rfl la2 ?_
    refine x_ifz (k := 2) (tg := 10) (np := 4) (by decide +kernel) (by decide) la2 (fun q8 => ?_) (fun q9 => ?_)
    · have q8 : a2 < 2147483648 := q8
      refine x_thr (np := 13) (x := 2) (by decide +kernel) (by decide +kernel) (Nat.le_trans x_wn (by decide)) (Or.inr ⟨_, rfl, ?_⟩)
      refine Or.inr ⟨_, rfl, ?_⟩
      exact ⟨hJ, hF, by decide⟩
    have q9 : ¬ (a2 < 2147483648) := q9
    refine x_iload (np := 5) (x := 0) (by decide +kernel) rfl la2 ?_
    refine x_const (np := 7) (x := 9223372090541867020) (a := 2147483660) (by decide +kernel) (by decide) (by decide) ?_
    refine x_icmp (k := 2) (tg := 21) (np := 10) (by decide +kernel) (by decide) la2 (by decide) (fun q10 => ?_) (fun q11 => ?_)
    · have q10 : a2 < 2147483660 := q10
      refine x_retV (np := 22) (x := 0) (by decide +kernel) (by decide +kernel) (Or.inl ⟨rfl, ?_⟩)
      refine x_aload (np := 10) (x := 0) (by decide +kernel) rfl (x_nc_le (by decide)) ?_
      have q12 : h 0 1 = 45 := by have z := jB (e := 1) 0 hJ rg_0_1_0_1 (by decide) (by decide); omega
      refine x_getR (np := 13) (x := 641) (f := 1) (q := 45) (by decide +kernel) (by decide) (by decide +kernel) q12 ?_
      refine x_iload (np := 14) (x := 1) (by decide +kernel) rfl la1 ?_
      refine x_iload (np := 15) (x := 2) (by decide +kernel) rfl la2 ?_
      refine x_nI (t := 6) (mj := 6) (n := 3) (rc := 2) (ml := 3) (nr := 0) (np := 18) (as := [x_r 45, iv_c a1, iv_c a2]) (rest := []) (lo1 := [x_r 45, iv_c a1, iv_c a2]) (by decide +kernel) (by decide) (by decide +kernel) (x_rb_of (by decide +kernel)) rfl rfl (x_wr (by decide) (x_wi la1 (x_wi la2 x_wn))) x_wn (by decide) rfl ?_
      refine x_aload (np := 1) (x := 0) (by decide +kernel) rfl (x_nc_le (by decide)) ?_
      refine x_iload (np := 2) (x := 1) (by decide +kernel) rfl la1 ?_
      refine x_iload (np := 3) (x := 2) (by decide +kernel) rfl la2 ?_
      refine x_nI (t := 6) (mj := 15) (n := 3) (rc := 2) (ml := 3) (nr := 0) (np := 6) (as := [x_r 45, iv_c a1, iv_c a2]) (rest := []) (lo1 := [x_r 45, iv_c a1, iv_c a2]) (by decide +kernel) (by decide) (by decide +kernel) (x_rb_of (by decide +kernel)) rfl rfl (x_wr (by decide) (x_wi la1 (x_wi la2 x_wn))) x_wn (by decide) rfl ?_
      refine x_iload (np := 1) (x := 1) (by decide +kernel) rfl la1 ?_
      refine x_ifz (k := 2) (tg := 24) (np := 4) (by decide +kernel) (by decide) la1 (fun q13 => ?_) (fun q14 => ?_)
      · have q13 : a1 < 2147483648 := q13
        exfalso; omega
      have q14 : ¬ (a1 < 2147483648) := q14
      refine x_iload (np := 5) (x := 1) (by decide +kernel) rfl la1 ?_
      refine x_const (np := 7) (x := 9223372064772063238) (a := 2147483654) (by decide +kernel) (by decide) (by decide) ?_
      refine x_icmp (k := 3) (tg := 24) (np := 10) (by decide +kernel) (by decide) la1 (by decide) (fun q15 => ?_) (fun q16 => ?_)
      · have q15 : 2147483654 ≤ a1 := q15
        exfalso; omega
      have q16 : ¬ (2147483654 ≤ a1) := q16
      refine x_iload (np := 11) (x := 2) (by decide +kernel) rfl la2 ?_
      refine x_ifz (k := 2) (tg := 24) (np := 14) (by decide +kernel) (by decide) la2 (fun q17 => ?_) (fun q18 => ?_)
      · have q17 : a2 < 2147483648 := q17
        exfalso; omega
      have q18 : ¬ (a2 < 2147483648) := q18
      refine x_iload (np := 15) (x := 2) (by decide +kernel) rfl la2 ?_
      refine x_const (np := 17) (x := 9223372090541867020) (a := 2147483660) (by decide +kernel) (by decide) (by decide) ?_
      refine x_icmp (k := 3) (tg := 24) (np := 20) (by decide +kernel) (by decide) la2 (by decide) (fun q19 => ?_) (fun q20 => ?_)
      · have q19 : 2147483660 ≤ a2 := q19
        exfalso; omega
      have q20 : ¬ (2147483660 ≤ a2) := q20
      refine x_const (np := 21) (x := 9223372043297226753) (a := 2147483649) (by decide +kernel) (by decide) (by decide) ?_
      refine x_goto (np := 24) (x := 25) (by decide +kernel) ?_
      refine x_retI (np := 26) (x := 0) (by decide +kernel) (by decide) (Or.inr ⟨by decide +kernel, by first | decide | omega, by first | decide | omega⟩) ⟨_, rfl, (by decide), ?_⟩
      refine x_ifz (k := 0) (tg := 22) (np := 9) (by decide +kernel) (by decide) (by decide) (fun q21 => ?_) (fun q22 => ?_)
      · have q21 : 2147483649 = 2147483648 := q21
        exfalso; omega
      have q22 : ¬ (2147483649 = 2147483648) := q22
      refine x_aload (np := 10) (x := 0) (by decide +kernel) rfl (x_nc_le (by decide)) ?_
      have q23 : h 45 7 = 52 := by have z := jB (e := 7) 0 hJ rg_45_7_0_1 (by decide) (by decide); omega
      refine x_getR (np := 13) (x := 71) (f := 7) (q := 52) (by decide +kernel) (by decide) (by decide +kernel) q23 ?_
      refine x_iload (np := 14) (x := 1) (by decide +kernel) rfl la1 ?_
      refine x_iload (np := 15) (x := 2) (by decide +kernel) rfl la2 ?_
      refine x_nI (t := 7) (mj := 150) (n := 2) (rc := 0) (ml := 2) (nr := 1) (np := 18) (as := [iv_c a1, iv_c a2]) (rest := [x_r 52]) (lo1 := [iv_c a1, iv_c a2]) (by decide +kernel) (by decide) (by decide +kernel) (Or.inl rfl) rfl rfl (x_wi la1 (x_wi la2 x_wn)) (x_wr (by decide) x_wn) (by decide) rfl ?_
      refine x_iload (np := 1) (x := 0) (by decide +kernel) rfl la1 ?_
      refine x_const (np := 3) (x := 9223372090541867020) (a := 2147483660) (by decide +kernel) (by decide) (by decide) ?_
      obtain ⟨u24, q25⟩ : ∃ z, a1 = 2147483648 + z := ⟨a1 - 2147483648, by first | decide | omega⟩
      refine x_imul (np := 4) (x := 0) (i := u24) (j := 12) (v := (2147483648 + 12 * u24)) (by decide +kernel) (by first | decide | omega) (by first | decide | omega) (by first | decide | omega) (by first | decide | omega) la1 (by decide) ?_
      refine x_iload (np := 5) (x := 1) (by decide +kernel) rfl la2 ?_
      refine x_iadd (np := 6) (x := 0) (v := (12 * u24 + a2)) (by decide +kernel) (by first | decide | omega) la2 (by first | decide | omega) (by first | decide | omega) ?_
      refine x_retI (np := 7) (x := 0) (by decide +kernel) (by first | decide | omega) (Or.inl (by decide +kernel)) ⟨_, rfl, (by first | decide | omega), ?_⟩
      obtain ⟨u27, q28⟩ : ∃ z, a2 = 2147483648 + z := ⟨a2 - 2147483648, by first | decide | omega⟩
      refine x_aldC (np := 19) (x := 0) (n := 72) (i := (12 * u24 + u27)) (q := ((h 52 (12 * u24 + u27)))) (by decide +kernel) (by decide +kernel) (by first | decide | omega) (by first | decide | omega) (by decide) rfl (fun l29 => ?_)
      refine x_goto (np := 22) (x := 23) (by decide +kernel) ?_
      refine x_retI (np := 24) (x := 0) (by decide +kernel) l29 (Or.inl (by decide +kernel)) ⟨_, rfl, l29, ?_⟩
      refine x_retI (np := 19) (x := 0) (by decide +kernel) l29 (Or.inl (by decide +kernel)) (Or.inl ⟨_, rfl, l29, ?_⟩)
      exact ⟨hJ, hF, (by first | decide | omega)⟩
    have q11 : ¬ (a2 < 2147483660) := q11
    refine x_thr (np := 13) (x := 2) (by decide +kernel) (by decide +kernel) (Nat.le_trans x_wn (by decide)) (Or.inr ⟨_, rfl, ?_⟩)
    refine Or.inr ⟨_, rfl, ?_⟩
    exact ⟨hJ, hF, by decide⟩
  have q7 : ¬ (a1 < (h (h 0 8) 7)) := q7
  refine x_thr (np := 18) (x := 2) (by decide +kernel) (by decide +kernel) (Nat.le_trans x_wn (by decide)) (Or.inr ⟨_, rfl, ?_⟩)
  refine Or.inr ⟨_, rfl, ?_⟩
  exact ⟨hJ, hF, by decide⟩
set_option maxHeartbeats 0 in
/-- LentNamesLaw.how(LLentNames;II[J)I -/
theorem c286_0_97 {sc : Nat × Nat} {d a1 a2 : Nat} {h : xh} (hJ : J h) (ba1 : 0 ≤ a1 ∧ a1 ≤ 4294967295) (ba2 : 0 ≤ a2 ∧ a2 ≤ 4294967295) : X sc 286 (d + 3) (xI fun r h' => J h' ∧ Fr 70368744177664 h h' ∧ (2147483648 ≤ r ∧ r ≤ 2147483649)) 0 0 0 [x_r 0, iv_c a1, iv_c a2, x_r 97, 147573952589676412928] [] h := by
  have la1 : a1 < 4294967296 := by first | decide | omega
  have la2 : a2 < 4294967296 := by first | decide | omega
  have hF := Fr.refl 70368744177664 h
  refine x_aload (np := 1) (x := 3) (by decide +kernel) rfl (x_nc_le (by decide)) ?_
  refine x_const (np := 2) (x := 9223372039002259456) (a := 2147483648) (by decide +kernel) (by decide) (by decide) ?_
  refine x_aload (np := 3) (x := 0) (by decide +kernel) rfl (x_nc_le (by decide)) ?_
  refine x_iload (np := 4) (x := 1) (by decide +kernel) rfl la1 ?_
  refine x_iload (np := 5) (x := 2) (by decide +kernel) rfl la2 ?_
  refine x_cT (t := 6) (mj := 112) (n := 3) (rc := 11) (ml := 3) (cc := 2) (ss := 12) (nr := 2) (np := 8) (as := [x_r 0, iv_c a1, iv_c a2]) (rest := [iv_c 2147483648, x_r 97]) (lo1 := [x_r 0, iv_c a1, iv_c a2]) (by decide +kernel) (by decide) (by decide +kernel) (x_rb_of (by decide +kernel)) rfl rfl (x_wr (by decide) (x_wi la1 (x_wi la2 x_wn))) (x_wi (by decide) (x_wr (by decide) x_wn)) (by decide) rfl (c112_0 hJ  (by first | decide | omega) (by first | decide | omega)) (fun v1 h4 l2 q3 => ?_) (fun E6 h7 q5 => ?_)
  · obtain ⟨j8, f9, b10⟩ := q3
    have f11 := Fr.trans hF f9 (by decide)
    refine x_i2l (np := 9) (x := 0) (by decide +kernel) l2 ?_
    refine x_last (np := 10) (x := 0) (n := 1) (i := 0) (by decide +kernel) (by decide) (by decide +kernel) (by decide +kernel) (by first | decide | omega) (by first | decide | omega) (by decide) l2 ?_
    have j13 := jU (e := 0) (v := v1) 0 j8 rg_97_0_1_1 (by first | decide | omega) (by first | decide | omega) (by first | decide | omega)
    have f15 := jF (e := 0) (v := v1) 0 f11 rg_97_0_1_1 (by first | decide | omega) (by first | decide | omega) (by decide)
    generalize e14 : x_up h4 97 0 v1 = h12 at j13 f15 ⊢
    refine x_goto (np := 13) (x := 17) (by decide +kernel) ?_
    refine x_const (np := 18) (x := 9223372039002259456) (a := 2147483648) (by decide +kernel) (by decide) (by decide) ?_
    refine x_retI (np := 19) (x := 0) (by decide +kernel) (by decide) (Or.inl (by decide +kernel)) ⟨_, rfl, (by decide), ?_⟩
    exact ⟨j13, f15, (by first | decide | omega)⟩
  obtain ⟨j16, f17, e18⟩ := q5
  have f19 := Fr.trans hF f17 (by decide)
  rcases e18 with rfl
  · refine ⟨13, fun _ _ => rfl, ?_⟩
    refine x_astE (np := 15) (x := 4) (lo' := [x_r 0, iv_c a1, iv_c a2, x_r 97, 55340232221128654850]) (by decide +kernel) (Nat.le_of_ble_eq_true rfl) rfl ?_
    refine x_const (np := 16) (x := 9223372043297226753) (a := 2147483649) (by decide +kernel) (by decide) (by decide) ?_
    refine x_retI (np := 17) (x := 0) (by decide +kernel) (by decide) (Or.inl (by decide +kernel)) ⟨_, rfl, (by decide), ?_⟩
    exact ⟨j16, f19, (by first | decide | omega)⟩
set_option maxHeartbeats 0 in
/-- LentNames.row(III)I -/
theorem c113_0 {sc : Nat × Nat} {d a1 a2 a3 : Nat} {h : xh} (hJ : J h) (ba1 : 0 ≤ a1 ∧ a1 ≤ 4294967295) (ba2 : 0 ≤ a2 ∧ a2 ≤ 4294967295) (ba3 : 0 ≤ a3 ∧ a3 ≤ 4294967295) : X sc 113 (d + 2) (xT (fun r h' => J h' ∧ Fr 0 h h' ∧ (0 ≤ r ∧ r ≤ 4294967295)) (fun E h' => J h' ∧ Fr 0 h h' ∧ (E = 2))) 0 0 0 [x_r 0, iv_c a1, iv_c a2, iv_c a3] [] h := by
  have la1 : a1 < 4294967296 := by first | decide | omega
  have la2 : a2 < 4294967296 := by first | decide | omega
  have la3 : a3 < 4294967296 := by first | decide | omega
  have hF := Fr.refl 0 h
  refine x_aload (np := 1) (x := 0) (by decide +kernel) rfl (x_nc_le (by decide)) ?_
  refine x_iload (np := 2) (x := 1) (by decide +kernel) rfl la1 ?_
  refine x_nU (t := 6) (mj := 144) (n := 2) (rc := 11) (ml := 2) (cc := 1) (ss := 6) (nr := 0) (np := 5) (as := [x_r 0, iv_c a1]) (rest := []) (lo1 := [x_r 0, iv_c a1]) (by decide +kernel) (by decide) (by decide +kernel) (by decide +kernel) (x_rb_of (by decide +kernel)) rfl rfl (x_wr (by decide) (x_wi la1 x_wn)) x_wn (by decide) rfl ?_
  refine x_iload (np := 1) (x := 1) (by decide +kernel) rfl la1 ?_
  refine x_ifz (k := 2) (tg := 15) (np := 4) (by decide +kernel) (by decide) la1 (fun q1 => ?_) (fun q2 => ?_)
  · have q1 : a1 < 2147483648 := q1
    refine x_thr (np := 18) (x := 2) (by decide +kernel) (by decide +kernel) (Nat.le_trans x_wn (by decide)) (Or.inr ⟨_, rfl, ?_⟩)
    refine Or.inr ⟨_, rfl, ?_⟩
    exact ⟨hJ, hF, by decide⟩
  have q2 : ¬ (a1 < 2147483648) := q2
  refine x_iload (np := 5) (x := 1) (by decide +kernel) rfl la1 ?_
  refine x_aload (np := 6) (x := 0) (by decide +kernel) rfl (x_nc_le (by decide)) ?_
  have t3 : tw (h 0 8) := hJ.2.1
  refine x_getR (np := 9) (x := 648) (f := 8) (q := (h 0 8)) (by decide +kernel) (by decide) (by decide +kernel) rfl ?_
  have b4 := jB (e := 7) 0 hJ (rg_T0_7_0_1 t3) (by first | decide | omega) (by first | decide | omega)
  refine x_getC (np := 12) (x := 519) (f := 7) (q := (h (h 0 8) 7)) (by decide +kernel) (by decide) (tg_0_519_7_0 t3) rfl (fun l5 => ?_)
  refine x_icmp (k := 2) (tg := 26) (np := 15) (by decide +kernel) (by decide) la1 l5 (fun q6 => ?_) (fun q7 => ?_)
  · have q6 : a1 < (h (h 0 8) 7) := q6
    refine x_retV (np := 27) (x := 0) (by decide +kernel) (by decide +kernel) (Or.inl ⟨rfl, ?_⟩)
    refine x_iload (np := 6) (x := 2) (by decide +kernel) rfl la2 ?_
    refine x_nU (t := 0) (mj := 146) (n := 1) (rc := 0) (ml := 1) (cc := 1) (ss := 6) (nr := 0) (np := 9) (as := [iv_c a2]) (rest := []) (lo1 := [iv_c a2]) (by decide +kernel) (by decide) (by decide +kernel) (by decide +kernel) (Or.inl rfl) rfl rfl (x_wi la2 x_wn) x_wn (by decide) rfl ?_
    refine x_iload (np := 1) (x := 0) (by decide +kernel) rfl la2 ?_
    refine x_ifz (k := 2) (tg := 10) (np := 4) (by decide +kernel) (by decide) la2 (fun q8 => ?_) (fun q9 => ?_)
    · have q8 : a2 < 2147483648 := q8
      refine x_thr (np := 13) (x := 2) (by decide +kernel) (by decide +kernel) (Nat.le_trans x_wn (by decide)) (Or.inr ⟨_, rfl, ?_⟩)
      refine Or.inr ⟨_, rfl, ?_⟩
      exact ⟨hJ, hF, by decide⟩
    have q9 : ¬ (a2 < 2147483648) := q9
    refine x_iload (np := 5) (x := 0) (by decide +kernel) rfl la2 ?_
    refine x_const (np := 7) (x := 9223372090541867020) (a := 2147483660) (by decide +kernel) (by decide) (by decide) ?_
    refine x_icmp (k := 2) (tg := 21) (np := 10) (by decide +kernel) (by decide) la2 (by decide) (fun q10 => ?_) (fun q11 => ?_)
    · have q10 : a2 < 2147483660 := q10
      refine x_retV (np := 22) (x := 0) (by decide +kernel) (by decide +kernel) (Or.inl ⟨rfl, ?_⟩)
      refine x_aload (np := 10) (x := 0) (by decide +kernel) rfl (x_nc_le (by decide)) ?_
      have q12 : h 0 1 = 45 := by have z := jB (e := 1) 0 hJ rg_0_1_0_1 (by decide) (by decide); omega
      refine x_getR (np := 13) (x := 641) (f := 1) (q := 45) (by decide +kernel) (by decide) (by decide +kernel) q12 ?_
      refine x_iload (np := 14) (x := 1) (by decide +kernel) rfl la1 ?_
      refine x_iload (np := 15) (x := 2) (by decide +kernel) rfl la2 ?_
      refine x_iload (np := 16) (x := 3) (by decide +kernel) rfl la3 ?_
      refine x_nI (t := 6) (mj := 7) (n := 4) (rc := 2) (ml := 4) (nr := 0) (np := 19) (as := [x_r 45, iv_c a1, iv_c a2, iv_c a3]) (rest := []) (lo1 := [x_r 45, iv_c a1, iv_c a2, iv_c a3]) (by decide +kernel) (by decide) (by decide +kernel) (x_rb_of (by decide +kernel)) rfl rfl (x_wr (by decide) (x_wi la1 (x_wi la2 (x_wi la3 x_wn)))) x_wn (by decide) rfl ?_
      refine x_aload (np := 1) (x := 0) (by decide +kernel) rfl (x_nc_le (by decide)) ?_
      refine x_iload (np := 2) (x := 1) (by decide +kernel) rfl la1 ?_
      refine x_iload (np := 3) (x := 2) (by decide +kernel) rfl la2 ?_
      refine x_nI (t := 6) (mj := 15) (n := 3) (rc := 2) (ml := 3) (nr := 0) (np := 6) (as := [x_r 45, iv_c a1, iv_c a2]) (rest := []) (lo1 := [x_r 45, iv_c a1, iv_c a2]) (by decide +kernel) (by decide) (by decide +kernel) (x_rb_of (by decide +kernel)) rfl rfl (x_wr (by decide) (x_wi la1 (x_wi la2 x_wn))) x_wn (by decide) rfl ?_
      refine x_iload (np := 1) (x := 1) (by decide +kernel) rfl la1 ?_
      refine x_ifz (k := 2) (tg := 24) (np := 4) (by decide +kernel) (by decide) la1 (fun q13 => ?_) (fun q14 => ?_)
      · have q13 : a1 < 2147483648 := q13
        exfalso; omega
      have q14 : ¬ (a1 < 2147483648) := q14
      refine x_iload (np := 5) (x := 1) (by decide +kernel) rfl la1 ?_
      refine x_const (np := 7) (x := 9223372064772063238) (a := 2147483654) (by decide +kernel) (by decide) (by decide) ?_
      refine x_icmp (k := 3) (tg := 24) (np := 10) (by decide +kernel) (by decide) la1 (by decide) (fun q15 => ?_) (fun q16 => ?_)
      · have q15 : 2147483654 ≤ a1 := q15
        exfalso; omega
      have q16 : ¬ (2147483654 ≤ a1) := q16
      refine x_iload (np := 11) (x := 2) (by decide +kernel) rfl la2 ?_
      refine x_ifz (k := 2) (tg := 24) (np := 14) (by decide +kernel) (by decide) la2 (fun q17 => ?_) (fun q18 => ?_)
      · have q17 : a2 < 2147483648 := q17
        exfalso; omega
      have q18 : ¬ (a2 < 2147483648) := q18
      refine x_iload (np := 15) (x := 2) (by decide +kernel) rfl la2 ?_
      refine x_const (np := 17) (x := 9223372090541867020) (a := 2147483660) (by decide +kernel) (by decide) (by decide) ?_
      refine x_icmp (k := 3) (tg := 24) (np := 20) (by decide +kernel) (by decide) la2 (by decide) (fun q19 => ?_) (fun q20 => ?_)
      · have q19 : 2147483660 ≤ a2 := q19
        exfalso; omega
      have q20 : ¬ (2147483660 ≤ a2) := q20
      refine x_const (np := 21) (x := 9223372043297226753) (a := 2147483649) (by decide +kernel) (by decide) (by decide) ?_
      refine x_goto (np := 24) (x := 25) (by decide +kernel) ?_
      refine x_retI (np := 26) (x := 0) (by decide +kernel) (by decide) (Or.inr ⟨by decide +kernel, by first | decide | omega, by first | decide | omega⟩) ⟨_, rfl, (by decide), ?_⟩
      refine x_ifz (k := 0) (tg := 19) (np := 9) (by decide +kernel) (by decide) (by decide) (fun q21 => ?_) (fun q22 => ?_)
      · have q21 : 2147483649 = 2147483648 := q21
        exfalso; omega
      have q22 : ¬ (2147483649 = 2147483648) := q22
      refine x_iload (np := 10) (x := 3) (by decide +kernel) rfl la3 ?_
      refine x_ifz (k := 2) (tg := 19) (np := 13) (by decide +kernel) (by decide) la3 (fun q23 => ?_) (fun q24 => ?_)
      · have q23 : a3 < 2147483648 := q23
        refine x_const (np := 20) (x := 9223372034707292159) (a := 2147483647) (by decide +kernel) (by decide) (by decide) ?_
        refine x_retI (np := 21) (x := 0) (by decide +kernel) (by decide) (Or.inl (by decide +kernel)) ⟨_, rfl, (by decide), ?_⟩
        refine x_retI (np := 20) (x := 0) (by decide +kernel) (by decide) (Or.inl (by decide +kernel)) (Or.inl ⟨_, rfl, (by decide), ?_⟩)
        exact ⟨hJ, hF, (by first | decide | omega)⟩
      have q24 : ¬ (a3 < 2147483648) := q24
      refine x_iload (np := 14) (x := 3) (by decide +kernel) rfl la3 ?_
      refine x_const (np := 16) (x := 9223372129196572693) (a := 2147483669) (by decide +kernel) (by decide) (by decide) ?_
      refine x_icmp (k := 2) (tg := 21) (np := 19) (by decide +kernel) (by decide) la3 (by decide) (fun q25 => ?_) (fun q26 => ?_)
      · have q25 : a3 < 2147483669 := q25
        refine x_aload (np := 22) (x := 0) (by decide +kernel) rfl (x_nc_le (by decide)) ?_
        have q27 : h 45 8 = 53 := by have z := jB (e := 8) 0 hJ rg_45_8_0_1 (by decide) (by decide); omega
        refine x_getR (np := 25) (x := 72) (f := 8) (q := 53) (by decide +kernel) (by decide) (by decide +kernel) q27 ?_
        refine x_iload (np := 26) (x := 1) (by decide +kernel) rfl la1 ?_
        refine x_iload (np := 27) (x := 2) (by decide +kernel) rfl la2 ?_
        refine x_nI (t := 7) (mj := 150) (n := 2) (rc := 0) (ml := 2) (nr := 1) (np := 30) (as := [iv_c a1, iv_c a2]) (rest := [x_r 53]) (lo1 := [iv_c a1, iv_c a2]) (by decide +kernel) (by decide) (by decide +kernel) (Or.inl rfl) rfl rfl (x_wi la1 (x_wi la2 x_wn)) (x_wr (by decide) x_wn) (by decide) rfl ?_
        refine x_iload (np := 1) (x := 0) (by decide +kernel) rfl la1 ?_
        refine x_const (np := 3) (x := 9223372090541867020) (a := 2147483660) (by decide +kernel) (by decide) (by decide) ?_
        obtain ⟨u28, q29⟩ : ∃ z, a1 = 2147483648 + z := ⟨a1 - 2147483648, by first | decide | omega⟩
        refine x_imul (np := 4) (x := 0) (i := u28) (j := 12) (v := (2147483648 + 12 * u28)) (by decide +kernel) (by first | decide | omega) (by first | decide | omega) (by first | decide | omega) (by first | decide | omega) la1 (by decide) ?_
        refine x_iload (np := 5) (x := 1) (by decide +kernel) rfl la2 ?_
        refine x_iadd (np := 6) (x := 0) (v := (12 * u28 + a2)) (by decide +kernel) (by first | decide | omega) la2 (by first | decide | omega) (by first | decide | omega) ?_
        refine x_retI (np := 7) (x := 0) (by decide +kernel) (by first | decide | omega) (Or.inl (by decide +kernel)) ⟨_, rfl, (by first | decide | omega), ?_⟩
        refine x_const (np := 32) (x := 9223372129196572693) (a := 2147483669) (by decide +kernel) (by decide) (by decide) ?_
        obtain ⟨u31, q32⟩ : ∃ z, a2 = 2147483648 + z := ⟨a2 - 2147483648, by first | decide | omega⟩
        refine x_imul (np := 33) (x := 0) (i := (12 * u28 + u31)) (j := 21) (v := (2147483648 + 252 * u28 + 21 * u31)) (by decide +kernel) (by first | decide | omega) (by first | decide | omega) (by first | decide | omega) (by first | decide | omega) (by first | decide | omega) (by decide) ?_
        refine x_iload (np := 34) (x := 3) (by decide +kernel) rfl la3 ?_
        refine x_iadd (np := 35) (x := 0) (v := (252 * u28 + 21 * u31 + a3)) (by decide +kernel) (by first | decide | omega) la3 (by first | decide | omega) (by first | decide | omega) ?_
        obtain ⟨u34, q35⟩ : ∃ z, a3 = 2147483648 + z := ⟨a3 - 2147483648, by first | decide | omega⟩
        refine x_aldC (np := 36) (x := 0) (n := 1512) (i := (252 * u28 + 21 * u31 + u34)) (q := ((h 53 (252 * u28 + 21 * u31 + u34)))) (by decide +kernel) (by decide +kernel) (by first | decide | omega) (by first | decide | omega) (by decide) rfl (fun l36 => ?_)
        refine x_retI (np := 37) (x := 0) (by decide +kernel) l36 (Or.inl (by decide +kernel)) ⟨_, rfl, l36, ?_⟩
        refine x_retI (np := 20) (x := 0) (by decide +kernel) l36 (Or.inl (by decide +kernel)) (Or.inl ⟨_, rfl, l36, ?_⟩)
        exact ⟨hJ, hF, (by first | decide | omega)⟩
      have q26 : ¬ (a3 < 2147483669) := q26
      refine x_const (np := 20) (x := 9223372034707292159) (a := 2147483647) (by decide +kernel) (by decide) (by decide) ?_
      refine x_retI (np := 21) (x := 0) (by decide +kernel) (by decide) (Or.inl (by decide +kernel)) ⟨_, rfl, (by decide), ?_⟩
      refine x_retI (np := 20) (x := 0) (by decide +kernel) (by decide) (Or.inl (by decide +kernel)) (Or.inl ⟨_, rfl, (by decide), ?_⟩)
      exact ⟨hJ, hF, (by first | decide | omega)⟩
    have q11 : ¬ (a2 < 2147483660) := q11
    refine x_thr (np := 13) (x := 2) (by decide +kernel) (by decide +kernel) (Nat.le_trans x_wn (by decide)) (Or.inr ⟨_, rfl, ?_⟩)
    refine Or.inr ⟨_, rfl, ?_⟩
    exact ⟨hJ, hF, by decide⟩
  have q7 : ¬ (a1 < (h (h 0 8) 7)) := q7
  refine x_thr (np := 18) (x := 2) (by decide +kernel) (by decide +kernel) (Nat.le_trans x_wn (by decide)) (Or.inr ⟨_, rfl, ?_⟩)
  refine Or.inr ⟨_, rfl, ?_⟩
  exact ⟨hJ, hF, by decide⟩
set_option maxHeartbeats 0 in
/-- LentNamesLaw.row(LLentNames;III[J)I -/
theorem c287_0_97 {sc : Nat × Nat} {d a1 a2 a3 : Nat} {h : xh} (hJ : J h) (ba1 : 0 ≤ a1 ∧ a1 ≤ 4294967295) (ba2 : 0 ≤ a2 ∧ a2 ≤ 4294967295) (ba3 : 0 ≤ a3 ∧ a3 ≤ 4294967295) : X sc 287 (d + 3) (xI fun r h' => J h' ∧ Fr 70368744177664 h h' ∧ (2147483648 ≤ r ∧ r ≤ 2147483649)) 0 0 0 [x_r 0, iv_c a1, iv_c a2, iv_c a3, x_r 97, 147573952589676412928] [] h := by
  have la1 : a1 < 4294967296 := by first | decide | omega
  have la2 : a2 < 4294967296 := by first | decide | omega
  have la3 : a3 < 4294967296 := by first | decide | omega
  have hF := Fr.refl 70368744177664 h
  refine x_aload (np := 2) (x := 4) (by decide +kernel) rfl (x_nc_le (by decide)) ?_
  refine x_const (np := 3) (x := 9223372039002259456) (a := 2147483648) (by decide +kernel) (by decide) (by decide) ?_
  refine x_aload (np := 4) (x := 0) (by decide +kernel) rfl (x_nc_le (by decide)) ?_
  refine x_iload (np := 5) (x := 1) (by decide +kernel) rfl la1 ?_
  refine x_iload (np := 6) (x := 2) (by decide +kernel) rfl la2 ?_
  refine x_iload (np := 7) (x := 3) (by decide +kernel) rfl la3 ?_
  refine x_cT (t := 6) (mj := 113) (n := 4) (rc := 11) (ml := 4) (cc := 2) (ss := 12) (nr := 2) (np := 10) (as := [x_r 0, iv_c a1, iv_c a2, iv_c a3]) (rest := [iv_c 2147483648, x_r 97]) (lo1 := [x_r 0, iv_c a1, iv_c a2, iv_c a3]) (by decide +kernel) (by decide) (by decide +kernel) (x_rb_of (by decide +kernel)) rfl rfl (x_wr (by decide) (x_wi la1 (x_wi la2 (x_wi la3 x_wn)))) (x_wi (by decide) (x_wr (by decide) x_wn)) (by decide) rfl (c113_0 hJ  (by first | decide | omega) (by first | decide | omega) (by first | decide | omega)) (fun v1 h4 l2 q3 => ?_) (fun E6 h7 q5 => ?_)
  · obtain ⟨j8, f9, b10⟩ := q3
    have f11 := Fr.trans hF f9 (by decide)
    refine x_i2l (np := 11) (x := 0) (by decide +kernel) l2 ?_
    refine x_last (np := 12) (x := 0) (n := 1) (i := 0) (by decide +kernel) (by decide) (by decide +kernel) (by decide +kernel) (by first | decide | omega) (by first | decide | omega) (by decide) l2 ?_
    have j13 := jU (e := 0) (v := v1) 0 j8 rg_97_0_1_1 (by first | decide | omega) (by first | decide | omega) (by first | decide | omega)
    have f15 := jF (e := 0) (v := v1) 0 f11 rg_97_0_1_1 (by first | decide | omega) (by first | decide | omega) (by decide)
    generalize e14 : x_up h4 97 0 v1 = h12 at j13 f15 ⊢
    refine x_goto (np := 15) (x := 19) (by decide +kernel) ?_
    refine x_const (np := 20) (x := 9223372039002259456) (a := 2147483648) (by decide +kernel) (by decide) (by decide) ?_
    refine x_retI (np := 21) (x := 0) (by decide +kernel) (by decide) (Or.inl (by decide +kernel)) ⟨_, rfl, (by decide), ?_⟩
    exact ⟨j13, f15, (by first | decide | omega)⟩
  obtain ⟨j16, f17, e18⟩ := q5
  have f19 := Fr.trans hF f17 (by decide)
  rcases e18 with rfl
  · refine ⟨15, fun _ _ => rfl, ?_⟩
    refine x_astE (np := 17) (x := 5) (lo' := [x_r 0, iv_c a1, iv_c a2, iv_c a3, x_r 97, 55340232221128654850]) (by decide +kernel) (Nat.le_of_ble_eq_true rfl) rfl ?_
    refine x_const (np := 18) (x := 9223372043297226753) (a := 2147483649) (by decide +kernel) (by decide) (by decide) ?_
    refine x_retI (np := 19) (x := 0) (by decide +kernel) (by decide) (Or.inl (by decide +kernel)) ⟨_, rfl, (by decide), ?_⟩
    exact ⟨j16, f19, (by first | decide | omega)⟩
set_option maxHeartbeats 0 in
/-- LentNames$Calendar.namelessDays(I)I -/
theorem c9_45 {sc : Nat × Nat} {d a1 : Nat} {h : xh} (hJ : J h) (ba1 : 2147483648 ≤ a1 ∧ a1 ≤ 2147483653) : X sc 9 (d + 1) (xI fun r h' => h' = h ∧ (0 ≤ r ∧ r ≤ 4294967295)) 0 0 0 [x_r 45, iv_c a1, 147573952589676412928, 147573952589676412928] [] h := by
  have la1 : a1 < 4294967296 := by first | decide | omega
  refine x_aload (np := 1) (x := 0) (by decide +kernel) rfl (x_nc_le (by decide)) ?_
  have q1 : h 45 0 = 46 := by have z := jB (e := 0) 0 hJ rg_45_0_0_1 (by decide) (by decide); omega
  refine x_getR (np := 4) (x := 64) (f := 0) (q := 46) (by decide +kernel) (by decide) (by decide +kernel) q1 ?_
  refine x_iload (np := 5) (x := 1) (by decide +kernel) rfl la1 ?_
  obtain ⟨u2, q3⟩ : ∃ z, a1 = 2147483648 + z := ⟨a1 - 2147483648, by first | decide | omega⟩
  refine x_aldC (np := 6) (x := 0) (n := 6) (i := u2) (q := (h 46 u2)) (by decide +kernel) (by decide +kernel) (by first | decide | omega) (by first | decide | omega) (by decide) rfl (fun l4 => ?_)
  refine x_istore (np := 7) (x := 2) (lo' := [x_r 45, iv_c a1, iv_c (h 46 u2), 147573952589676412928]) (by decide +kernel) l4 (Nat.le_of_ble_eq_true rfl) rfl ?_
  refine x_const (np := 8) (x := 9223372039002259456) (a := 2147483648) (by decide +kernel) (by decide) (by decide) ?_
  refine x_istore (np := 9) (x := 3) (lo' := [x_r 45, iv_c a1, iv_c (h 46 u2), iv_c 2147483648]) (by decide +kernel) (by decide) (Nat.le_of_ble_eq_true rfl) rfl ?_
  have p117 : ∀ (n : Nat) (v113 : Nat) (v115 : Nat), 4294967296 - v115 < n → (0 ≤ v113 ∧ v113 ≤ 4294967295) → (2147483648 ≤ v115 ∧ v115 ≤ 2147483654) → X sc 9 (d + 1) (xI fun r h' => h' = h ∧ (0 ≤ r ∧ r ≤ 4294967295)) 0 0 9 [x_r 45, iv_c a1, iv_c v113, iv_c v115] [] h := by
    intro n
    induction n with
    | zero => intro v113 v115 q118; exact absurd q118 (Nat.not_lt_zero _)
    | succ n i119 =>
      intro v113 v115 q118 b114 b116
      refine x_iload (np := 10) (x := 3) (by decide +kernel) rfl (by first | decide | omega) ?_
      refine x_aload (np := 11) (x := 0) (by decide +kernel) rfl (x_nc_le (by decide)) ?_
      have t120 : tw (h 45 5) := hJ.2.2.2.1
      refine x_getR (np := 14) (x := 69) (f := 5) (q := (h 45 5)) (by decide +kernel) (by decide) (by decide +kernel) rfl ?_
      have b121 := jB (e := 7) 0 hJ (rg_T0_7_0_1 t120) (by first | decide | omega) (by first | decide | omega)
      refine x_getC (np := 17) (x := 519) (f := 7) (q := (h (h 45 5) 7)) (by decide +kernel) (by decide) (tg_0_519_7_0 t120) rfl (fun l122 => ?_)
      refine x_icmp (k := 3) (tg := 41) (np := 20) (by decide +kernel) (by decide) (by first | decide | omega) l122 (fun q123 => ?_) (fun q124 => ?_)
      · have q123 : (h (h 45 5) 7) ≤ v115 := q123
        refine x_iload (np := 42) (x := 2) (by decide +kernel) rfl (by first | decide | omega) ?_
        refine x_retI (np := 43) (x := 0) (by decide +kernel) (by first | decide | omega) (Or.inl (by decide +kernel)) ⟨_, rfl, (by first | decide | omega), ?_⟩
        exact ⟨rfl, (by first | decide | omega)⟩
      have q124 : ¬ ((h (h 45 5) 7) ≤ v115) := q124
      refine x_iload (np := 21) (x := 2) (by decide +kernel) rfl (by first | decide | omega) ?_
      refine x_aload (np := 22) (x := 0) (by decide +kernel) rfl (x_nc_le (by decide)) ?_
      have q125 : h 45 1 = 47 := by have z := jB (e := 1) 0 hJ rg_45_1_0_1 (by decide) (by decide); omega
      refine x_getR (np := 25) (x := 65) (f := 1) (q := 47) (by decide +kernel) (by decide) (by decide +kernel) q125 ?_
      refine x_iload (np := 26) (x := 3) (by decide +kernel) rfl (by first | decide | omega) ?_
      refine x_iload (np := 27) (x := 1) (by decide +kernel) rfl la1 ?_
      refine x_nI (t := 7) (mj := 149) (n := 2) (rc := 0) (ml := 2) (nr := 2) (np := 30) (as := [iv_c v115, iv_c a1]) (rest := [x_r 47, iv_c v113]) (lo1 := [iv_c v115, iv_c a1]) (by decide +kernel) (by decide) (by decide +kernel) (Or.inl rfl) rfl rfl (x_wi (by first | decide | omega) (x_wi la1 x_wn)) (x_wr (by decide) (x_wi (by first | decide | omega) x_wn)) (by decide) rfl ?_
      refine x_iload (np := 1) (x := 0) (by decide +kernel) rfl (by first | decide | omega) ?_
      refine x_const (np := 3) (x := 9223372064772063238) (a := 2147483654) (by decide +kernel) (by decide) (by decide) ?_
      obtain ⟨u126, q127⟩ : ∃ z, v115 = 2147483648 + z := ⟨v115 - 2147483648, by first | decide | omega⟩
      refine x_imul (np := 4) (x := 0) (i := u126) (j := 6) (v := (2147483648 + 6 * u126)) (by decide +kernel) (by first | decide | omega) (by first | decide | omega) (by first | decide | omega) (by first | decide | omega) (by first | decide | omega) (by decide) ?_
      refine x_iload (np := 5) (x := 1) (by decide +kernel) rfl la1 ?_
      refine x_iadd (np := 6) (x := 0) (v := (6 * u126 + a1)) (by decide +kernel) (by first | decide | omega) la1 (by first | decide | omega) (by first | decide | omega) ?_
      refine x_retI (np := 7) (x := 0) (by decide +kernel) (by first | decide | omega) (Or.inl (by decide +kernel)) ⟨_, rfl, (by first | decide | omega), ?_⟩
      refine x_aldC (np := 31) (x := 0) (n := 36) (i := (6 * u126 + u2)) (q := ((h 47 (6 * u126 + u2)))) (by decide +kernel) (by decide +kernel) (by first | decide | omega) (by first | decide | omega) (by decide) rfl (fun l129 => ?_)
      refine x_const (np := 32) (x := 9223372034707292159) (a := 2147483647) (by decide +kernel) (by decide) (by decide) ?_
      refine x_any (np := 33) (k9 := 2) (by decide +kernel) (by decide) l129 (by decide) (fun v130 l131 => ?_)
      refine x_any (np := 34) (k9 := 0) (by decide +kernel) (by decide) (by first | decide | omega) l131 (fun v132 l133 => ?_)
      refine x_istore (np := 35) (x := 2) (lo' := [x_r 45, iv_c a1, iv_c v132, iv_c v115]) (by decide +kernel) l133 (Nat.le_of_ble_eq_true rfl) rfl ?_
      refine x_iinc (np := 38) (i := 3) (j := 2147483649) (v := (1 + v115)) (lo' := [x_r 45, iv_c a1, iv_c v132, iv_c (1 + v115)]) (by decide +kernel) (by decide) (by decide) rfl (by first | decide | omega) (by first | decide | omega) (by first | decide | omega) rfl ?_
      refine x_goto (np := 41) (x := 9) (by decide +kernel) ?_
      exact i119 v132 (1 + v115) (by first | decide | omega) (by first | decide | omega) (by first | decide | omega)
  exact p117 _ (h 46 u2) 2147483648 (Nat.lt_succ_self _) (by first | decide | omega) (by first | decide | omega)
set_option maxHeartbeats 0 in
/-- LentNames.nameless(I)I -/
theorem c114_0 {sc : Nat × Nat} {d a1 : Nat} {h : xh} (hJ : J h) (ba1 : 0 ≤ a1 ∧ a1 ≤ 4294967295) : X sc 114 (d + 2) (xT (fun r h' => J h' ∧ Fr 0 h h' ∧ (0 ≤ r ∧ r ≤ 4294967295)) (fun E h' => J h' ∧ Fr 0 h h' ∧ (E = 2))) 0 0 0 [x_r 0, iv_c a1] [] h := by
  have la1 : a1 < 4294967296 := by first | decide | omega
  have hF := Fr.refl 0 h
  refine x_aload (np := 1) (x := 0) (by decide +kernel) rfl (x_nc_le (by decide)) ?_
  refine x_iload (np := 2) (x := 1) (by decide +kernel) rfl la1 ?_
  refine x_nU (t := 6) (mj := 145) (n := 2) (rc := 11) (ml := 2) (cc := 1) (ss := 6) (nr := 0) (np := 5) (as := [x_r 0, iv_c a1]) (rest := []) (lo1 := [x_r 0, iv_c a1]) (by decide +kernel) (by decide) (by decide +kernel) (by decide +kernel) (x_rb_of (by decide +kernel)) rfl rfl (x_wr (by decide) (x_wi la1 x_wn)) x_wn (by decide) rfl ?_
  refine x_iload (np := 1) (x := 1) (by decide +kernel) rfl la1 ?_
  refine x_ifz (k := 2) (tg := 15) (np := 4) (by decide +kernel) (by decide) la1 (fun q1 => ?_) (fun q2 => ?_)
  · have q1 : a1 < 2147483648 := q1
    refine x_thr (np := 18) (x := 2) (by decide +kernel) (by decide +kernel) (Nat.le_trans x_wn (by decide)) (Or.inr ⟨_, rfl, ?_⟩)
    refine Or.inr ⟨_, rfl, ?_⟩
    exact ⟨hJ, hF, by decide⟩
  have q2 : ¬ (a1 < 2147483648) := q2
  refine x_iload (np := 5) (x := 1) (by decide +kernel) rfl la1 ?_
  refine x_aload (np := 6) (x := 0) (by decide +kernel) rfl (x_nc_le (by decide)) ?_
  have t3 : tw (h 0 8) := hJ.2.1
  refine x_getR (np := 9) (x := 648) (f := 8) (q := (h 0 8)) (by decide +kernel) (by decide) (by decide +kernel) rfl ?_
  have b4 := jB (e := 7) 0 hJ (rg_T0_7_0_1 t3) (by first | decide | omega) (by first | decide | omega)
  refine x_getC (np := 12) (x := 519) (f := 7) (q := (h (h 0 8) 7)) (by decide +kernel) (by decide) (tg_0_519_7_0 t3) rfl (fun l5 => ?_)
  refine x_icmp (k := 2) (tg := 26) (np := 15) (by decide +kernel) (by decide) la1 l5 (fun q6 => ?_) (fun q7 => ?_)
  · have q6 : a1 < (h (h 0 8) 7) := q6
    refine x_retV (np := 27) (x := 0) (by decide +kernel) (by decide +kernel) (Or.inl ⟨rfl, ?_⟩)
    refine x_aload (np := 6) (x := 0) (by decide +kernel) rfl (x_nc_le (by decide)) ?_
    have q8 : h 0 1 = 45 := by have z := jB (e := 1) 0 hJ rg_0_1_0_1 (by decide) (by decide); omega
    refine x_getR (np := 9) (x := 641) (f := 1) (q := 45) (by decide +kernel) (by decide) (by decide +kernel) q8 ?_
    refine x_iload (np := 10) (x := 1) (by decide +kernel) rfl la1 ?_
    refine x_cP (t := 6) (mj := 9) (n := 2) (rc := 2) (ml := 4) (nr := 0) (np := 13) (as := [x_r 45, iv_c a1]) (rest := []) (lo1 := [x_r 45, iv_c a1, 147573952589676412928, 147573952589676412928]) (by decide +kernel) (by decide) (by decide +kernel) (x_rb_of (by decide +kernel)) rfl rfl (x_wr (by decide) (x_wi la1 x_wn)) x_wn (by decide) rfl (c9_45 hJ  (by first | decide | omega)) (fun v9 l10 q11 => ?_)
    refine x_retI (np := 14) (x := 0) (by decide +kernel) l10 (Or.inl (by decide +kernel)) (Or.inl ⟨_, rfl, l10, ?_⟩)
    exact ⟨hJ, hF, (by first | decide | omega)⟩
  have q7 : ¬ (a1 < (h (h 0 8) 7)) := q7
  refine x_thr (np := 18) (x := 2) (by decide +kernel) (by decide +kernel) (Nat.le_trans x_wn (by decide)) (Or.inr ⟨_, rfl, ?_⟩)
  refine Or.inr ⟨_, rfl, ?_⟩
  exact ⟨hJ, hF, by decide⟩
set_option maxHeartbeats 0 in
/-- LentNamesLaw.nameless(LLentNames;I[J)I -/
theorem c288_0_97 {sc : Nat × Nat} {d a1 : Nat} {h : xh} (hJ : J h) (ba1 : 0 ≤ a1 ∧ a1 ≤ 4294967295) : X sc 288 (d + 3) (xI fun r h' => J h' ∧ Fr 70368744177664 h h' ∧ (2147483648 ≤ r ∧ r ≤ 2147483649)) 0 0 0 [x_r 0, iv_c a1, x_r 97, 147573952589676412928] [] h := by
  have la1 : a1 < 4294967296 := by first | decide | omega
  have hF := Fr.refl 70368744177664 h
  refine x_aload (np := 1) (x := 2) (by decide +kernel) rfl (x_nc_le (by decide)) ?_
  refine x_const (np := 2) (x := 9223372039002259456) (a := 2147483648) (by decide +kernel) (by decide) (by decide) ?_
  refine x_aload (np := 3) (x := 0) (by decide +kernel) rfl (x_nc_le (by decide)) ?_
  refine x_iload (np := 4) (x := 1) (by decide +kernel) rfl la1 ?_
  refine x_cT (t := 6) (mj := 114) (n := 2) (rc := 11) (ml := 2) (cc := 1) (ss := 6) (nr := 2) (np := 7) (as := [x_r 0, iv_c a1]) (rest := [iv_c 2147483648, x_r 97]) (lo1 := [x_r 0, iv_c a1]) (by decide +kernel) (by decide) (by decide +kernel) (x_rb_of (by decide +kernel)) rfl rfl (x_wr (by decide) (x_wi la1 x_wn)) (x_wi (by decide) (x_wr (by decide) x_wn)) (by decide) rfl (c114_0 hJ  (by first | decide | omega)) (fun v1 h4 l2 q3 => ?_) (fun E6 h7 q5 => ?_)
  · obtain ⟨j8, f9, b10⟩ := q3
    have f11 := Fr.trans hF f9 (by decide)
    refine x_i2l (np := 8) (x := 0) (by decide +kernel) l2 ?_
    refine x_last (np := 9) (x := 0) (n := 1) (i := 0) (by decide +kernel) (by decide) (by decide +kernel) (by decide +kernel) (by first | decide | omega) (by first | decide | omega) (by decide) l2 ?_
    have j13 := jU (e := 0) (v := v1) 0 j8 rg_97_0_1_1 (by first | decide | omega) (by first | decide | omega) (by first | decide | omega)
    have f15 := jF (e := 0) (v := v1) 0 f11 rg_97_0_1_1 (by first | decide | omega) (by first | decide | omega) (by decide)
    generalize e14 : x_up h4 97 0 v1 = h12 at j13 f15 ⊢
    refine x_goto (np := 12) (x := 15) (by decide +kernel) ?_
    refine x_const (np := 16) (x := 9223372039002259456) (a := 2147483648) (by decide +kernel) (by decide) (by decide) ?_
    refine x_retI (np := 17) (x := 0) (by decide +kernel) (by decide) (Or.inl (by decide +kernel)) ⟨_, rfl, (by decide), ?_⟩
    exact ⟨j13, f15, (by first | decide | omega)⟩
  obtain ⟨j16, f17, e18⟩ := q5
  have f19 := Fr.trans hF f17 (by decide)
  rcases e18 with rfl
  · refine ⟨12, fun _ _ => rfl, ?_⟩
    refine x_astE (np := 13) (x := 3) (lo' := [x_r 0, iv_c a1, x_r 97, 55340232221128654850]) (by decide +kernel) (Nat.le_of_ble_eq_true rfl) rfl ?_
    refine x_const (np := 14) (x := 9223372043297226753) (a := 2147483649) (by decide +kernel) (by decide) (by decide) ?_
    refine x_retI (np := 15) (x := 0) (by decide +kernel) (by decide) (Or.inl (by decide +kernel)) ⟨_, rfl, (by decide), ?_⟩
    exact ⟨j16, f19, (by first | decide | omega)⟩
set_option maxHeartbeats 0 in
/-- LentNames.longest(I)I -/
theorem c115_0 {sc : Nat × Nat} {d a1 : Nat} {h : xh} (hJ : J h) (ba1 : 0 ≤ a1 ∧ a1 ≤ 4294967295) : X sc 115 (d + 2) (xT (fun r h' => J h' ∧ Fr 0 h h' ∧ (2147483648 ≤ r ∧ r ≤ 2147483660)) (fun E h' => J h' ∧ Fr 0 h h' ∧ (E = 2))) 0 0 0 [x_r 0, iv_c a1, 147573952589676412928, 147573952589676412928, 147573952589676412928] [] h := by
  have la1 : a1 < 4294967296 := by first | decide | omega
  have hF := Fr.refl 0 h
  refine x_aload (np := 1) (x := 0) (by decide +kernel) rfl (x_nc_le (by decide)) ?_
  refine x_iload (np := 2) (x := 1) (by decide +kernel) rfl la1 ?_
  refine x_nU (t := 6) (mj := 145) (n := 2) (rc := 11) (ml := 2) (cc := 1) (ss := 6) (nr := 0) (np := 5) (as := [x_r 0, iv_c a1]) (rest := []) (lo1 := [x_r 0, iv_c a1]) (by decide +kernel) (by decide) (by decide +kernel) (by decide +kernel) (x_rb_of (by decide +kernel)) rfl rfl (x_wr (by decide) (x_wi la1 x_wn)) x_wn (by decide) rfl ?_
  refine x_iload (np := 1) (x := 1) (by decide +kernel) rfl la1 ?_
  refine x_ifz (k := 2) (tg := 15) (np := 4) (by decide +kernel) (by decide) la1 (fun q1 => ?_) (fun q2 => ?_)
  · have q1 : a1 < 2147483648 := q1
    refine x_thr (np := 18) (x := 2) (by decide +kernel) (by decide +kernel) (Nat.le_trans x_wn (by decide)) (Or.inr ⟨_, rfl, ?_⟩)
    refine Or.inr ⟨_, rfl, ?_⟩
    exact ⟨hJ, hF, by decide⟩
  have q2 : ¬ (a1 < 2147483648) := q2
  refine x_iload (np := 5) (x := 1) (by decide +kernel) rfl la1 ?_
  refine x_aload (np := 6) (x := 0) (by decide +kernel) rfl (x_nc_le (by decide)) ?_
  have t3 : tw (h 0 8) := hJ.2.1
  refine x_getR (np := 9) (x := 648) (f := 8) (q := (h 0 8)) (by decide +kernel) (by decide) (by decide +kernel) rfl ?_
  have b4 := jB (e := 7) 0 hJ (rg_T0_7_0_1 t3) (by first | decide | omega) (by first | decide | omega)
  refine x_getC (np := 12) (x := 519) (f := 7) (q := (h (h 0 8) 7)) (by decide +kernel) (by decide) (tg_0_519_7_0 t3) rfl (fun l5 => ?_)
  refine x_icmp (k := 2) (tg := 26) (np := 15) (by decide +kernel) (by decide) la1 l5 (fun q6 => ?_) (fun q7 => ?_)
  · have q6 : a1 < (h (h 0 8) 7) := q6
    refine x_retV (np := 27) (x := 0) (by decide +kernel) (by decide +kernel) (Or.inl ⟨rfl, ?_⟩)
    refine x_aload (np := 6) (x := 0) (by decide +kernel) rfl (x_nc_le (by decide)) ?_
    have q8 : h 0 1 = 45 := by have z := jB (e := 1) 0 hJ rg_0_1_0_1 (by decide) (by decide); omega
    refine x_getR (np := 9) (x := 641) (f := 1) (q := 45) (by decide +kernel) (by decide) (by decide +kernel) q8 ?_
    refine x_iload (np := 10) (x := 1) (by decide +kernel) rfl la1 ?_
    refine x_cP (t := 6) (mj := 9) (n := 2) (rc := 2) (ml := 4) (nr := 0) (np := 13) (as := [x_r 45, iv_c a1]) (rest := []) (lo1 := [x_r 45, iv_c a1, 147573952589676412928, 147573952589676412928]) (by decide +kernel) (by decide) (by decide +kernel) (x_rb_of (by decide +kernel)) rfl rfl (x_wr (by decide) (x_wi la1 x_wn)) x_wn (by decide) rfl (c9_45 hJ  (by first | decide | omega)) (fun v9 l10 q11 => ?_)
    refine x_istore (np := 14) (x := 2) (lo' := [x_r 0, iv_c a1, iv_c v9, 147573952589676412928, 147573952589676412928]) (by decide +kernel) l10 (Nat.le_of_ble_eq_true rfl) rfl ?_
    refine x_const (np := 15) (x := 9223372039002259456) (a := 2147483648) (by decide +kernel) (by decide) (by decide) ?_
    refine x_istore (np := 16) (x := 3) (lo' := [x_r 0, iv_c a1, iv_c v9, iv_c 2147483648, 147573952589676412928]) (by decide +kernel) (by decide) (Nat.le_of_ble_eq_true rfl) rfl ?_
    refine x_const (np := 17) (x := 9223372043297226753) (a := 2147483649) (by decide +kernel) (by decide) (by decide) ?_
    refine x_istore (np := 19) (x := 4) (lo' := [x_r 0, iv_c a1, iv_c v9, iv_c 2147483648, iv_c 2147483649]) (by decide +kernel) (by decide) (Nat.le_of_ble_eq_true rfl) rfl ?_
    have p172 : ∀ (n : Nat) (v166 : Nat) (v168 : Nat) (v170 : Nat), 4294967296 - v170 < n → (0 ≤ v166 ∧ v166 ≤ 4294967295) → (2147483648 ≤ v168 ∧ v168 ≤ 2147483660) → (2147483649 ≤ v170 ∧ v170 ≤ 2147483661) → X sc 115 (d + 2) (xT (fun r h' => J h' ∧ Fr 0 h h' ∧ (2147483648 ≤ r ∧ r ≤ 2147483660)) (fun E h' => J h' ∧ Fr 0 h h' ∧ (E = 2))) 1 6 19 [x_r 0, iv_c a1, iv_c v166, iv_c v168, iv_c v170] [] h := by
      intro n
      induction n with
      | zero => intro v166 v168 v170 q173; exact absurd q173 (Nat.not_lt_zero _)
      | succ n i174 =>
        intro v166 v168 v170 q173 b167 b169 b171
        refine x_iload (np := 21) (x := 4) (by decide +kernel) rfl (by first | decide | omega) ?_
        refine x_const (np := 23) (x := 9223372090541867020) (a := 2147483660) (by decide +kernel) (by decide) (by decide) ?_
        refine x_icmp (k := 4) (tg := 44) (np := 26) (by decide +kernel) (by decide) (by first | decide | omega) (by decide) (fun q175 => ?_) (fun q176 => ?_)
        · have q175 : 2147483660 < v170 := q175
          refine x_iload (np := 45) (x := 3) (by decide +kernel) rfl (by first | decide | omega) ?_
          refine x_retI (np := 46) (x := 0) (by decide +kernel) (by first | decide | omega) (Or.inl (by decide +kernel)) (Or.inl ⟨_, rfl, (by first | decide | omega), ?_⟩)
          exact ⟨hJ, hF, (by first | decide | omega)⟩
        have q176 : ¬ (2147483660 < v170) := q176
        refine x_iload (np := 27) (x := 2) (by decide +kernel) rfl (by first | decide | omega) ?_
        refine x_ifz (k := 0) (tg := 44) (np := 30) (by decide +kernel) (by decide) (by first | decide | omega) (fun q177 => ?_) (fun q178 => ?_)
        · have q177 : v166 = 2147483648 := q177
          refine x_iload (np := 45) (x := 3) (by decide +kernel) rfl (by first | decide | omega) ?_
          refine x_retI (np := 46) (x := 0) (by decide +kernel) (by first | decide | omega) (Or.inl (by decide +kernel)) (Or.inl ⟨_, rfl, (by first | decide | omega), ?_⟩)
          exact ⟨hJ, hF, (by first | decide | omega)⟩
        have q178 : ¬ (v166 = 2147483648) := q178
        refine x_iload (np := 32) (x := 4) (by decide +kernel) rfl (by first | decide | omega) ?_
        refine x_istore (np := 33) (x := 3) (lo' := [x_r 0, iv_c a1, iv_c v166, iv_c v170, iv_c v170]) (by decide +kernel) (by first | decide | omega) (Nat.le_of_ble_eq_true rfl) rfl ?_
        refine x_iload (np := 34) (x := 2) (by decide +kernel) rfl (by first | decide | omega) ?_
        refine x_nI (t := 0) (mj := 151) (n := 1) (rc := 0) (ml := 1) (nr := 0) (np := 37) (as := [iv_c v166]) (rest := []) (lo1 := [iv_c v166]) (by decide +kernel) (by decide) (by decide +kernel) (Or.inl rfl) rfl rfl (x_wi (by first | decide | omega) x_wn) x_wn (by decide) rfl ?_
        refine x_iload (np := 1) (x := 0) (by decide +kernel) rfl (by first | decide | omega) ?_
        refine x_iload (np := 2) (x := 0) (by decide +kernel) rfl (by first | decide | omega) ?_
        refine x_const (np := 3) (x := 9223372043297226753) (a := 2147483649) (by decide +kernel) (by decide) (by decide) ?_
        refine x_any (np := 4) (k9 := 3) (by decide +kernel) (by decide) (by first | decide | omega) (by decide) (fun v179 l180 => ?_)
        refine x_any (np := 5) (k9 := 0) (by decide +kernel) (by decide) (by first | decide | omega) l180 (fun v181 l182 => ?_)
        refine x_retI (np := 6) (x := 0) (by decide +kernel) l182 (Or.inl (by decide +kernel)) ⟨_, rfl, l182, ?_⟩
        refine x_istore (np := 38) (x := 2) (lo' := [x_r 0, iv_c a1, iv_c v181, iv_c v170, iv_c v170]) (by decide +kernel) l182 (Nat.le_of_ble_eq_true rfl) rfl ?_
        refine x_iinc (np := 41) (i := 4) (j := 2147483649) (v := (1 + v170)) (lo' := [x_r 0, iv_c a1, iv_c v181, iv_c v170, iv_c (1 + v170)]) (by decide +kernel) (by decide) (by decide) rfl (by first | decide | omega) (by first | decide | omega) (by first | decide | omega) rfl ?_
        refine x_goto (np := 44) (x := 19) (by decide +kernel) ?_
        exact i174 v181 v170 (1 + v170) (by first | decide | omega) (by first | decide | omega) (by first | decide | omega) (by first | decide | omega)
    exact p172 _ v9 2147483648 2147483649 (Nat.lt_succ_self _) (by first | decide | omega) (by first | decide | omega) (by first | decide | omega)
  have q7 : ¬ (a1 < (h (h 0 8) 7)) := q7
  refine x_thr (np := 18) (x := 2) (by decide +kernel) (by decide +kernel) (Nat.le_trans x_wn (by decide)) (Or.inr ⟨_, rfl, ?_⟩)
  refine Or.inr ⟨_, rfl, ?_⟩
  exact ⟨hJ, hF, by decide⟩
set_option maxHeartbeats 0 in
/-- LentNamesLaw.longest(LLentNames;I[J)I -/
theorem c289_0_97 {sc : Nat × Nat} {d a1 : Nat} {h : xh} (hJ : J h) (ba1 : 0 ≤ a1 ∧ a1 ≤ 4294967295) : X sc 289 (d + 3) (xI fun r h' => J h' ∧ Fr 70368744177664 h h' ∧ (2147483648 ≤ r ∧ r ≤ 2147483649)) 0 0 0 [x_r 0, iv_c a1, x_r 97, 147573952589676412928] [] h := by
  have la1 : a1 < 4294967296 := by first | decide | omega
  have hF := Fr.refl 70368744177664 h
  refine x_aload (np := 1) (x := 2) (by decide +kernel) rfl (x_nc_le (by decide)) ?_
  refine x_const (np := 2) (x := 9223372039002259456) (a := 2147483648) (by decide +kernel) (by decide) (by decide) ?_
  refine x_aload (np := 3) (x := 0) (by decide +kernel) rfl (x_nc_le (by decide)) ?_
  refine x_iload (np := 4) (x := 1) (by decide +kernel) rfl la1 ?_
  refine x_cT (t := 6) (mj := 115) (n := 2) (rc := 11) (ml := 5) (cc := 1) (ss := 6) (nr := 2) (np := 7) (as := [x_r 0, iv_c a1]) (rest := [iv_c 2147483648, x_r 97]) (lo1 := [x_r 0, iv_c a1, 147573952589676412928, 147573952589676412928, 147573952589676412928]) (by decide +kernel) (by decide) (by decide +kernel) (x_rb_of (by decide +kernel)) rfl rfl (x_wr (by decide) (x_wi la1 x_wn)) (x_wi (by decide) (x_wr (by decide) x_wn)) (by decide) rfl (c115_0 hJ  (by first | decide | omega)) (fun v1 h4 l2 q3 => ?_) (fun E6 h7 q5 => ?_)
  · obtain ⟨j8, f9, b10⟩ := q3
    have f11 := Fr.trans hF f9 (by decide)
    refine x_i2l (np := 8) (x := 0) (by decide +kernel) l2 ?_
    refine x_last (np := 9) (x := 0) (n := 1) (i := 0) (by decide +kernel) (by decide) (by decide +kernel) (by decide +kernel) (by first | decide | omega) (by first | decide | omega) (by decide) l2 ?_
    have j13 := jU (e := 0) (v := v1) 0 j8 rg_97_0_1_1 (by first | decide | omega) (by first | decide | omega) (by first | decide | omega)
    have f15 := jF (e := 0) (v := v1) 0 f11 rg_97_0_1_1 (by first | decide | omega) (by first | decide | omega) (by decide)
    generalize e14 : x_up h4 97 0 v1 = h12 at j13 f15 ⊢
    refine x_goto (np := 12) (x := 15) (by decide +kernel) ?_
    refine x_const (np := 16) (x := 9223372039002259456) (a := 2147483648) (by decide +kernel) (by decide) (by decide) ?_
    refine x_retI (np := 17) (x := 0) (by decide +kernel) (by decide) (Or.inl (by decide +kernel)) ⟨_, rfl, (by decide), ?_⟩
    exact ⟨j13, f15, (by first | decide | omega)⟩
  obtain ⟨j16, f17, e18⟩ := q5
  have f19 := Fr.trans hF f17 (by decide)
  rcases e18 with rfl
  · refine ⟨12, fun _ _ => rfl, ?_⟩
    refine x_astE (np := 13) (x := 3) (lo' := [x_r 0, iv_c a1, x_r 97, 55340232221128654850]) (by decide +kernel) (Nat.le_of_ble_eq_true rfl) rfl ?_
    refine x_const (np := 14) (x := 9223372043297226753) (a := 2147483649) (by decide +kernel) (by decide) (by decide) ?_
    refine x_retI (np := 15) (x := 0) (by decide +kernel) (by decide) (Or.inl (by decide +kernel)) ⟨_, rfl, (by decide), ?_⟩
    exact ⟨j16, f19, (by first | decide | omega)⟩
set_option maxHeartbeats 0 in
/-- LentNames.lives(II)Z -/
theorem c116_0 {sc : Nat × Nat} {d a1 a2 : Nat} {h : xh} (hJ : J h) (ba1 : 0 ≤ a1 ∧ a1 ≤ 4294967295) (ba2 : 0 ≤ a2 ∧ a2 ≤ 4294967295) : X sc 116 (d + 1) (xT (fun r h' => J h' ∧ Fr 0 h h' ∧ (2147483648 ≤ r ∧ r ≤ 2147483649)) (fun E h' => J h' ∧ Fr 0 h h' ∧ (E = 2))) 0 0 0 [x_r 0, iv_c a1, iv_c a2] [] h := by
  have la1 : a1 < 4294967296 := by first | decide | omega
  have la2 : a2 < 4294967296 := by first | decide | omega
  have hF := Fr.refl 0 h
  refine x_aload (np := 1) (x := 0) (by decide +kernel) rfl (x_nc_le (by decide)) ?_
  refine x_iload (np := 2) (x := 1) (by decide +kernel) rfl la1 ?_
  refine x_nU (t := 6) (mj := 145) (n := 2) (rc := 11) (ml := 2) (cc := 1) (ss := 6) (nr := 0) (np := 5) (as := [x_r 0, iv_c a1]) (rest := []) (lo1 := [x_r 0, iv_c a1]) (by decide +kernel) (by decide) (by decide +kernel) (by decide +kernel) (x_rb_of (by decide +kernel)) rfl rfl (x_wr (by decide) (x_wi la1 x_wn)) x_wn (by decide) rfl ?_
  refine x_iload (np := 1) (x := 1) (by decide +kernel) rfl la1 ?_
  refine x_ifz (k := 2) (tg := 15) (np := 4) (by decide +kernel) (by decide) la1 (fun q1 => ?_) (fun q2 => ?_)
  · have q1 : a1 < 2147483648 := q1
    refine x_thr (np := 18) (x := 2) (by decide +kernel) (by decide +kernel) (Nat.le_trans x_wn (by decide)) (Or.inr ⟨_, rfl, ?_⟩)
    refine Or.inr ⟨_, rfl, ?_⟩
    exact ⟨hJ, hF, by decide⟩
  have q2 : ¬ (a1 < 2147483648) := q2
  refine x_iload (np := 5) (x := 1) (by decide +kernel) rfl la1 ?_
  refine x_aload (np := 6) (x := 0) (by decide +kernel) rfl (x_nc_le (by decide)) ?_
  have t3 : tw (h 0 8) := hJ.2.1
  refine x_getR (np := 9) (x := 648) (f := 8) (q := (h 0 8)) (by decide +kernel) (by decide) (by decide +kernel) rfl ?_
  have b4 := jB (e := 7) 0 hJ (rg_T0_7_0_1 t3) (by first | decide | omega) (by first | decide | omega)
  refine x_getC (np := 12) (x := 519) (f := 7) (q := (h (h 0 8) 7)) (by decide +kernel) (by decide) (tg_0_519_7_0 t3) rfl (fun l5 => ?_)
  refine x_icmp (k := 2) (tg := 26) (np := 15) (by decide +kernel) (by decide) la1 l5 (fun q6 => ?_) (fun q7 => ?_)
  · have q6 : a1 < (h (h 0 8) 7) := q6
    refine x_retV (np := 27) (x := 0) (by decide +kernel) (by decide +kernel) (Or.inl ⟨rfl, ?_⟩)
    refine x_iload (np := 6) (x := 2) (by decide +kernel) rfl la2 ?_
    refine x_nU (t := 0) (mj := 146) (n := 1) (rc := 0) (ml := 1) (cc := 1) (ss := 6) (nr := 0) (np := 9) (as := [iv_c a2]) (rest := []) (lo1 := [iv_c a2]) (by decide +kernel) (by decide) (by decide +kernel) (by decide +kernel) (Or.inl rfl) rfl rfl (x_wi la2 x_wn) x_wn (by decide) rfl ?_
    refine x_iload (np := 1) (x := 0) (by decide +kernel) rfl la2 ?_
    refine x_ifz (k := 2) (tg := 10) (np := 4) (by decide +kernel) (by decide) la2 (fun q8 => ?_) (fun q9 => ?_)
    · have q8 : a2 < 2147483648 := q8
      refine x_thr (np := 13) (x := 2) (by decide +kernel) (by decide +kernel) (Nat.le_trans x_wn (by decide)) (Or.inr ⟨_, rfl, ?_⟩)
      refine Or.inr ⟨_, rfl, ?_⟩
      exact ⟨hJ, hF, by decide⟩
    have q9 : ¬ (a2 < 2147483648) := q9
    refine x_iload (np := 5) (x := 0) (by decide +kernel) rfl la2 ?_
    refine x_const (np := 7) (x := 9223372090541867020) (a := 2147483660) (by decide +kernel) (by decide) (by decide) ?_
    refine x_icmp (k := 2) (tg := 21) (np := 10) (by decide +kernel) (by decide) la2 (by decide) (fun q10 => ?_) (fun q11 => ?_)
    · have q10 : a2 < 2147483660 := q10
      refine x_retV (np := 22) (x := 0) (by decide +kernel) (by decide +kernel) (Or.inl ⟨rfl, ?_⟩)
      refine x_aload (np := 10) (x := 0) (by decide +kernel) rfl (x_nc_le (by decide)) ?_
      have q12 : h 0 1 = 45 := by have z := jB (e := 1) 0 hJ rg_0_1_0_1 (by decide) (by decide); omega
      refine x_getR (np := 13) (x := 641) (f := 1) (q := 45) (by decide +kernel) (by decide) (by decide +kernel) q12 ?_
      have q13 : h 45 0 = 46 := by have z := jB (e := 0) 0 hJ rg_45_0_0_1 (by decide) (by decide); omega
      refine x_getR (np := 16) (x := 64) (f := 0) (q := 46) (by decide +kernel) (by decide) (by decide +kernel) q13 ?_
      refine x_iload (np := 17) (x := 1) (by decide +kernel) rfl la1 ?_
      obtain ⟨u14, q15⟩ : ∃ z, a1 = 2147483648 + z := ⟨a1 - 2147483648, by first | decide | omega⟩
      refine x_aldC (np := 18) (x := 0) (n := 6) (i := u14) (q := (h 46 u14)) (by decide +kernel) (by decide +kernel) (by first | decide | omega) (by first | decide | omega) (by decide) rfl (fun l16 => ?_)
      refine x_iload (np := 19) (x := 2) (by decide +kernel) rfl la2 ?_
      refine x_cP (t := 0) (mj := 148) (n := 2) (rc := 0) (ml := 2) (nr := 0) (np := 22) (as := [iv_c (h 46 u14), iv_c a2]) (rest := []) (lo1 := [iv_c (h 46 u14), iv_c a2]) (by decide +kernel) (by decide) (by decide +kernel) (Or.inl rfl) rfl rfl (x_wi l16 (x_wi la2 x_wn)) x_wn (by decide) rfl (c148 hJ (by first | decide | omega) (by first | decide | omega)) (fun v17 l18 q19 => ?_)
      refine x_retI (np := 23) (x := 0) (by decide +kernel) l18 (Or.inr ⟨by decide +kernel, by first | decide | omega, by first | decide | omega⟩) (Or.inl ⟨_, rfl, l18, ?_⟩)
      exact ⟨hJ, hF, (by first | decide | omega)⟩
    have q11 : ¬ (a2 < 2147483660) := q11
    refine x_thr (np := 13) (x := 2) (by decide +kernel) (by decide +kernel) (Nat.le_trans x_wn (by decide)) (Or.inr ⟨_, rfl, ?_⟩)
    refine Or.inr ⟨_, rfl, ?_⟩
    exact ⟨hJ, hF, by decide⟩
  have q7 : ¬ (a1 < (h (h 0 8) 7)) := q7
  refine x_thr (np := 18) (x := 2) (by decide +kernel) (by decide +kernel) (Nat.le_trans x_wn (by decide)) (Or.inr ⟨_, rfl, ?_⟩)
  refine Or.inr ⟨_, rfl, ?_⟩
  exact ⟨hJ, hF, by decide⟩
set_option maxHeartbeats 0 in
/-- LentNamesLaw.lives(LLentNames;II[J)I -/
theorem c290_0_97 {sc : Nat × Nat} {d a1 a2 : Nat} {h : xh} (hJ : J h) (ba1 : 0 ≤ a1 ∧ a1 ≤ 4294967295) (ba2 : 0 ≤ a2 ∧ a2 ≤ 4294967295) : X sc 290 (d + 2) (xI fun r h' => J h' ∧ Fr 70368744177664 h h' ∧ (2147483648 ≤ r ∧ r ≤ 2147483649)) 0 0 0 [x_r 0, iv_c a1, iv_c a2, x_r 97, 147573952589676412928] [] h := by
  have la1 : a1 < 4294967296 := by first | decide | omega
  have la2 : a2 < 4294967296 := by first | decide | omega
  have hF := Fr.refl 70368744177664 h
  refine x_aload (np := 1) (x := 3) (by decide +kernel) rfl (x_nc_le (by decide)) ?_
  refine x_const (np := 2) (x := 9223372039002259456) (a := 2147483648) (by decide +kernel) (by decide) (by decide) ?_
  refine x_aload (np := 3) (x := 0) (by decide +kernel) rfl (x_nc_le (by decide)) ?_
  refine x_iload (np := 4) (x := 1) (by decide +kernel) rfl la1 ?_
  refine x_iload (np := 5) (x := 2) (by decide +kernel) rfl la2 ?_
  refine x_cT (t := 6) (mj := 116) (n := 3) (rc := 11) (ml := 3) (cc := 2) (ss := 12) (nr := 2) (np := 8) (as := [x_r 0, iv_c a1, iv_c a2]) (rest := [iv_c 2147483648, x_r 97]) (lo1 := [x_r 0, iv_c a1, iv_c a2]) (by decide +kernel) (by decide) (by decide +kernel) (x_rb_of (by decide +kernel)) rfl rfl (x_wr (by decide) (x_wi la1 (x_wi la2 x_wn))) (x_wi (by decide) (x_wr (by decide) x_wn)) (by decide) rfl (c116_0 hJ  (by first | decide | omega) (by first | decide | omega)) (fun v1 h4 l2 q3 => ?_) (fun E6 h7 q5 => ?_)
  · obtain ⟨j8, f9, b10⟩ := q3
    have f11 := Fr.trans hF f9 (by decide)
    refine x_ifz (k := 0) (tg := 15) (np := 11) (by decide +kernel) (by decide) l2 (fun q12 => ?_) (fun q13 => ?_)
    · have q12 : v1 = 2147483648 := q12
      refine x_lconst (np := 16) (x := 0) (by decide +kernel) (by decide) ?_
      show X _ _ _ _ _ _ _ _ [(73786976294838206464 + iv_c 2147483648), iv_c 2147483648, x_r 97] _
      refine x_last (np := 17) (x := 0) (n := 1) (i := 0) (by decide +kernel) (by decide) (by decide +kernel) (by decide +kernel) (by first | decide | omega) (by first | decide | omega) (by decide) (by decide) ?_
      have j15 := jU (e := 0) (v := 2147483648) 0 j8 rg_97_0_1_1 (by first | decide | omega) (by first | decide | omega) (by first | decide | omega)
      have f17 := jF (e := 0) (v := 2147483648) 0 f11 rg_97_0_1_1 (by first | decide | omega) (by first | decide | omega) (by decide)
      generalize e16 : x_up h4 97 0 2147483648 = h14 at j15 f17 ⊢
      refine x_goto (np := 20) (x := 24) (by decide +kernel) ?_
      refine x_const (np := 25) (x := 9223372039002259456) (a := 2147483648) (by decide +kernel) (by decide) (by decide) ?_
      refine x_retI (np := 26) (x := 0) (by decide +kernel) (by decide) (Or.inl (by decide +kernel)) ⟨_, rfl, (by decide), ?_⟩
      exact ⟨j15, f17, (by first | decide | omega)⟩
    have q13 : ¬ (v1 = 2147483648) := q13
    refine x_lconst (np := 12) (x := 1) (by decide +kernel) (by decide) ?_
    show X _ _ _ _ _ _ _ _ [(73786976294838206464 + iv_c 2147483649), iv_c 2147483648, x_r 97] _
    refine x_goto (np := 15) (x := 16) (by decide +kernel) ?_
    refine x_last (np := 17) (x := 0) (n := 1) (i := 0) (by decide +kernel) (by decide) (by decide +kernel) (by decide +kernel) (by first | decide | omega) (by first | decide | omega) (by decide) (by decide) ?_
    have j19 := jU (e := 0) (v := 2147483649) 0 j8 rg_97_0_1_1 (by first | decide | omega) (by first | decide | omega) (by first | decide | omega)
    have f21 := jF (e := 0) (v := 2147483649) 0 f11 rg_97_0_1_1 (by first | decide | omega) (by first | decide | omega) (by decide)
    generalize e20 : x_up h4 97 0 2147483649 = h18 at j19 f21 ⊢
    refine x_goto (np := 20) (x := 24) (by decide +kernel) ?_
    refine x_const (np := 25) (x := 9223372039002259456) (a := 2147483648) (by decide +kernel) (by decide) (by decide) ?_
    refine x_retI (np := 26) (x := 0) (by decide +kernel) (by decide) (Or.inl (by decide +kernel)) ⟨_, rfl, (by decide), ?_⟩
    exact ⟨j19, f21, (by first | decide | omega)⟩
  obtain ⟨j22, f23, e24⟩ := q5
  have f25 := Fr.trans hF f23 (by decide)
  rcases e24 with rfl
  · refine ⟨20, fun _ _ => rfl, ?_⟩
    refine x_astE (np := 22) (x := 4) (lo' := [x_r 0, iv_c a1, iv_c a2, x_r 97, 55340232221128654850]) (by decide +kernel) (Nat.le_of_ble_eq_true rfl) rfl ?_
    refine x_const (np := 23) (x := 9223372043297226753) (a := 2147483649) (by decide +kernel) (by decide) (by decide) ?_
    refine x_retI (np := 24) (x := 0) (by decide +kernel) (by decide) (Or.inl (by decide +kernel)) ⟨_, rfl, (by decide), ?_⟩
    exact ⟨j22, f25, (by first | decide | omega)⟩
set_option maxHeartbeats 0 in
/-- LentNames.look(II)I -/
theorem c122_0 {sc : Nat × Nat} {d a1 a2 : Nat} {h : xh} (hJ : J h) (ba1 : 0 ≤ a1 ∧ a1 ≤ 4294967295) (ba2 : 0 ≤ a2 ∧ a2 ≤ 4294967295) : X sc 122 (d + 3) (xT (fun r h' => J h' ∧ Fr 0 h h' ∧ (0 ≤ r ∧ r ≤ 4294967295)) (fun E h' => J h' ∧ Fr 0 h h' ∧ (E = 2 ∨ E = 4))) 0 0 0 [x_r 0, iv_c a1, iv_c a2] [] h := by
  have la1 : a1 < 4294967296 := by first | decide | omega
  have la2 : a2 < 4294967296 := by first | decide | omega
  have hF := Fr.refl 0 h
  refine x_aload (np := 1) (x := 0) (by decide +kernel) rfl (x_nc_le (by decide)) ?_
  have t1 : tw (h 0 8) := hJ.2.1
  refine x_getR (np := 4) (x := 648) (f := 8) (q := (h 0 8)) (by decide +kernel) (by decide) (by decide +kernel) rfl ?_
  have q2 : h (h 0 8) 0 = ((h 0 8) + 1) := tf_0_0 hJ t1
  refine x_getR (np := 7) (x := 512) (f := 0) (q := ((h 0 8) + 1)) (by decide +kernel) (by decide) (tg_0_512_0_1 t1) q2 ?_
  refine x_iload (np := 8) (x := 1) (by decide +kernel) rfl la1 ?_
  refine x_nU (t := 0) (mj := 147) (n := 2) (rc := 0) (ml := 2) (cc := 1) (ss := 6) (nr := 0) (np := 11) (as := [x_r ((h 0 8) + 1), iv_c a1]) (rest := []) (lo1 := [x_r ((h 0 8) + 1), iv_c a1]) (by decide +kernel) (by decide) (by decide +kernel) (by decide +kernel) (Or.inl rfl) rfl rfl (x_wr (tn_1 t1) (x_wi la1 x_wn)) x_wn (by decide) rfl ?_
  refine x_iload (np := 1) (x := 1) (by decide +kernel) rfl la1 ?_
  refine x_ifz (k := 2) (tg := 12) (np := 4) (by decide +kernel) (by decide) la1 (fun q3 => ?_) (fun q4 => ?_)
  · have q3 : a1 < 2147483648 := q3
    refine x_thr (np := 15) (x := 2) (by decide +kernel) (by decide +kernel) (Nat.le_trans x_wn (by decide)) (Or.inr ⟨_, rfl, ?_⟩)
    refine Or.inr ⟨_, rfl, ?_⟩
    exact ⟨hJ, hF, by decide⟩
  have q4 : ¬ (a1 < 2147483648) := q4
  refine x_iload (np := 5) (x := 1) (by decide +kernel) rfl la1 ?_
  refine x_aload (np := 6) (x := 0) (by decide +kernel) rfl (x_nc_le (tn_1 t1)) ?_
  have b5 := jB (e := 2) 0 hJ (rg_T1_2_0_1 t1) (by first | decide | omega) (by first | decide | omega)
  refine x_getC (np := 9) (x := 386) (f := 2) (q := (h ((h 0 8) + 1) 2)) (by decide +kernel) (by decide) (tg_1_386_2_0 t1) rfl (fun l6 => ?_)
  refine x_icmp (k := 2) (tg := 23) (np := 12) (by decide +kernel) (by decide) la1 l6 (fun q7 => ?_) (fun q8 => ?_)
  · have q7 : a1 < (h ((h 0 8) + 1) 2) := q7
    refine x_retV (np := 24) (x := 0) (by decide +kernel) (by decide +kernel) (Or.inl ⟨rfl, ?_⟩)
    refine x_iload (np := 12) (x := 2) (by decide +kernel) rfl la2 ?_
    rcases (show a2 < 2147483648 ∨ 2147483655 < a2 ∨ (a2 = 2147483648 ∨ a2 = 2147483649 ∨ a2 = 2147483650 ∨ a2 = 2147483651 ∨ a2 = 2147483652 ∨ a2 = 2147483653 ∨ a2 = 2147483654 ∨ a2 = 2147483655) by first | decide | omega) with q9 | q9 | q9 | q9 | q9 | q9 | q9 | q9 | q9 | q9
    · refine x_tsw0 (np := 13) (x := 0) (by decide +kernel) la2 (lo9 := 2147483648) (hi9 := 2147483655) (tg := 157) (by decide +kernel) (Or.inl q9) ?_
      refine x_thrN (is := 229) (text := "a loan has no such number") rfl rfl (List.mem_of_getElem? (i := 8) rfl) (by rw [tb_b122]; decide +kernel) (by rw [tb_b122]; decide +kernel) (by rw [tb_b122]; decide +kernel) (by rw [tb_b122]; decide +kernel) (by rw [tb_b122]; decide +kernel) (by decide +kernel) (Nat.le_trans x_wn (by decide)) (Or.inr ⟨_, rfl, ?_⟩)
      exact ⟨hJ, hF, by decide⟩
    · refine x_tsw0 (np := 13) (x := 0) (by decide +kernel) la2 (lo9 := 2147483648) (hi9 := 2147483655) (tg := 157) (by decide +kernel) (Or.inr q9) ?_
      refine x_thrN (is := 229) (text := "a loan has no such number") rfl rfl (List.mem_of_getElem? (i := 8) rfl) (by rw [tb_b122]; decide +kernel) (by rw [tb_b122]; decide +kernel) (by rw [tb_b122]; decide +kernel) (by rw [tb_b122]; decide +kernel) (by rw [tb_b122]; decide +kernel) (by decide +kernel) (Nat.le_trans x_wn (by decide)) (Or.inr ⟨_, rfl, ?_⟩)
      exact ⟨hJ, hF, by decide⟩
    · refine x_tsw1 (np := 13) (x := 0) (by decide +kernel) la2 (i := 0) (lo9 := 2147483648) (hi9 := 2147483655) (tg := 60) (by decide +kernel) (by first | decide | omega) (by first | decide | omega) ?_
      refine x_aload (np := 61) (x := 0) (by decide +kernel) rfl (x_nc_le (by decide)) ?_
      refine x_getR (np := 64) (x := 648) (f := 8) (q := (h 0 8)) (by decide +kernel) (by decide) (by decide +kernel) rfl ?_
      have q10 : h (h 0 8) 0 = ((h 0 8) + 1) := tf_0_0 hJ t1
      refine x_getR (np := 67) (x := 512) (f := 0) (q := ((h 0 8) + 1)) (by decide +kernel) (by decide) (tg_0_512_0_1 t1) q10 ?_
      refine x_iload (np := 68) (x := 1) (by decide +kernel) rfl la1 ?_
      refine x_const (np := 69) (x := 9223372039002259456) (a := 2147483648) (by decide +kernel) (by decide) (by decide) ?_
      refine x_nI (t := 6) (mj := 68) (n := 3) (rc := 7) (ml := 4) (nr := 0) (np := 72) (as := [x_r ((h 0 8) + 1), iv_c a1, iv_c 2147483648]) (rest := []) (lo1 := [x_r ((h 0 8) + 1), iv_c a1, iv_c 2147483648, 147573952589676412928]) (by decide +kernel) (by decide) (by decide +kernel) (x_rb_of (tr_1_7 t1)) rfl rfl (x_wr (tn_1 t1) (x_wi la1 (x_wi (by decide) x_wn))) x_wn (by decide) rfl ?_
      refine x_iload (np := 1) (x := 1) (by decide +kernel) rfl la1 ?_
      refine x_ifz (k := 2) (tg := 28) (np := 4) (by decide +kernel) (by decide) la1 (fun q11 => ?_) (fun q12 => ?_)
      · have q11 : a1 < 2147483648 := q11
        exfalso; omega
      have q12 : ¬ (a1 < 2147483648) := q12
      refine x_iload (np := 5) (x := 1) (by decide +kernel) rfl la1 ?_
      refine x_aload (np := 6) (x := 0) (by decide +kernel) rfl (x_nc_le (tn_1 t1)) ?_
      refine x_getC (np := 9) (x := 386) (f := 2) (q := (h ((h 0 8) + 1) 2)) (by decide +kernel) (by decide) (tg_1_386_2_0 t1) rfl (fun l13 => ?_)
      refine x_icmp (k := 3) (tg := 28) (np := 12) (by decide +kernel) (by decide) la1 l6 (fun q14 => ?_) (fun q15 => ?_)
      · have q14 : (h ((h 0 8) + 1) 2) ≤ a1 := q14
        exfalso; omega
      have q15 : ¬ ((h ((h 0 8) + 1) 2) ≤ a1) := q15
      refine x_iload (np := 13) (x := 2) (by decide +kernel) rfl (by decide) ?_
      refine x_ifz (k := 2) (tg := 28) (np := 16) (by decide +kernel) (by decide) (by decide) (fun q16 => ?_) (fun q17 => ?_)
      · have q16 : 2147483648 < 2147483648 := q16
        exfalso; omega
      have q17 : ¬ (2147483648 < 2147483648) := q17
      refine x_iload (np := 17) (x := 2) (by decide +kernel) rfl (by decide) ?_
      refine x_aload (np := 18) (x := 0) (by decide +kernel) rfl (x_nc_le (tn_1 t1)) ?_
      have b18 := jB (e := 0) 0 hJ (rg_T1_0_0_1 t1) (by first | decide | omega) (by first | decide | omega)
      have q19 : (h ((h 0 8) + 1) 0) = 2147483655 := by first | decide | omega
      refine x_getC (np := 21) (x := 384) (f := 0) (q := 2147483655) (by decide +kernel) (by decide) (tg_1_384_0_0 t1) q19 (fun l20 => ?_)
      refine x_icmp (k := 3) (tg := 28) (np := 24) (by decide +kernel) (by decide) (by decide) (by decide) (fun q21 => ?_) (fun q22 => ?_)
      · have q21 : 2147483655 ≤ 2147483648 := q21
        exfalso; omega
      have q22 : ¬ (2147483655 ≤ 2147483648) := q22
      refine x_const (np := 25) (x := 9223372043297226753) (a := 2147483649) (by decide +kernel) (by decide) (by decide) ?_
      refine x_goto (np := 28) (x := 29) (by decide +kernel) ?_
      refine x_istore (np := 30) (x := 3) (lo' := [x_r ((h 0 8) + 1), iv_c a1, iv_c 2147483648, iv_c 2147483649]) (by decide +kernel) (by decide) (Nat.le_of_ble_eq_true rfl) rfl ?_
      refine x_iload (np := 31) (x := 3) (by decide +kernel) rfl (by decide) ?_
      refine x_ifz (k := 0) (tg := 50) (np := 34) (by decide +kernel) (by decide) (by decide) (fun q23 => ?_) (fun q24 => ?_)
      · have q23 : 2147483649 = 2147483648 := q23
        exfalso; omega
      have q24 : ¬ (2147483649 = 2147483648) := q24
      refine x_aload (np := 35) (x := 0) (by decide +kernel) rfl (x_nc_le (tn_1 t1)) ?_
      have q25 : h ((h 0 8) + 1) 1 = ((h 0 8) + 2) := tf_1_1 hJ t1
      refine x_getR (np := 38) (x := 385) (f := 1) (q := ((h 0 8) + 2)) (by decide +kernel) (by decide) (tg_1_385_1_1 t1) q25 ?_
      refine x_iload (np := 39) (x := 1) (by decide +kernel) rfl la1 ?_
      refine x_aload (np := 40) (x := 0) (by decide +kernel) rfl (x_nc_le (tn_1 t1)) ?_
      refine x_getC (np := 43) (x := 384) (f := 0) (q := 2147483655) (by decide +kernel) (by decide) (tg_1_384_0_0 t1) q19 (fun l26 => ?_)
      obtain ⟨u27, q28⟩ : ∃ z, a1 = 2147483648 + z := ⟨a1 - 2147483648, by first | decide | omega⟩
      refine x_imul (np := 44) (x := 0) (i := u27) (j := 7) (v := (2147483648 + 7 * u27)) (by decide +kernel) (by first | decide | omega) (by first | decide | omega) (by first | decide | omega) (by first | decide | omega) la1 (by decide) ?_
      refine x_iload (np := 45) (x := 2) (by decide +kernel) rfl (by decide) ?_
      refine x_iadd (np := 46) (x := 0) (v := (2147483648 + 7 * u27)) (by decide +kernel) (by first | decide | omega) (by decide) (by first | decide | omega) (by first | decide | omega) ?_
      have b30 := jB (e := (7 * u27)) u27 hJ (rg_T2_0_7_20 t1) (by first | decide | omega) (by first | decide | omega)
      refine x_aldC (np := 47) (x := 0) (n := 140) (i := (7 * u27)) (q := ((h ((h 0 8) + 2) (7 * u27)))) (by decide +kernel) (ta_2_140 t1) (by first | decide | omega) (by first | decide | omega) (by decide) rfl (fun l31 => ?_)
      refine x_goto (np := 50) (x := 51) (by decide +kernel) ?_
      refine x_retI (np := 52) (x := 0) (by decide +kernel) l31 (Or.inl (by decide +kernel)) ⟨_, rfl, l31, ?_⟩
      refine x_retI (np := 73) (x := 0) (by decide +kernel) l31 (Or.inl (by decide +kernel)) (Or.inl ⟨_, rfl, l31, ?_⟩)
      exact ⟨hJ, hF, (by first | decide | omega)⟩
    · refine x_tsw1 (np := 13) (x := 0) (by decide +kernel) la2 (i := 1) (lo9 := 2147483648) (hi9 := 2147483655) (tg := 73) (by decide +kernel) (by first | decide | omega) (by first | decide | omega) ?_
      refine x_aload (np := 74) (x := 0) (by decide +kernel) rfl (x_nc_le (by decide)) ?_
      refine x_getR (np := 77) (x := 648) (f := 8) (q := (h 0 8)) (by decide +kernel) (by decide) (by decide +kernel) rfl ?_
      have q32 : h (h 0 8) 0 = ((h 0 8) + 1) := tf_0_0 hJ t1
      refine x_getR (np := 80) (x := 512) (f := 0) (q := ((h 0 8) + 1)) (by decide +kernel) (by decide) (tg_0_512_0_1 t1) q32 ?_
      refine x_iload (np := 81) (x := 1) (by decide +kernel) rfl la1 ?_
      refine x_const (np := 82) (x := 9223372043297226753) (a := 2147483649) (by decide +kernel) (by decide) (by decide) ?_
      refine x_nI (t := 6) (mj := 68) (n := 3) (rc := 7) (ml := 4) (nr := 0) (np := 85) (as := [x_r ((h 0 8) + 1), iv_c a1, iv_c 2147483649]) (rest := []) (lo1 := [x_r ((h 0 8) + 1), iv_c a1, iv_c 2147483649, 147573952589676412928]) (by decide +kernel) (by decide) (by decide +kernel) (x_rb_of (tr_1_7 t1)) rfl rfl (x_wr (tn_1 t1) (x_wi la1 (x_wi (by decide) x_wn))) x_wn (by decide) rfl ?_
      refine x_iload (np := 1) (x := 1) (by decide +kernel) rfl la1 ?_
      refine x_ifz (k := 2) (tg := 28) (np := 4) (by decide +kernel) (by decide) la1 (fun q33 => ?_) (fun q34 => ?_)
      · have q33 : a1 < 2147483648 := q33
        exfalso; omega
      have q34 : ¬ (a1 < 2147483648) := q34
      refine x_iload (np := 5) (x := 1) (by decide +kernel) rfl la1 ?_
      refine x_aload (np := 6) (x := 0) (by decide +kernel) rfl (x_nc_le (tn_1 t1)) ?_
      refine x_getC (np := 9) (x := 386) (f := 2) (q := (h ((h 0 8) + 1) 2)) (by decide +kernel) (by decide) (tg_1_386_2_0 t1) rfl (fun l35 => ?_)
      refine x_icmp (k := 3) (tg := 28) (np := 12) (by decide +kernel) (by decide) la1 l6 (fun q36 => ?_) (fun q37 => ?_)
      · have q36 : (h ((h 0 8) + 1) 2) ≤ a1 := q36
        exfalso; omega
      have q37 : ¬ ((h ((h 0 8) + 1) 2) ≤ a1) := q37
      refine x_iload (np := 13) (x := 2) (by decide +kernel) rfl (by decide) ?_
      refine x_ifz (k := 2) (tg := 28) (np := 16) (by decide +kernel) (by decide) (by decide) (fun q38 => ?_) (fun q39 => ?_)
      · have q38 : 2147483649 < 2147483648 := q38
        exfalso; omega
      have q39 : ¬ (2147483649 < 2147483648) := q39
      refine x_iload (np := 17) (x := 2) (by decide +kernel) rfl (by decide) ?_
      refine x_aload (np := 18) (x := 0) (by decide +kernel) rfl (x_nc_le (tn_1 t1)) ?_
      have b40 := jB (e := 0) 0 hJ (rg_T1_0_0_1 t1) (by first | decide | omega) (by first | decide | omega)
      have q41 : (h ((h 0 8) + 1) 0) = 2147483655 := by first | decide | omega
      refine x_getC (np := 21) (x := 384) (f := 0) (q := 2147483655) (by decide +kernel) (by decide) (tg_1_384_0_0 t1) q41 (fun l42 => ?_)
      refine x_icmp (k := 3) (tg := 28) (np := 24) (by decide +kernel) (by decide) (by decide) (by decide) (fun q43 => ?_) (fun q44 => ?_)
      · have q43 : 2147483655 ≤ 2147483649 := q43
        exfalso; omega
      have q44 : ¬ (2147483655 ≤ 2147483649) := q44
      refine x_const (np := 25) (x := 9223372043297226753) (a := 2147483649) (by decide +kernel) (by decide) (by decide) ?_
      refine x_goto (np := 28) (x := 29) (by decide +kernel) ?_
      refine x_istore (np := 30) (x := 3) (lo' := [x_r ((h 0 8) + 1), iv_c a1, iv_c 2147483649, iv_c 2147483649]) (by decide +kernel) (by decide) (Nat.le_of_ble_eq_true rfl) rfl ?_
      refine x_iload (np := 31) (x := 3) (by decide +kernel) rfl (by decide) ?_
      refine x_ifz (k := 0) (tg := 50) (np := 34) (by decide +kernel) (by decide) (by decide) (fun q45 => ?_) (fun q46 => ?_)
      · have q45 : 2147483649 = 2147483648 := q45
        exfalso; omega
      have q46 : ¬ (2147483649 = 2147483648) := q46
      refine x_aload (np := 35) (x := 0) (by decide +kernel) rfl (x_nc_le (tn_1 t1)) ?_
      have q47 : h ((h 0 8) + 1) 1 = ((h 0 8) + 2) := tf_1_1 hJ t1
      refine x_getR (np := 38) (x := 385) (f := 1) (q := ((h 0 8) + 2)) (by decide +kernel) (by decide) (tg_1_385_1_1 t1) q47 ?_
      refine x_iload (np := 39) (x := 1) (by decide +kernel) rfl la1 ?_
      refine x_aload (np := 40) (x := 0) (by decide +kernel) rfl (x_nc_le (tn_1 t1)) ?_
      refine x_getC (np := 43) (x := 384) (f := 0) (q := 2147483655) (by decide +kernel) (by decide) (tg_1_384_0_0 t1) q41 (fun l48 => ?_)
      obtain ⟨u49, q50⟩ : ∃ z, a1 = 2147483648 + z := ⟨a1 - 2147483648, by first | decide | omega⟩
      refine x_imul (np := 44) (x := 0) (i := u49) (j := 7) (v := (2147483648 + 7 * u49)) (by decide +kernel) (by first | decide | omega) (by first | decide | omega) (by first | decide | omega) (by first | decide | omega) la1 (by decide) ?_
      refine x_iload (np := 45) (x := 2) (by decide +kernel) rfl (by decide) ?_
      refine x_iadd (np := 46) (x := 0) (v := (2147483649 + 7 * u49)) (by decide +kernel) (by first | decide | omega) (by decide) (by first | decide | omega) (by first | decide | omega) ?_
      refine x_aldC (np := 47) (x := 0) (n := 140) (i := (1 + 7 * u49)) (q := ((h ((h 0 8) + 2) (1 + 7 * u49)))) (by decide +kernel) (ta_2_140 t1) (by first | decide | omega) (by first | decide | omega) (by decide) rfl (fun l52 => ?_)
      refine x_goto (np := 50) (x := 51) (by decide +kernel) ?_
      refine x_retI (np := 52) (x := 0) (by decide +kernel) l52 (Or.inl (by decide +kernel)) ⟨_, rfl, l52, ?_⟩
      refine x_retI (np := 86) (x := 0) (by decide +kernel) l52 (Or.inl (by decide +kernel)) (Or.inl ⟨_, rfl, l52, ?_⟩)
      exact ⟨hJ, hF, (by first | decide | omega)⟩
    · refine x_tsw1 (np := 13) (x := 0) (by decide +kernel) la2 (i := 2) (lo9 := 2147483648) (hi9 := 2147483655) (tg := 86) (by decide +kernel) (by first | decide | omega) (by first | decide | omega) ?_
      refine x_aload (np := 87) (x := 0) (by decide +kernel) rfl (x_nc_le (by decide)) ?_
      refine x_getR (np := 90) (x := 648) (f := 8) (q := (h 0 8)) (by decide +kernel) (by decide) (by decide +kernel) rfl ?_
      have q53 : h (h 0 8) 0 = ((h 0 8) + 1) := tf_0_0 hJ t1
      refine x_getR (np := 93) (x := 512) (f := 0) (q := ((h 0 8) + 1)) (by decide +kernel) (by decide) (tg_0_512_0_1 t1) q53 ?_
      refine x_iload (np := 94) (x := 1) (by decide +kernel) rfl la1 ?_
      refine x_const (np := 95) (x := 9223372047592194050) (a := 2147483650) (by decide +kernel) (by decide) (by decide) ?_
      refine x_nI (t := 6) (mj := 68) (n := 3) (rc := 7) (ml := 4) (nr := 0) (np := 98) (as := [x_r ((h 0 8) + 1), iv_c a1, iv_c 2147483650]) (rest := []) (lo1 := [x_r ((h 0 8) + 1), iv_c a1, iv_c 2147483650, 147573952589676412928]) (by decide +kernel) (by decide) (by decide +kernel) (x_rb_of (tr_1_7 t1)) rfl rfl (x_wr (tn_1 t1) (x_wi la1 (x_wi (by decide) x_wn))) x_wn (by decide) rfl ?_
      refine x_iload (np := 1) (x := 1) (by decide +kernel) rfl la1 ?_
      refine x_ifz (k := 2) (tg := 28) (np := 4) (by decide +kernel) (by decide) la1 (fun q54 => ?_) (fun q55 => ?_)
      · have q54 : a1 < 2147483648 := q54
        exfalso; omega
      have q55 : ¬ (a1 < 2147483648) := q55
      refine x_iload (np := 5) (x := 1) (by decide +kernel) rfl la1 ?_
      refine x_aload (np := 6) (x := 0) (by decide +kernel) rfl (x_nc_le (tn_1 t1)) ?_
      refine x_getC (np := 9) (x := 386) (f := 2) (q := (h ((h 0 8) + 1) 2)) (by decide +kernel) (by decide) (tg_1_386_2_0 t1) rfl (fun l56 => ?_)
      refine x_icmp (k := 3) (tg := 28) (np := 12) (by decide +kernel) (by decide) la1 l6 (fun q57 => ?_) (fun q58 => ?_)
      · have q57 : (h ((h 0 8) + 1) 2) ≤ a1 := q57
        exfalso; omega
      have q58 : ¬ ((h ((h 0 8) + 1) 2) ≤ a1) := q58
      refine x_iload (np := 13) (x := 2) (by decide +kernel) rfl (by decide) ?_
      refine x_ifz (k := 2) (tg := 28) (np := 16) (by decide +kernel) (by decide) (by decide) (fun q59 => ?_) (fun q60 => ?_)
      · have q59 : 2147483650 < 2147483648 := q59
        exfalso; omega
      have q60 : ¬ (2147483650 < 2147483648) := q60
      refine x_iload (np := 17) (x := 2) (by decide +kernel) rfl (by decide) ?_
      refine x_aload (np := 18) (x := 0) (by decide +kernel) rfl (x_nc_le (tn_1 t1)) ?_
      have b61 := jB (e := 0) 0 hJ (rg_T1_0_0_1 t1) (by first | decide | omega) (by first | decide | omega)
      have q62 : (h ((h 0 8) + 1) 0) = 2147483655 := by first | decide | omega
      refine x_getC (np := 21) (x := 384) (f := 0) (q := 2147483655) (by decide +kernel) (by decide) (tg_1_384_0_0 t1) q62 (fun l63 => ?_)
      refine x_icmp (k := 3) (tg := 28) (np := 24) (by decide +kernel) (by decide) (by decide) (by decide) (fun q64 => ?_) (fun q65 => ?_)
      · have q64 : 2147483655 ≤ 2147483650 := q64
        exfalso; omega
      have q65 : ¬ (2147483655 ≤ 2147483650) := q65
      refine x_const (np := 25) (x := 9223372043297226753) (a := 2147483649) (by decide +kernel) (by decide) (by decide) ?_
      refine x_goto (np := 28) (x := 29) (by decide +kernel) ?_
      refine x_istore (np := 30) (x := 3) (lo' := [x_r ((h 0 8) + 1), iv_c a1, iv_c 2147483650, iv_c 2147483649]) (by decide +kernel) (by decide) (Nat.le_of_ble_eq_true rfl) rfl ?_
      refine x_iload (np := 31) (x := 3) (by decide +kernel) rfl (by decide) ?_
      refine x_ifz (k := 0) (tg := 50) (np := 34) (by decide +kernel) (by decide) (by decide) (fun q66 => ?_) (fun q67 => ?_)
      · have q66 : 2147483649 = 2147483648 := q66
        exfalso; omega
      have q67 : ¬ (2147483649 = 2147483648) := q67
      refine x_aload (np := 35) (x := 0) (by decide +kernel) rfl (x_nc_le (tn_1 t1)) ?_
      have q68 : h ((h 0 8) + 1) 1 = ((h 0 8) + 2) := tf_1_1 hJ t1
      refine x_getR (np := 38) (x := 385) (f := 1) (q := ((h 0 8) + 2)) (by decide +kernel) (by decide) (tg_1_385_1_1 t1) q68 ?_
      refine x_iload (np := 39) (x := 1) (by decide +kernel) rfl la1 ?_
      refine x_aload (np := 40) (x := 0) (by decide +kernel) rfl (x_nc_le (tn_1 t1)) ?_
      refine x_getC (np := 43) (x := 384) (f := 0) (q := 2147483655) (by decide +kernel) (by decide) (tg_1_384_0_0 t1) q62 (fun l69 => ?_)
      obtain ⟨u70, q71⟩ : ∃ z, a1 = 2147483648 + z := ⟨a1 - 2147483648, by first | decide | omega⟩
      refine x_imul (np := 44) (x := 0) (i := u70) (j := 7) (v := (2147483648 + 7 * u70)) (by decide +kernel) (by first | decide | omega) (by first | decide | omega) (by first | decide | omega) (by first | decide | omega) la1 (by decide) ?_
      refine x_iload (np := 45) (x := 2) (by decide +kernel) rfl (by decide) ?_
      refine x_iadd (np := 46) (x := 0) (v := (2147483650 + 7 * u70)) (by decide +kernel) (by first | decide | omega) (by decide) (by first | decide | omega) (by first | decide | omega) ?_
      refine x_aldC (np := 47) (x := 0) (n := 140) (i := (2 + 7 * u70)) (q := ((h ((h 0 8) + 2) (2 + 7 * u70)))) (by decide +kernel) (ta_2_140 t1) (by first | decide | omega) (by first | decide | omega) (by decide) rfl (fun l73 => ?_)
      refine x_goto (np := 50) (x := 51) (by decide +kernel) ?_
      refine x_retI (np := 52) (x := 0) (by decide +kernel) l73 (Or.inl (by decide +kernel)) ⟨_, rfl, l73, ?_⟩
      refine x_retI (np := 99) (x := 0) (by decide +kernel) l73 (Or.inl (by decide +kernel)) (Or.inl ⟨_, rfl, l73, ?_⟩)
      exact ⟨hJ, hF, (by first | decide | omega)⟩
    · refine x_tsw1 (np := 13) (x := 0) (by decide +kernel) la2 (i := 3) (lo9 := 2147483648) (hi9 := 2147483655) (tg := 99) (by decide +kernel) (by first | decide | omega) (by first | decide | omega) ?_
      refine x_aload (np := 100) (x := 0) (by decide +kernel) rfl (x_nc_le (by decide)) ?_
      refine x_getR (np := 103) (x := 648) (f := 8) (q := (h 0 8)) (by decide +kernel) (by decide) (by decide +kernel) rfl ?_
      refine x_iload (np := 104) (x := 1) (by decide +kernel) rfl la1 ?_
      refine x_nI (t := 6) (mj := 86) (n := 2) (rc := 9) (ml := 2) (nr := 0) (np := 107) (as := [x_r (h 0 8), iv_c a1]) (rest := []) (lo1 := [x_r (h 0 8), iv_c a1]) (by decide +kernel) (by decide) (by decide +kernel) (x_rb_of (tr_0_9 t1)) rfl rfl (x_wr (tn_0 t1) (x_wi la1 x_wn)) x_wn (by decide) rfl ?_
      refine x_aload (np := 1) (x := 0) (by decide +kernel) rfl (x_nc_le (tn_0 t1)) ?_
      refine x_iload (np := 2) (x := 1) (by decide +kernel) rfl la1 ?_
      refine x_nI (t := 6) (mj := 85) (n := 2) (rc := 9) (ml := 2) (nr := 0) (np := 5) (as := [x_r (h 0 8), iv_c a1]) (rest := []) (lo1 := [x_r (h 0 8), iv_c a1]) (by decide +kernel) (by decide) (by decide +kernel) (x_rb_of (tr_0_9 t1)) rfl rfl (x_wr (tn_0 t1) (x_wi la1 x_wn)) x_wn (by decide) rfl ?_
      refine x_aload (np := 1) (x := 0) (by decide +kernel) rfl (x_nc_le (tn_0 t1)) ?_
      have q74 : h (h 0 8) 0 = ((h 0 8) + 1) := tf_0_0 hJ t1
      refine x_getR (np := 4) (x := 512) (f := 0) (q := ((h 0 8) + 1)) (by decide +kernel) (by decide) (tg_0_512_0_1 t1) q74 ?_
      refine x_iload (np := 5) (x := 1) (by decide +kernel) rfl la1 ?_
      refine x_const (np := 6) (x := 9223372047592194050) (a := 2147483650) (by decide +kernel) (by decide) (by decide) ?_
      refine x_nI (t := 6) (mj := 68) (n := 3) (rc := 7) (ml := 4) (nr := 0) (np := 9) (as := [x_r ((h 0 8) + 1), iv_c a1, iv_c 2147483650]) (rest := []) (lo1 := [x_r ((h 0 8) + 1), iv_c a1, iv_c 2147483650, 147573952589676412928]) (by decide +kernel) (by decide) (by decide +kernel) (x_rb_of (tr_1_7 t1)) rfl rfl (x_wr (tn_1 t1) (x_wi la1 (x_wi (by decide) x_wn))) x_wn (by decide) rfl ?_
      refine x_iload (np := 1) (x := 1) (by decide +kernel) rfl la1 ?_
      refine x_ifz (k := 2) (tg := 28) (np := 4) (by decide +kernel) (by decide) la1 (fun q75 => ?_) (fun q76 => ?_)
      · have q75 : a1 < 2147483648 := q75
        exfalso; omega
      have q76 : ¬ (a1 < 2147483648) := q76
      refine x_iload (np := 5) (x := 1) (by decide +kernel) rfl la1 ?_
      refine x_aload (np := 6) (x := 0) (by decide +kernel) rfl (x_nc_le (tn_1 t1)) ?_
      refine x_getC (np := 9) (x := 386) (f := 2) (q := (h ((h 0 8) + 1) 2)) (by decide +kernel) (by decide) (tg_1_386_2_0 t1) rfl (fun l77 => ?_)
      refine x_icmp (k := 3) (tg := 28) (np := 12) (by decide +kernel) (by decide) la1 l6 (fun q78 => ?_) (fun q79 => ?_)
      · have q78 : (h ((h 0 8) + 1) 2) ≤ a1 := q78
        exfalso; omega
      have q79 : ¬ ((h ((h 0 8) + 1) 2) ≤ a1) := q79
      refine x_iload (np := 13) (x := 2) (by decide +kernel) rfl (by decide) ?_
      refine x_ifz (k := 2) (tg := 28) (np := 16) (by decide +kernel) (by decide) (by decide) (fun q80 => ?_) (fun q81 => ?_)
      · have q80 : 2147483650 < 2147483648 := q80
        exfalso; omega
      have q81 : ¬ (2147483650 < 2147483648) := q81
      refine x_iload (np := 17) (x := 2) (by decide +kernel) rfl (by decide) ?_
      refine x_aload (np := 18) (x := 0) (by decide +kernel) rfl (x_nc_le (tn_1 t1)) ?_
      have b82 := jB (e := 0) 0 hJ (rg_T1_0_0_1 t1) (by first | decide | omega) (by first | decide | omega)
      have q83 : (h ((h 0 8) + 1) 0) = 2147483655 := by first | decide | omega
      refine x_getC (np := 21) (x := 384) (f := 0) (q := 2147483655) (by decide +kernel) (by decide) (tg_1_384_0_0 t1) q83 (fun l84 => ?_)
      refine x_icmp (k := 3) (tg := 28) (np := 24) (by decide +kernel) (by decide) (by decide) (by decide) (fun q85 => ?_) (fun q86 => ?_)
      · have q85 : 2147483655 ≤ 2147483650 := q85
        exfalso; omega
      have q86 : ¬ (2147483655 ≤ 2147483650) := q86
      refine x_const (np := 25) (x := 9223372043297226753) (a := 2147483649) (by decide +kernel) (by decide) (by decide) ?_
      refine x_goto (np := 28) (x := 29) (by decide +kernel) ?_
      refine x_istore (np := 30) (x := 3) (lo' := [x_r ((h 0 8) + 1), iv_c a1, iv_c 2147483650, iv_c 2147483649]) (by decide +kernel) (by decide) (Nat.le_of_ble_eq_true rfl) rfl ?_
      refine x_iload (np := 31) (x := 3) (by decide +kernel) rfl (by decide) ?_
      refine x_ifz (k := 0) (tg := 50) (np := 34) (by decide +kernel) (by decide) (by decide) (fun q87 => ?_) (fun q88 => ?_)
      · have q87 : 2147483649 = 2147483648 := q87
        exfalso; omega
      have q88 : ¬ (2147483649 = 2147483648) := q88
      refine x_aload (np := 35) (x := 0) (by decide +kernel) rfl (x_nc_le (tn_1 t1)) ?_
      have q89 : h ((h 0 8) + 1) 1 = ((h 0 8) + 2) := tf_1_1 hJ t1
      refine x_getR (np := 38) (x := 385) (f := 1) (q := ((h 0 8) + 2)) (by decide +kernel) (by decide) (tg_1_385_1_1 t1) q89 ?_
      refine x_iload (np := 39) (x := 1) (by decide +kernel) rfl la1 ?_
      refine x_aload (np := 40) (x := 0) (by decide +kernel) rfl (x_nc_le (tn_1 t1)) ?_
      refine x_getC (np := 43) (x := 384) (f := 0) (q := 2147483655) (by decide +kernel) (by decide) (tg_1_384_0_0 t1) q83 (fun l90 => ?_)
      obtain ⟨u91, q92⟩ : ∃ z, a1 = 2147483648 + z := ⟨a1 - 2147483648, by first | decide | omega⟩
      refine x_imul (np := 44) (x := 0) (i := u91) (j := 7) (v := (2147483648 + 7 * u91)) (by decide +kernel) (by first | decide | omega) (by first | decide | omega) (by first | decide | omega) (by first | decide | omega) la1 (by decide) ?_
      refine x_iload (np := 45) (x := 2) (by decide +kernel) rfl (by decide) ?_
      refine x_iadd (np := 46) (x := 0) (v := (2147483650 + 7 * u91)) (by decide +kernel) (by first | decide | omega) (by decide) (by first | decide | omega) (by first | decide | omega) ?_
      refine x_aldC (np := 47) (x := 0) (n := 140) (i := (2 + 7 * u91)) (q := ((h ((h 0 8) + 2) (2 + 7 * u91)))) (by decide +kernel) (ta_2_140 t1) (by first | decide | omega) (by first | decide | omega) (by decide) rfl (fun l94 => ?_)
      refine x_goto (np := 50) (x := 51) (by decide +kernel) ?_
      refine x_retI (np := 52) (x := 0) (by decide +kernel) l94 (Or.inl (by decide +kernel)) ⟨_, rfl, l94, ?_⟩
      refine x_aload (np := 10) (x := 0) (by decide +kernel) rfl (x_nc_le (tn_0 t1)) ?_
      have q95 : h (h 0 8) 0 = ((h 0 8) + 1) := tf_0_0 hJ t1
      refine x_getR (np := 13) (x := 512) (f := 0) (q := ((h 0 8) + 1)) (by decide +kernel) (by decide) (tg_0_512_0_1 t1) q95 ?_
      refine x_iload (np := 14) (x := 1) (by decide +kernel) rfl la1 ?_
      refine x_const (np := 15) (x := 9223372051887161347) (a := 2147483651) (by decide +kernel) (by decide) (by decide) ?_
      refine x_nI (t := 6) (mj := 68) (n := 3) (rc := 7) (ml := 4) (nr := 1) (np := 18) (as := [x_r ((h 0 8) + 1), iv_c a1, iv_c 2147483651]) (rest := [iv_c ((h ((h 0 8) + 2) (2 + 7 * u91)))]) (lo1 := [x_r ((h 0 8) + 1), iv_c a1, iv_c 2147483651, 147573952589676412928]) (by decide +kernel) (by decide) (by decide +kernel) (x_rb_of (tr_1_7 t1)) rfl rfl (x_wr (tn_1 t1) (x_wi la1 (x_wi (by decide) x_wn))) (x_wi l94 x_wn) (by decide) rfl ?_
      refine x_iload (np := 1) (x := 1) (by decide +kernel) rfl la1 ?_
      refine x_ifz (k := 2) (tg := 28) (np := 4) (by decide +kernel) (by decide) la1 (fun q96 => ?_) (fun q97 => ?_)
      · have q96 : a1 < 2147483648 := q96
        exfalso; omega
      have q97 : ¬ (a1 < 2147483648) := q97
      refine x_iload (np := 5) (x := 1) (by decide +kernel) rfl la1 ?_
      refine x_aload (np := 6) (x := 0) (by decide +kernel) rfl (x_nc_le (tn_1 t1)) ?_
      refine x_getC (np := 9) (x := 386) (f := 2) (q := (h ((h 0 8) + 1) 2)) (by decide +kernel) (by decide) (tg_1_386_2_0 t1) rfl (fun l98 => ?_)
      refine x_icmp (k := 3) (tg := 28) (np := 12) (by decide +kernel) (by decide) la1 l6 (fun q99 => ?_) (fun q100 => ?_)
      · have q99 : (h ((h 0 8) + 1) 2) ≤ a1 := q99
        exfalso; omega
      have q100 : ¬ ((h ((h 0 8) + 1) 2) ≤ a1) := q100
      refine x_iload (np := 13) (x := 2) (by decide +kernel) rfl (by decide) ?_
      refine x_ifz (k := 2) (tg := 28) (np := 16) (by decide +kernel) (by decide) (by decide) (fun q101 => ?_) (fun q102 => ?_)
      · have q101 : 2147483651 < 2147483648 := q101
        exfalso; omega
      have q102 : ¬ (2147483651 < 2147483648) := q102
      refine x_iload (np := 17) (x := 2) (by decide +kernel) rfl (by decide) ?_
      refine x_aload (np := 18) (x := 0) (by decide +kernel) rfl (x_nc_le (tn_1 t1)) ?_
      refine x_getC (np := 21) (x := 384) (f := 0) (q := 2147483655) (by decide +kernel) (by decide) (tg_1_384_0_0 t1) q83 (fun l103 => ?_)
      refine x_icmp (k := 3) (tg := 28) (np := 24) (by decide +kernel) (by decide) (by decide) (by decide) (fun q104 => ?_) (fun q105 => ?_)
      · have q104 : 2147483655 ≤ 2147483651 := q104
        exfalso; omega
      have q105 : ¬ (2147483655 ≤ 2147483651) := q105
      refine x_const (np := 25) (x := 9223372043297226753) (a := 2147483649) (by decide +kernel) (by decide) (by decide) ?_
      refine x_goto (np := 28) (x := 29) (by decide +kernel) ?_
      refine x_istore (np := 30) (x := 3) (lo' := [x_r ((h 0 8) + 1), iv_c a1, iv_c 2147483651, iv_c 2147483649]) (by decide +kernel) (by decide) (Nat.le_of_ble_eq_true rfl) rfl ?_
      refine x_iload (np := 31) (x := 3) (by decide +kernel) rfl (by decide) ?_
      refine x_ifz (k := 0) (tg := 50) (np := 34) (by decide +kernel) (by decide) (by decide) (fun q106 => ?_) (fun q107 => ?_)
      · have q106 : 2147483649 = 2147483648 := q106
        exfalso; omega
      have q107 : ¬ (2147483649 = 2147483648) := q107
      refine x_aload (np := 35) (x := 0) (by decide +kernel) rfl (x_nc_le (tn_1 t1)) ?_
      have q108 : h ((h 0 8) + 1) 1 = ((h 0 8) + 2) := tf_1_1 hJ t1
      refine x_getR (np := 38) (x := 385) (f := 1) (q := ((h 0 8) + 2)) (by decide +kernel) (by decide) (tg_1_385_1_1 t1) q108 ?_
      refine x_iload (np := 39) (x := 1) (by decide +kernel) rfl la1 ?_
      refine x_aload (np := 40) (x := 0) (by decide +kernel) rfl (x_nc_le (tn_1 t1)) ?_
      refine x_getC (np := 43) (x := 384) (f := 0) (q := 2147483655) (by decide +kernel) (by decide) (tg_1_384_0_0 t1) q83 (fun l109 => ?_)
      refine x_imul (np := 44) (x := 0) (i := u91) (j := 7) (v := (2147483648 + 7 * u91)) (by decide +kernel) (by first | decide | omega) (by first | decide | omega) (by first | decide | omega) (by first | decide | omega) la1 (by decide) ?_
      refine x_iload (np := 45) (x := 2) (by decide +kernel) rfl (by decide) ?_
      refine x_iadd (np := 46) (x := 0) (v := (2147483651 + 7 * u91)) (by decide +kernel) (by first | decide | omega) (by decide) (by first | decide | omega) (by first | decide | omega) ?_
      refine x_aldC (np := 47) (x := 0) (n := 140) (i := (3 + 7 * u91)) (q := ((h ((h 0 8) + 2) (3 + 7 * u91)))) (by decide +kernel) (ta_2_140 t1) (by first | decide | omega) (by first | decide | omega) (by decide) rfl (fun l111 => ?_)
      refine x_goto (np := 50) (x := 51) (by decide +kernel) ?_
      refine x_retI (np := 52) (x := 0) (by decide +kernel) l111 (Or.inl (by decide +kernel)) ⟨_, rfl, l111, ?_⟩
      refine x_addA (by rw [tb_b85]; decide +kernel) l94 l111 (fun v112 l113 => ?_)
      refine x_const (np := 20) (x := 9223372043297226753) (a := 2147483649) (by decide +kernel) (by decide) (by decide) ?_
      refine x_subA (by rw [tb_b85]; decide +kernel) l113 (by decide) (fun v114 l115 => ?_)
      refine x_retI (np := 22) (x := 0) (by decide +kernel) l115 (Or.inl (by decide +kernel)) ⟨_, rfl, l115, ?_⟩
      refine x_aload (np := 6) (x := 0) (by decide +kernel) rfl (x_nc_le (tn_0 t1)) ?_
      have q116 : h (h 0 8) 0 = ((h 0 8) + 1) := tf_0_0 hJ t1
      refine x_getR (np := 9) (x := 512) (f := 0) (q := ((h 0 8) + 1)) (by decide +kernel) (by decide) (tg_0_512_0_1 t1) q116 ?_
      refine x_iload (np := 10) (x := 1) (by decide +kernel) rfl la1 ?_
      refine x_const (np := 12) (x := 9223372064772063238) (a := 2147483654) (by decide +kernel) (by decide) (by decide) ?_
      refine x_nI (t := 6) (mj := 68) (n := 3) (rc := 7) (ml := 4) (nr := 1) (np := 15) (as := [x_r ((h 0 8) + 1), iv_c a1, iv_c 2147483654]) (rest := [iv_c v114]) (lo1 := [x_r ((h 0 8) + 1), iv_c a1, iv_c 2147483654, 147573952589676412928]) (by decide +kernel) (by decide) (by decide +kernel) (x_rb_of (tr_1_7 t1)) rfl rfl (x_wr (tn_1 t1) (x_wi la1 (x_wi (by decide) x_wn))) (x_wi l115 x_wn) (by decide) rfl ?_
      refine x_iload (np := 1) (x := 1) (by decide +kernel) rfl la1 ?_
      refine x_ifz (k := 2) (tg := 28) (np := 4) (by decide +kernel) (by decide) la1 (fun q117 => ?_) (fun q118 => ?_)
      · have q117 : a1 < 2147483648 := q117
        exfalso; omega
      have q118 : ¬ (a1 < 2147483648) := q118
      refine x_iload (np := 5) (x := 1) (by decide +kernel) rfl la1 ?_
      refine x_aload (np := 6) (x := 0) (by decide +kernel) rfl (x_nc_le (tn_1 t1)) ?_
      refine x_getC (np := 9) (x := 386) (f := 2) (q := (h ((h 0 8) + 1) 2)) (by decide +kernel) (by decide) (tg_1_386_2_0 t1) rfl (fun l119 => ?_)
      refine x_icmp (k := 3) (tg := 28) (np := 12) (by decide +kernel) (by decide) la1 l6 (fun q120 => ?_) (fun q121 => ?_)
      · have q120 : (h ((h 0 8) + 1) 2) ≤ a1 := q120
        exfalso; omega
      have q121 : ¬ ((h ((h 0 8) + 1) 2) ≤ a1) := q121
      refine x_iload (np := 13) (x := 2) (by decide +kernel) rfl (by decide) ?_
      refine x_ifz (k := 2) (tg := 28) (np := 16) (by decide +kernel) (by decide) (by decide) (fun q122 => ?_) (fun q123 => ?_)
      · have q122 : 2147483654 < 2147483648 := q122
        exfalso; omega
      have q123 : ¬ (2147483654 < 2147483648) := q123
      refine x_iload (np := 17) (x := 2) (by decide +kernel) rfl (by decide) ?_
      refine x_aload (np := 18) (x := 0) (by decide +kernel) rfl (x_nc_le (tn_1 t1)) ?_
      refine x_getC (np := 21) (x := 384) (f := 0) (q := 2147483655) (by decide +kernel) (by decide) (tg_1_384_0_0 t1) q83 (fun l124 => ?_)
      refine x_icmp (k := 3) (tg := 28) (np := 24) (by decide +kernel) (by decide) (by decide) (by decide) (fun q125 => ?_) (fun q126 => ?_)
      · have q125 : 2147483655 ≤ 2147483654 := q125
        exfalso; omega
      have q126 : ¬ (2147483655 ≤ 2147483654) := q126
      refine x_const (np := 25) (x := 9223372043297226753) (a := 2147483649) (by decide +kernel) (by decide) (by decide) ?_
      refine x_goto (np := 28) (x := 29) (by decide +kernel) ?_
      refine x_istore (np := 30) (x := 3) (lo' := [x_r ((h 0 8) + 1), iv_c a1, iv_c 2147483654, iv_c 2147483649]) (by decide +kernel) (by decide) (Nat.le_of_ble_eq_true rfl) rfl ?_
      refine x_iload (np := 31) (x := 3) (by decide +kernel) rfl (by decide) ?_
      refine x_ifz (k := 0) (tg := 50) (np := 34) (by decide +kernel) (by decide) (by decide) (fun q127 => ?_) (fun q128 => ?_)
      · have q127 : 2147483649 = 2147483648 := q127
        exfalso; omega
      have q128 : ¬ (2147483649 = 2147483648) := q128
      refine x_aload (np := 35) (x := 0) (by decide +kernel) rfl (x_nc_le (tn_1 t1)) ?_
      have q129 : h ((h 0 8) + 1) 1 = ((h 0 8) + 2) := tf_1_1 hJ t1
      refine x_getR (np := 38) (x := 385) (f := 1) (q := ((h 0 8) + 2)) (by decide +kernel) (by decide) (tg_1_385_1_1 t1) q129 ?_
      refine x_iload (np := 39) (x := 1) (by decide +kernel) rfl la1 ?_
      refine x_aload (np := 40) (x := 0) (by decide +kernel) rfl (x_nc_le (tn_1 t1)) ?_
      refine x_getC (np := 43) (x := 384) (f := 0) (q := 2147483655) (by decide +kernel) (by decide) (tg_1_384_0_0 t1) q83 (fun l130 => ?_)
      refine x_imul (np := 44) (x := 0) (i := u91) (j := 7) (v := (2147483648 + 7 * u91)) (by decide +kernel) (by first | decide | omega) (by first | decide | omega) (by first | decide | omega) (by first | decide | omega) la1 (by decide) ?_
      refine x_iload (np := 45) (x := 2) (by decide +kernel) rfl (by decide) ?_
      refine x_iadd (np := 46) (x := 0) (v := (2147483654 + 7 * u91)) (by decide +kernel) (by first | decide | omega) (by decide) (by first | decide | omega) (by first | decide | omega) ?_
      refine x_aldC (np := 47) (x := 0) (n := 140) (i := (6 + 7 * u91)) (q := ((h ((h 0 8) + 2) (6 + 7 * u91)))) (by decide +kernel) (ta_2_140 t1) (by first | decide | omega) (by first | decide | omega) (by decide) rfl (fun l132 => ?_)
      refine x_goto (np := 50) (x := 51) (by decide +kernel) ?_
      refine x_retI (np := 52) (x := 0) (by decide +kernel) l132 (Or.inl (by decide +kernel)) ⟨_, rfl, l132, ?_⟩
      refine x_addA (by rw [tb_b86]; decide +kernel) l115 l132 (fun v133 l134 => ?_)
      refine x_retI (np := 17) (x := 0) (by decide +kernel) l134 (Or.inl (by decide +kernel)) ⟨_, rfl, l134, ?_⟩
      refine x_retI (np := 108) (x := 0) (by decide +kernel) l134 (Or.inl (by decide +kernel)) (Or.inl ⟨_, rfl, l134, ?_⟩)
      exact ⟨hJ, hF, (by first | decide | omega)⟩
    · refine x_tsw1 (np := 13) (x := 0) (by decide +kernel) la2 (i := 4) (lo9 := 2147483648) (hi9 := 2147483655) (tg := 108) (by decide +kernel) (by first | decide | omega) (by first | decide | omega) ?_
      refine x_aload (np := 109) (x := 0) (by decide +kernel) rfl (x_nc_le (by decide)) ?_
      have q135 : h 0 1 = 45 := by have z := jB (e := 1) 0 hJ rg_0_1_0_1 (by decide) (by decide); omega
      refine x_getR (np := 112) (x := 641) (f := 1) (q := 45) (by decide +kernel) (by decide) (by decide +kernel) q135 ?_
      have q136 : h 45 2 = 48 := by have z := jB (e := 2) 0 hJ rg_45_2_0_1 (by decide) (by decide); omega
      refine x_getR (np := 115) (x := 66) (f := 2) (q := 48) (by decide +kernel) (by decide) (by decide +kernel) q136 ?_
      refine x_iload (np := 116) (x := 1) (by decide +kernel) rfl la1 ?_
      obtain ⟨u137, q138⟩ : ∃ z, a1 = 2147483648 + z := ⟨a1 - 2147483648, by first | decide | omega⟩
      refine x_aldC (np := 117) (x := 0) (n := 20) (i := u137) (q := (h 48 u137)) (by decide +kernel) (by decide +kernel) (by first | decide | omega) (by first | decide | omega) (by decide) rfl (fun l139 => ?_)
      refine x_const (np := 118) (x := 9223372034707292159) (a := 2147483647) (by decide +kernel) (by decide) (by decide) ?_
      refine x_icmp (k := 1) (tg := 125) (np := 121) (by decide +kernel) (by decide) l139 (by decide) (fun q140 => ?_) (fun q141 => ?_)
      · have q140 : (h 48 u137) ≠ 2147483647 := q140
        refine x_const (np := 126) (x := 9223372039002259456) (a := 2147483648) (by decide +kernel) (by decide) (by decide) ?_
        refine x_retI (np := 127) (x := 0) (by decide +kernel) (by decide) (Or.inl (by decide +kernel)) (Or.inl ⟨_, rfl, (by decide), ?_⟩)
        exact ⟨hJ, hF, (by first | decide | omega)⟩
      have q141 : ¬ ((h 48 u137) ≠ 2147483647) := q141
      refine x_const (np := 122) (x := 9223372043297226753) (a := 2147483649) (by decide +kernel) (by decide) (by decide) ?_
      refine x_goto (np := 125) (x := 126) (by decide +kernel) ?_
      refine x_retI (np := 127) (x := 0) (by decide +kernel) (by decide) (Or.inl (by decide +kernel)) (Or.inl ⟨_, rfl, (by decide), ?_⟩)
      exact ⟨hJ, hF, (by first | decide | omega)⟩
    · refine x_tsw1 (np := 13) (x := 0) (by decide +kernel) la2 (i := 5) (lo9 := 2147483648) (hi9 := 2147483655) (tg := 127) (by decide +kernel) (by first | decide | omega) (by first | decide | omega) ?_
      refine x_aload (np := 128) (x := 0) (by decide +kernel) rfl (x_nc_le (by decide)) ?_
      have q142 : h 0 1 = 45 := by have z := jB (e := 1) 0 hJ rg_0_1_0_1 (by decide) (by decide); omega
      refine x_getR (np := 131) (x := 641) (f := 1) (q := 45) (by decide +kernel) (by decide) (by decide +kernel) q142 ?_
      have q143 : h 45 2 = 48 := by have z := jB (e := 2) 0 hJ rg_45_2_0_1 (by decide) (by decide); omega
      refine x_getR (np := 134) (x := 66) (f := 2) (q := 48) (by decide +kernel) (by decide) (by decide +kernel) q143 ?_
      refine x_iload (np := 135) (x := 1) (by decide +kernel) rfl la1 ?_
      obtain ⟨u144, q145⟩ : ∃ z, a1 = 2147483648 + z := ⟨a1 - 2147483648, by first | decide | omega⟩
      refine x_aldC (np := 136) (x := 0) (n := 20) (i := u144) (q := (h 48 u144)) (by decide +kernel) (by decide +kernel) (by first | decide | omega) (by first | decide | omega) (by decide) rfl (fun l146 => ?_)
      refine x_retI (np := 137) (x := 0) (by decide +kernel) l146 (Or.inl (by decide +kernel)) (Or.inl ⟨_, rfl, l146, ?_⟩)
      exact ⟨hJ, hF, (by first | decide | omega)⟩
    · refine x_tsw1 (np := 13) (x := 0) (by decide +kernel) la2 (i := 6) (lo9 := 2147483648) (hi9 := 2147483655) (tg := 137) (by decide +kernel) (by first | decide | omega) (by first | decide | omega) ?_
      refine x_aload (np := 138) (x := 0) (by decide +kernel) rfl (x_nc_le (by decide)) ?_
      have q147 : h 0 1 = 45 := by have z := jB (e := 1) 0 hJ rg_0_1_0_1 (by decide) (by decide); omega
      refine x_getR (np := 141) (x := 641) (f := 1) (q := 45) (by decide +kernel) (by decide) (by decide +kernel) q147 ?_
      have q148 : h 45 3 = 49 := by have z := jB (e := 3) 0 hJ rg_45_3_0_1 (by decide) (by decide); omega
      refine x_getR (np := 144) (x := 67) (f := 3) (q := 49) (by decide +kernel) (by decide) (by decide +kernel) q148 ?_
      refine x_iload (np := 145) (x := 1) (by decide +kernel) rfl la1 ?_
      obtain ⟨u149, q150⟩ : ∃ z, a1 = 2147483648 + z := ⟨a1 - 2147483648, by first | decide | omega⟩
      refine x_aldC (np := 146) (x := 0) (n := 20) (i := u149) (q := (h 49 u149)) (by decide +kernel) (by decide +kernel) (by first | decide | omega) (by first | decide | omega) (by decide) rfl (fun l151 => ?_)
      refine x_retI (np := 147) (x := 0) (by decide +kernel) l151 (Or.inl (by decide +kernel)) (Or.inl ⟨_, rfl, l151, ?_⟩)
      exact ⟨hJ, hF, (by first | decide | omega)⟩
    · refine x_tsw1 (np := 13) (x := 0) (by decide +kernel) la2 (i := 7) (lo9 := 2147483648) (hi9 := 2147483655) (tg := 147) (by decide +kernel) (by first | decide | omega) (by first | decide | omega) ?_
      refine x_aload (np := 148) (x := 0) (by decide +kernel) rfl (x_nc_le (by decide)) ?_
      have q152 : h 0 1 = 45 := by have z := jB (e := 1) 0 hJ rg_0_1_0_1 (by decide) (by decide); omega
      refine x_getR (np := 151) (x := 641) (f := 1) (q := 45) (by decide +kernel) (by decide) (by decide +kernel) q152 ?_
      have q153 : h 45 4 = 50 := by have z := jB (e := 4) 0 hJ rg_45_4_0_1 (by decide) (by decide); omega
      refine x_getR (np := 154) (x := 68) (f := 4) (q := 50) (by decide +kernel) (by decide) (by decide +kernel) q153 ?_
      refine x_iload (np := 155) (x := 1) (by decide +kernel) rfl la1 ?_
      obtain ⟨u154, q155⟩ : ∃ z, a1 = 2147483648 + z := ⟨a1 - 2147483648, by first | decide | omega⟩
      refine x_aldC (np := 156) (x := 0) (n := 20) (i := u154) (q := (h 50 u154)) (by decide +kernel) (by decide +kernel) (by first | decide | omega) (by first | decide | omega) (by decide) rfl (fun l156 => ?_)
      refine x_retI (np := 157) (x := 0) (by decide +kernel) l156 (Or.inl (by decide +kernel)) (Or.inl ⟨_, rfl, l156, ?_⟩)
      exact ⟨hJ, hF, (by first | decide | omega)⟩
  have q8 : ¬ (a1 < (h ((h 0 8) + 1) 2)) := q8
  refine x_thr (np := 15) (x := 2) (by decide +kernel) (by decide +kernel) (Nat.le_trans x_wn (by decide)) (Or.inr ⟨_, rfl, ?_⟩)
  refine Or.inr ⟨_, rfl, ?_⟩
  exact ⟨hJ, hF, by decide⟩
