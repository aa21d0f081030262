/-! ===== methods ===== -/
set_option maxHeartbeats 0 in
/-- LentNames.tell()I -/
theorem c106_0 {sc : Nat × Nat} {d  : Nat} {h : xh} {tB : Nat → Nat} {tN : Nat} (hJ : J h) (hT : Tp tB tN h) (hp0 : h 0 8 ≠ h 0 9) : X sc 106 (d + 10) (xT (fun r h' => J h' ∧ Fr 641059259458641595 h h' ∧ (1 ≤ r ∧ r ≤ 2147483658) ∧ (h' 1 1 = 2147483648) ∧ Tt tB tN (tv h 0) (tv h 2) (tv h 3) (tv h 4) (tv h 5) (some (tv h' 2, tv h' 3, tv h' 4, tv h' 5)) ∧ tv h' 0 = tv h 0 ∧ tv h' 1 = tv h 1 + 1 ∧ r = tv h 1 + 1 ∧ tv h 1 < 2147483658 ∧ h' 0 8 = h 0 9 ∧ h' 0 9 = h 0 8 ∧ (∀ i, 6 ≤ i → i < 12 → tv h' i = tv h i) ∧ Wl (fun u => tv h (18 + u)) (fun u => tv h' (18 + u)) (tv h 3) (tv h' 3) ∧ Tx tB tN (tv h 0) (tv h 2) (tv h 3) (tv h 4) (tv h 5) (fun b => tv h (12 + b)) (fun b => tv h' (12 + b)) ∧ (∀ b, b < 6 → h' 46 b = al9 (tv h' (12 + b))) ∧ Tz tB tN (tv h 0) (tv h 2) (tv h 3) (tv h 4) (tv h 5) (fun i => tv h (28 + i)) (fun i => tv h' (28 + i))) (fun E h' => J h' ∧ Fr 641059259458641595 h h' ∧ (E = 0 ∨ E = 3) ∧ (h' 1 1 = 2147483648) ∧ Te tB tN (tv h 0) (tv h 1) (tv h 2) (tv h 3) (tv h 4) (tv h 5) E ∧ (∀ i, tv h' i = tv h i) ∧ h' 0 8 = h 0 8 ∧ h' 0 9 = h 0 9 ∧ (∀ b, b < 6 → h' 46 b = h 46 b))) 0 0 0 [x_r 0, 147573952589676412928] [] h := by
  have hF := Fr.refl 641059259458641595 h
  refine x_aload (np := 1) (x := 0) (by decide +kernel) rfl (x_nc_le (by decide)) ?_
  have t1 : tw (h 0 9) := hJ.2.2.1
  refine x_getR (np := 4) (x := 649) (f := 9) (q := (h 0 9)) (by decide +kernel) (by decide) (by decide +kernel) rfl ?_
  refine x_aload (np := 5) (x := 0) (by decide +kernel) rfl (x_nc_le (by decide)) ?_
  have t2 : tw (h 0 8) := hJ.2.1
  refine x_getR (np := 8) (x := 648) (f := 8) (q := (h 0 8)) (by decide +kernel) (by decide) (by decide +kernel) rfl ?_
  refine x_cV (t := 6) (mj := 84) (n := 2) (rc := 9) (ml := 2) (nr := 0) (np := 11) (as := [x_r (h 0 9), x_r (h 0 8)]) (rest := []) (lo1 := [x_r (h 0 9), x_r (h 0 8)]) (by decide +kernel) (by decide) (by decide +kernel) (x_rb_of (tr_0_9 t1)) rfl rfl (x_wr (tn_0 t1) (x_wr (tn_0 t2) x_wn)) x_wn (by decide) rfl (c84_T0_T0 hJ t1 t2) (fun h6 q5 => ?_)
  obtain ⟨j7, f8, c11, c12, c13, c14, c15, c16, c17, c18⟩ := q5
  have f19 := Fr.trans hF f8 (by decide)
  have b20 := jB (e := 7) 0 hJ (rg_T0_7_0_1 t2) (by first | decide | omega) (by first | decide | omega)
  have b21 := jB (e := 7) 0 j7 (rg_T0_7_0_1 t1) (by first | decide | omega) (by first | decide | omega)
  have b22 := jB (e := 2) 0 hJ (rg_T1_2_0_1 t2) (by first | decide | omega) (by first | decide | omega)
  have b23 := jB (e := 2) 0 j7 (rg_T1_2_0_1 t1) (by first | decide | omega) (by first | decide | omega)
  have b24 := jB (e := 2) 0 hJ (rg_T3_2_0_1 t2) (by first | decide | omega) (by first | decide | omega)
  have b25 := jB (e := 2) 0 j7 (rg_T3_2_0_1 t1) (by first | decide | omega) (by first | decide | omega)
  have b26 := jB (e := 2) 0 hJ (rg_T5_2_0_1 t2) (by first | decide | omega) (by first | decide | omega)
  have b27 := jB (e := 2) 0 j7 (rg_T5_2_0_1 t1) (by first | decide | omega) (by first | decide | omega)
  have b28 := jB (e := 2) 0 hJ (rg_T7_2_0_1 t2) (by first | decide | omega) (by first | decide | omega)
  have b29 := jB (e := 2) 0 j7 (rg_T7_2_0_1 t1) (by first | decide | omega) (by first | decide | omega)
  have z30 : h6 ((h 0 9) + 10) 0 = h ((h 0 8) + 10) 0 := c17 6
  have z31 : h6 ((h 0 9) + 10) 1 = h ((h 0 8) + 10) 1 := c17 7
  have z32 : h6 ((h 0 9) + 10) 2 = h ((h 0 8) + 10) 2 := c17 8
  have z33 : h6 ((h 0 9) + 10) 3 = h ((h 0 8) + 10) 3 := c17 9
  have z34 : h6 ((h 0 9) + 10) 4 = h ((h 0 8) + 10) 4 := c17 10
  have z35 : h6 ((h 0 9) + 10) 5 = h ((h 0 8) + 10) 5 := c17 11
  refine x_aload (np := 12) (x := 0) (by decide +kernel) rfl (x_nc_le (by decide)) ?_
  have q36 : h6 0 3 = 61 := by have z := jB (e := 3) 0 j7 rg_0_3_0_1 (by decide) (by decide); omega
  refine x_getR (np := 15) (x := 643) (f := 3) (q := 61) (by decide +kernel) (by decide) (by decide +kernel) q36 ?_
  refine x_aload (np := 16) (x := 0) (by decide +kernel) rfl (x_nc_le (by decide)) ?_
  have q37 : h6 0 9 = h 0 9 := f8 0 9 (by decide +kernel)
  refine x_getR (np := 19) (x := 649) (f := 9) (q := (h 0 9)) (by decide +kernel) (by decide) (by decide +kernel) q37 ?_
  have m41 := Tp.fr hT f8 (by decide) (by decide)
  refine x_cI (t := 6) (mj := 92) (n := 2) (rc := 10) (ml := 3) (nr := 0) (np := 22) (as := [x_r 61, x_r (h 0 9)]) (rest := []) (lo1 := [x_r 61, x_r (h 0 9), 147573952589676412928]) (by decide +kernel) (by decide) (by decide +kernel) (x_rb_of (by decide +kernel)) rfl rfl (x_wr (by decide) (x_wr (tn_0 t1) x_wn)) x_wn (by decide) rfl (c92_61_T0 j7  t1 m41) (fun v38 h42 l39 q40 => ?_)
  obtain ⟨j43, f44, b45, c46, c47, c48, c49, c50, c51, c52⟩ := q40
  have f53 := Fr.trans f19 f44 (by decide)
  have b54 := jB (e := 7) 0 j43 (rg_T0_7_0_1 t1) (by first | decide | omega) (by first | decide | omega)
  refine x_istore (np := 23) (x := 1) (lo' := [x_r 0, iv_c v38]) (by decide +kernel) l39 (Nat.le_of_ble_eq_true rfl) rfl ?_
  refine x_aload (np := 24) (x := 0) (by decide +kernel) rfl (x_nc_le (by decide)) ?_
  refine x_iload (np := 25) (x := 1) (by decide +kernel) rfl l39 ?_
  refine x_nV (t := 6) (mj := 141) (n := 2) (rc := 11) (ml := 2) (nr := 0) (np := 28) (as := [x_r 0, iv_c v38]) (rest := []) (lo1 := [x_r 0, iv_c v38]) (by decide +kernel) (by decide) (by decide +kernel) (x_rb_of (by decide +kernel)) rfl rfl (x_wr (by decide) (x_wi l39 x_wn)) x_wn (by decide) rfl ?_
  refine x_aload (np := 1) (x := 0) (by decide +kernel) rfl (x_nc_le (by decide)) ?_
  refine x_iload (np := 2) (x := 1) (by decide +kernel) rfl l39 ?_
  refine x_ifz (k := 0) (tg := 9) (np := 5) (by decide +kernel) (by decide) l39 (fun q55 => ?_) (fun q56 => ?_)
  · have q55 : v38 = 2147483648 := q55
    refine x_aload (np := 10) (x := 0) (by decide +kernel) rfl (x_nc_le (by decide)) ?_
    have q57 : h42 0 0 = 1 := by have z := jB (e := 0) 0 j43 rg_0_0_0_1 (by decide) (by decide); omega
    refine x_getR (np := 13) (x := 640) (f := 0) (q := 1) (by decide +kernel) (by decide) (by decide +kernel) q57 ?_
    have b58 := jB (e := 2) 0 j43 rg_1_2_0_1 (by first | decide | omega) (by first | decide | omega)
    refine x_getC (np := 16) (x := 450) (f := 2) (q := (h42 1 2)) (by decide +kernel) (by decide) (by decide +kernel) rfl (fun l59 => ?_)
    refine x_putI (np := 19) (x := 651) (f := 11) (by decide +kernel) (by decide +kernel) l59 (Or.inl (by decide)) ?_
    have j61 := jU (e := 11) (v := (h42 1 2)) 0 j43 rg_0_11_0_1 (by first | decide | omega) (by first | decide | omega) (by first | decide | omega)
    have f63 := jF (e := 11) (v := (h42 1 2)) 0 f53 rg_0_11_0_1 (by first | decide | omega) (by first | decide | omega) (by decide)
    generalize e62 : x_up h42 0 11 (h42 1 2) = h60 at j61 f63 ⊢
    refine x_aload (np := 20) (x := 0) (by decide +kernel) rfl (x_nc_le (by decide)) ?_
    have q64 : h60 0 0 = 1 := by have z := jB (e := 0) 0 j61 rg_0_0_0_1 (by decide) (by decide); omega
    refine x_getR (np := 23) (x := 640) (f := 0) (q := 1) (by decide +kernel) (by decide) (by decide +kernel) q64 ?_
    refine x_const (np := 24) (x := 9223372039002259456) (a := 2147483648) (by decide +kernel) (by decide) (by decide) ?_
    refine x_putI (np := 27) (x := 449) (f := 1) (by decide +kernel) (by decide +kernel) (by decide) (Or.inl (by decide)) ?_
    have j66 := jU (e := 1) (v := 2147483648) 0 j61 rg_1_1_0_1 (by first | decide | omega) (by first | decide | omega) (by first | decide | omega)
    have f68 := jF (e := 1) (v := 2147483648) 0 f63 rg_1_1_0_1 (by first | decide | omega) (by first | decide | omega) (by decide)
    generalize e67 : x_up h60 1 1 2147483648 = h65 at j66 f68 ⊢
    refine x_retV (np := 28) (x := 0) (by decide +kernel) (by decide +kernel) ⟨rfl, ?_⟩
    refine x_iload (np := 29) (x := 1) (by decide +kernel) rfl l39 ?_
    refine x_ifz (k := 1) (tg := 42) (np := 32) (by decide +kernel) (by decide) l39 (fun q69 => ?_) (fun q70 => ?_)
    · have q69 : v38 ≠ 2147483648 := q69
      exfalso; omega
    have q70 : ¬ (v38 ≠ 2147483648) := q70
    have q71 : h65 1 1 = 2147483648 := by rw [← e67]; exact x_up_at
    have e72 : tv h 0 = (h (h 0 8) 7) := (congrArg (fun z => svq h z 0) rfl).trans rfl
    have e73 : tv h 1 = (h (h 0 8) 8) := (congrArg (fun z => svq h z 1) rfl).trans rfl
    have e74 : tv h 2 = (h ((h 0 8) + 1) 2) := (congrArg (fun z => svq h z 2) rfl).trans rfl
    have b75 := jB (e := 2) 0 j43 (rg_T1_2_0_1 t1) (by first | decide | omega) (by first | decide | omega)
    have e76 : tv h 3 = (h ((h 0 8) + 3) 2) := (congrArg (fun z => svq h z 3) rfl).trans rfl
    have b77 := jB (e := 2) 0 j43 (rg_T3_2_0_1 t1) (by first | decide | omega) (by first | decide | omega)
    have e78 : tv h 4 = (h ((h 0 8) + 5) 2) := (congrArg (fun z => svq h z 4) rfl).trans rfl
    have b79 := jB (e := 2) 0 j43 (rg_T5_2_0_1 t1) (by first | decide | omega) (by first | decide | omega)
    have e80 : tv h 5 = (h ((h 0 8) + 7) 2) := (congrArg (fun z => svq h z 5) rfl).trans rfl
    have b81 := jB (e := 2) 0 j43 (rg_T7_2_0_1 t1) (by first | decide | omega) (by first | decide | omega)
    have c82 := Tt.cast (pe' := tv h 0) (l1 := tv h 2) (t1 := tv h 3) (d1 := tv h 4) (s1 := tv h 5) c48 (by first | decide | omega) (by first | decide | omega) (by first | decide | omega) (by first | decide | omega) (by first | decide | omega)
    have q83 : h65 0 8 = h60 0 8 := by rw [← e67]; exact x_up_k (by decide)
    have q84 : h60 0 8 = h42 0 8 := by rw [← e62]; exact x_up_i (by first | decide | omega)
    have q85 : h42 0 8 = h6 0 8 := f44 0 8 (by decide +kernel)
    have q86 : h6 0 8 = h 0 8 := f8 0 8 (by decide +kernel)
    have q87 : h65 0 9 = h60 0 9 := by rw [← e67]; exact x_up_k (by decide)
    have q88 : h60 0 9 = h42 0 9 := by rw [← e62]; exact x_up_i (by first | decide | omega)
    have q89 : h42 0 9 = h6 0 9 := f44 0 9 (by decide +kernel)
    have q90 : h6 0 9 = h 0 9 := f8 0 9 (by decide +kernel)
    have m91 : Ot (h 0 9) h h6 := Ot.trans Ot.refl (c18)
    have m92 : Ot (h 0 9) h h42 := Ot.trans m91 (c49)
    have m93 : Ot (h 0 9) h h60 := by rw [← e62]; exact Ot.oth m92 (by decide)
    have m94 : Ot (h 0 9) h h65 := by rw [← e67]; exact Ot.oth m93 (by decide)
    have m95 : ∀ i, tv h65 i = tv h i := fun i => (congrArg (fun z => svq h65 z i) (((q83.trans q84).trans q85).trans q86)).trans (m94 _ t2 hp0 i)
    have m96 : ∀ b, b < 6 → h60 46 b = h 46 b := fun b hb => by rw [← e62, x_up_k (by decide)]; exact (al_gr (al_gr (fun _ _ => rfl) f8 (by decide)) f44 (by decide)) b hb
    have m97 : ∀ b, b < 6 → h65 46 b = h 46 b := fun b hb => by rw [← e67, x_up_k (by decide)]; exact m96 b hb
    refine x_thr (np := 35) (x := 0) (by decide +kernel) (by decide +kernel) (Nat.le_trans x_wn (by decide)) (Or.inr ⟨_, rfl, ?_⟩)
    exact ⟨j66, f68, by decide, (by first | decide | omega), (Or.inl ⟨rfl, Tt.none4 c82 (by first | decide | omega)⟩), m95, (((q83.trans q84).trans q85).trans q86), (((q87.trans q88).trans q89).trans q90), m97⟩
  have q56 : ¬ (v38 = 2147483648) := q56
  refine x_const (np := 6) (x := 9223372034707292159) (a := 2147483647) (by decide +kernel) (by decide) (by decide) ?_
  refine x_goto (np := 9) (x := 16) (by decide +kernel) ?_
  refine x_putI (np := 19) (x := 651) (f := 11) (by decide +kernel) (by decide +kernel) (by decide) (Or.inl (by decide)) ?_
  have j99 := jU (e := 11) (v := 2147483647) 0 j43 rg_0_11_0_1 (by first | decide | omega) (by first | decide | omega) (by first | decide | omega)
  have f101 := jF (e := 11) (v := 2147483647) 0 f53 rg_0_11_0_1 (by first | decide | omega) (by first | decide | omega) (by decide)
  generalize e100 : x_up h42 0 11 2147483647 = h98 at j99 f101 ⊢
  refine x_aload (np := 20) (x := 0) (by decide +kernel) rfl (x_nc_le (by decide)) ?_
  have q102 : h98 0 0 = 1 := by have z := jB (e := 0) 0 j99 rg_0_0_0_1 (by decide) (by decide); omega
  refine x_getR (np := 23) (x := 640) (f := 0) (q := 1) (by decide +kernel) (by decide) (by decide +kernel) q102 ?_
  refine x_const (np := 24) (x := 9223372039002259456) (a := 2147483648) (by decide +kernel) (by decide) (by decide) ?_
  refine x_putI (np := 27) (x := 449) (f := 1) (by decide +kernel) (by decide +kernel) (by decide) (Or.inl (by decide)) ?_
  have j104 := jU (e := 1) (v := 2147483648) 0 j99 rg_1_1_0_1 (by first | decide | omega) (by first | decide | omega) (by first | decide | omega)
  have f106 := jF (e := 1) (v := 2147483648) 0 f101 rg_1_1_0_1 (by first | decide | omega) (by first | decide | omega) (by decide)
  generalize e105 : x_up h98 1 1 2147483648 = h103 at j104 f106 ⊢
  refine x_retV (np := 28) (x := 0) (by decide +kernel) (by decide +kernel) ⟨rfl, ?_⟩
  refine x_iload (np := 29) (x := 1) (by decide +kernel) rfl l39 ?_
  refine x_ifz (k := 1) (tg := 42) (np := 32) (by decide +kernel) (by decide) l39 (fun q107 => ?_) (fun q108 => ?_)
  · have q107 : v38 ≠ 2147483648 := q107
    have m109 : Ot (h 0 9) h h6 := Ot.trans Ot.refl (c18)
    have m110 : Ot (h 0 9) h h42 := Ot.trans m109 (c49)
    have z111 : h42 (h 0 8) 8 = h (h 0 8) 8 := m110 _ t2 hp0 1
    have e112 : tv h 1 = (h (h 0 8) 8) := (congrArg (fun z => svq h z 1) rfl).trans rfl
    refine x_aload (np := 43) (x := 0) (by decide +kernel) rfl (x_nc_le (by decide)) ?_
    have q113 : h103 0 8 = h98 0 8 := by rw [← e105]; exact x_up_k (by decide)
    have q114 : h98 0 8 = h42 0 8 := by rw [← e100]; exact x_up_i (by first | decide | omega)
    have q115 : h42 0 8 = h6 0 8 := f44 0 8 (by decide +kernel)
    have q116 : h6 0 8 = h 0 8 := f8 0 8 (by decide +kernel)
    refine x_getR (np := 46) (x := 648) (f := 8) (q := (h 0 8)) (by decide +kernel) (by decide) (by decide +kernel) (((q113.trans q114).trans q115).trans q116) ?_
    have q117 : h103 (h 0 8) 8 = h98 (h 0 8) 8 := by rw [← e105]; exact x_up_k (tne_0_1 t2)
    have q118 : h98 (h 0 8) 8 = h42 (h 0 8) 8 := by rw [← e100]; exact x_up_k (tne_0_0 t2)
    refine x_getC (np := 49) (x := 520) (f := 8) (q := (h42 (h 0 8) 8)) (by decide +kernel) (by decide) (tg_0_520_8_0 t2) (q117.trans q118) (fun l119 => ?_)
    refine x_const (np := 51) (x := 9223372081951932426) (a := 2147483658) (by decide +kernel) (by decide) (by decide) ?_
    refine x_icmp (k := 2) (tg := 64) (np := 54) (by decide +kernel) (by decide) l119 (by decide) (fun q120 => ?_) (fun q121 => ?_)
    · have q120 : (h42 (h 0 8) 8) < 2147483658 := q120
      refine x_aload (np := 65) (x := 0) (by decide +kernel) rfl (x_nc_le (by decide)) ?_
      have q122 : h103 0 9 = h98 0 9 := by rw [← e105]; exact x_up_k (by decide)
      have q123 : h98 0 9 = h42 0 9 := by rw [← e100]; exact x_up_i (by first | decide | omega)
      have q124 : h42 0 9 = h6 0 9 := f44 0 9 (by decide +kernel)
      have q125 : h6 0 9 = h 0 9 := f8 0 9 (by decide +kernel)
      refine x_getR (np := 68) (x := 649) (f := 9) (q := (h 0 9)) (by decide +kernel) (by decide) (by decide +kernel) (((q122.trans q123).trans q124).trans q125) ?_
      refine x_dup (np := 69) (x := 0) (by decide +kernel) (by have z := x_nc_le (k := (h 0 9)) (tn_0 t1); unfold x_r; omega) ?_
      have q126 : h103 (h 0 9) 8 = h98 (h 0 9) 8 := by rw [← e105]; exact x_up_k (tne_0_1 t1)
      have q127 : h98 (h 0 9) 8 = h42 (h 0 9) 8 := by rw [← e100]; exact x_up_k (tne_0_0 t1)
      refine x_getC (np := 72) (x := 520) (f := 8) (q := (h42 (h 0 9) 8)) (by decide +kernel) (by decide) (tg_0_520_8_0 t1) (q126.trans q127) (fun l128 => ?_)
      refine x_const (np := 73) (x := 9223372043297226753) (a := 2147483649) (by decide +kernel) (by decide) (by decide) ?_
      refine x_iadd (np := 74) (x := 0) (v := (1 + (h42 (h 0 9) 8))) (by decide +kernel) l128 (by decide) (by first | decide | omega) (by first | decide | omega) ?_
      refine x_putI (np := 77) (x := 520) (f := 8) (by decide +kernel) (tg_0_520_8_0 t1) (by first | decide | omega) (Or.inl (by decide)) ?_
      have j130 := jU (e := 8) (v := (1 + (h42 (h 0 9) 8))) 0 j104 (rg_T0_8_0_1 t1) (by first | decide | omega) (by first | decide | omega) (by first | decide | omega)
      have f132 := jF (e := 8) (v := (1 + (h42 (h 0 9) 8))) 0 f106 (rg_T0_8_0_1 t1) (by first | decide | omega) (by first | decide | omega) (by decide)
      generalize e131 : x_up h103 (h 0 9) 8 (1 + (h42 (h 0 9) 8)) = h129 at j130 f132 ⊢
      refine x_aload (np := 78) (x := 0) (by decide +kernel) rfl (x_nc_le (by decide)) ?_
      refine x_nV (t := 6) (mj := 142) (n := 1) (rc := 11) (ml := 2) (nr := 0) (np := 81) (as := [x_r 0]) (rest := []) (lo1 := [x_r 0, 147573952589676412928]) (by decide +kernel) (by decide) (by decide +kernel) (x_rb_of (by decide +kernel)) rfl rfl (x_wr (by decide) x_wn) x_wn (by decide) rfl ?_
      refine x_aload (np := 1) (x := 0) (by decide +kernel) rfl (x_nc_le (by decide)) ?_
      have q133 : h129 0 8 = h103 0 8 := by rw [← e131]; exact x_up_k (Ne.symm (tne_0_0 t1))
      have q134 : h103 0 8 = h98 0 8 := by rw [← e105]; exact x_up_k (by decide)
      have q135 : h98 0 8 = h42 0 8 := by rw [← e100]; exact x_up_i (by first | decide | omega)
      have q136 : h42 0 8 = h6 0 8 := f44 0 8 (by decide +kernel)
      have q137 : h6 0 8 = h 0 8 := f8 0 8 (by decide +kernel)
      refine x_getR (np := 4) (x := 648) (f := 8) (q := (h 0 8)) (by decide +kernel) (by decide) (by decide +kernel) ((((q133.trans q134).trans q135).trans q136).trans q137) ?_
      refine x_astore (np := 5) (x := 1) (lo' := [x_r 0, x_r (h 0 8)]) (by decide +kernel) (x_nc_le (tn_0 t2)) (Nat.le_of_ble_eq_true rfl) rfl ?_
      refine x_aload (np := 6) (x := 0) (by decide +kernel) rfl (x_nc_le (by decide)) ?_
      refine x_aload (np := 7) (x := 0) (by decide +kernel) rfl (x_nc_le (by decide)) ?_
      have q138 : h129 0 9 = h103 0 9 := by rw [← e131]; exact x_up_k (Ne.symm (tne_0_0 t1))
      have q139 : h103 0 9 = h98 0 9 := by rw [← e105]; exact x_up_k (by decide)
      have q140 : h98 0 9 = h42 0 9 := by rw [← e100]; exact x_up_i (by first | decide | omega)
      have q141 : h42 0 9 = h6 0 9 := f44 0 9 (by decide +kernel)
      have q142 : h6 0 9 = h 0 9 := f8 0 9 (by decide +kernel)
      refine x_getR (np := 10) (x := 649) (f := 9) (q := (h 0 9)) (by decide +kernel) (by decide) (by decide +kernel) ((((q138.trans q139).trans q140).trans q141).trans q142) ?_
      refine x_putR (np := 13) (x := 8840) (f := 8) (by decide +kernel) (by decide +kernel) (tn_0 t1) (by decide) ?_
      have j144 := J_upW (k := 0) (i := 8) j130 t1 (by decide)
      have f146 := Fr.up (k := 0) (i := 8) (v := (h 0 9)) f132 (by decide +kernel)
      generalize e145 : x_up h129 0 8 (h 0 9) = h143 at j144 f146 ⊢
      refine x_aload (np := 14) (x := 0) (by decide +kernel) rfl (x_nc_le (by decide)) ?_
      refine x_aload (np := 15) (x := 1) (by decide +kernel) rfl (x_nc_le (tn_0 t2)) ?_
      refine x_putR (np := 18) (x := 8841) (f := 9) (by decide +kernel) (by decide +kernel) (tn_0 t2) (by decide) ?_
      have j148 := J_upW (k := 0) (i := 9) j144 t2 (by decide)
      have f150 := Fr.up (k := 0) (i := 9) (v := (h 0 8)) f146 (by decide +kernel)
      generalize e149 : x_up h143 0 9 (h 0 8) = h147 at j148 f150 ⊢
      refine x_retV (np := 19) (x := 0) (by decide +kernel) (by decide +kernel) ⟨rfl, ?_⟩
      refine x_aload (np := 82) (x := 0) (by decide +kernel) rfl (x_nc_le (by decide)) ?_
      refine x_nV (t := 6) (mj := 143) (n := 1) (rc := 11) (ml := 1) (nr := 0) (np := 85) (as := [x_r 0]) (rest := []) (lo1 := [x_r 0]) (by decide +kernel) (by decide) (by decide +kernel) (x_rb_of (by decide +kernel)) rfl rfl (x_wr (by decide) x_wn) x_wn (by decide) rfl ?_
      refine x_aload (np := 1) (x := 0) (by decide +kernel) rfl (x_nc_le (by decide)) ?_
      have q151 : h147 0 1 = 45 := by have z := jB (e := 1) 0 j148 rg_0_1_0_1 (by decide) (by decide); omega
      refine x_getR (np := 4) (x := 641) (f := 1) (q := 45) (by decide +kernel) (by decide) (by decide +kernel) q151 ?_
      refine x_aload (np := 5) (x := 0) (by decide +kernel) rfl (x_nc_le (by decide)) ?_
      have q152 : h147 0 8 = h143 0 8 := by rw [← e149]; exact x_up_i (by first | decide | omega)
      have q153 : h143 0 8 = (h 0 9) := by rw [← e145]; exact x_up_at
      refine x_getR (np := 8) (x := 648) (f := 8) (q := (h 0 9)) (by decide +kernel) (by decide) (by decide +kernel) (q152.trans q153) ?_
      refine x_cV (t := 6) (mj := 4) (n := 2) (rc := 2) (ml := 3) (nr := 0) (np := 11) (as := [x_r 45, x_r (h 0 9)]) (rest := []) (lo1 := [x_r 45, x_r (h 0 9), 147573952589676412928]) (by decide +kernel) (by decide) (by decide +kernel) (x_rb_of (by decide +kernel)) rfl rfl (x_wr (by decide) (x_wr (tn_0 t1) x_wn)) x_wn (by decide) rfl (c4_45_T0 j148  t1) (fun h157 q156 => ?_)
      obtain ⟨j158, f159, c162⟩ := q156
      have f163 := Fr.trans f150 f159 (by decide)
      refine x_aload (np := 12) (x := 0) (by decide +kernel) rfl (x_nc_le (by decide)) ?_
      have q164 : h157 0 5 = 63 := by have z := jB (e := 5) 0 j158 rg_0_5_0_1 (by decide) (by decide); omega
      refine x_getR (np := 15) (x := 645) (f := 5) (q := 63) (by decide +kernel) (by decide) (by decide +kernel) q164 ?_
      refine x_nV (t := 8) (mj := 270) (n := 1) (rc := 5) (ml := 1) (nr := 0) (np := 18) (as := [x_r 63]) (rest := []) (lo1 := [x_r 63]) (by decide +kernel) (by decide) (by decide +kernel) (x_rb_of (by decide +kernel)) rfl rfl (x_wr (by decide) x_wn) x_wn (by decide) rfl ?_
      refine x_aload (np := 1) (x := 0) (by decide +kernel) rfl (x_nc_le (by decide)) ?_
      refine x_const (np := 2) (x := 9223372039002259456) (a := 2147483648) (by decide +kernel) (by decide) (by decide) ?_
      refine x_putI (np := 5) (x := 4878) (f := 14) (by decide +kernel) (by decide +kernel) (by decide) (Or.inr ⟨by decide, by first | decide | omega, by first | decide | omega⟩) ?_
      have j166 := jU (e := 14) (v := 2147483648) 0 j158 rg_63_14_0_1 (by first | decide | omega) (by first | decide | omega) (by first | decide | omega)
      have f168 := jF (e := 14) (v := 2147483648) 0 f163 rg_63_14_0_1 (by first | decide | omega) (by first | decide | omega) (by decide)
      generalize e167 : x_up h157 63 14 2147483648 = h165 at j166 f168 ⊢
      refine x_retV (np := 6) (x := 0) (by decide +kernel) (by decide +kernel) ⟨rfl, ?_⟩
      refine x_aload (np := 19) (x := 0) (by decide +kernel) rfl (x_nc_le (by decide)) ?_
      have q169 : h165 0 6 = 69 := by have z := jB (e := 6) 0 j166 rg_0_6_0_1 (by decide) (by decide); omega
      refine x_getR (np := 22) (x := 646) (f := 6) (q := 69) (by decide +kernel) (by decide) (by decide +kernel) q169 ?_
      refine x_nV (t := 8) (mj := 270) (n := 1) (rc := 6) (ml := 1) (nr := 0) (np := 25) (as := [x_r 69]) (rest := []) (lo1 := [x_r 69]) (by decide +kernel) (by decide) (by decide +kernel) (x_rb_of (by decide +kernel)) rfl rfl (x_wr (by decide) x_wn) x_wn (by decide) rfl ?_
      refine x_aload (np := 1) (x := 0) (by decide +kernel) rfl (x_nc_le (by decide)) ?_
      refine x_const (np := 2) (x := 9223372039002259456) (a := 2147483648) (by decide +kernel) (by decide) (by decide) ?_
      refine x_putI (np := 5) (x := 4878) (f := 14) (by decide +kernel) (by decide +kernel) (by decide) (Or.inr ⟨by decide, by first | decide | omega, by first | decide | omega⟩) ?_
      have j171 := jU (e := 14) (v := 2147483648) 0 j166 rg_69_14_0_1 (by first | decide | omega) (by first | decide | omega) (by first | decide | omega)
      have f173 := jF (e := 14) (v := 2147483648) 0 f168 rg_69_14_0_1 (by first | decide | omega) (by first | decide | omega) (by decide)
      generalize e172 : x_up h165 69 14 2147483648 = h170 at j171 f173 ⊢
      refine x_retV (np := 6) (x := 0) (by decide +kernel) (by decide +kernel) ⟨rfl, ?_⟩
      refine x_retV (np := 26) (x := 0) (by decide +kernel) (by decide +kernel) ⟨rfl, ?_⟩
      refine x_aload (np := 86) (x := 0) (by decide +kernel) rfl (x_nc_le (by decide)) ?_
      have q174 : h170 0 8 = h165 0 8 := by rw [← e172]; exact x_up_k (by decide)
      have q175 : h165 0 8 = h157 0 8 := by rw [← e167]; exact x_up_k (by decide)
      have q176 : h157 0 8 = h147 0 8 := f159 0 8 (by decide +kernel)
      have q177 : h147 0 8 = h143 0 8 := by rw [← e149]; exact x_up_i (by first | decide | omega)
      have q178 : h143 0 8 = (h 0 9) := by rw [← e145]; exact x_up_at
      refine x_getR (np := 89) (x := 648) (f := 8) (q := (h 0 9)) (by decide +kernel) (by decide) (by decide +kernel) ((((q174.trans q175).trans q176).trans q177).trans q178) ?_
      have q179 : h170 (h 0 9) 8 = h165 (h 0 9) 8 := by rw [← e172]; exact x_up_k (tne_0_69 t1)
      have q180 : h165 (h 0 9) 8 = h157 (h 0 9) 8 := by rw [← e167]; exact x_up_k (tne_0_63 t1)
      have q181 : h157 (h 0 9) 8 = h147 (h 0 9) 8 := jK 0 f159 (rg_T0_8_0_1 t1) (by first | decide | omega) (by first | decide | omega) (by decide)
      have q182 : h147 (h 0 9) 8 = h143 (h 0 9) 8 := by rw [← e149]; exact x_up_k (tne_0_0 t1)
      have q183 : h143 (h 0 9) 8 = h129 (h 0 9) 8 := by rw [← e145]; exact x_up_k (tne_0_0 t1)
      have q184 : h129 (h 0 9) 8 = (1 + (h42 (h 0 9) 8)) := by rw [← e131]; exact x_up_at
      refine x_getC (np := 92) (x := 520) (f := 8) (q := (1 + (h42 (h 0 9) 8))) (by decide +kernel) (by decide) (tg_0_520_8_0 t1) (((((q179.trans q180).trans q181).trans q182).trans q183).trans q184) (fun l185 => ?_)
      have q186 : h170 1 1 = h165 1 1 := by rw [← e172]; exact x_up_k (by decide)
      have q187 : h165 1 1 = h157 1 1 := by rw [← e167]; exact x_up_k (by decide)
      have q188 : h157 1 1 = h147 1 1 := jK 0 f159 rg_1_1_0_1 (by first | decide | omega) (by first | decide | omega) (by decide)
      have q189 : h147 1 1 = h143 1 1 := by rw [← e149]; exact x_up_k (by decide)
      have q190 : h143 1 1 = h129 1 1 := by rw [← e145]; exact x_up_k (by decide)
      have q191 : h129 1 1 = h103 1 1 := by rw [← e131]; exact x_up_k (Ne.symm (tne_0_1 t1))
      have q192 : h103 1 1 = 2147483648 := by rw [← e105]; exact x_up_at
      have e193 : tv h 0 = (h (h 0 8) 7) := (congrArg (fun z => svq h z 0) rfl).trans rfl
      have e194 : tv h 2 = (h ((h 0 8) + 1) 2) := (congrArg (fun z => svq h z 2) rfl).trans rfl
      have b195 := jB (e := 2) 0 j43 (rg_T1_2_0_1 t1) (by first | decide | omega) (by first | decide | omega)
      have e196 : tv h 3 = (h ((h 0 8) + 3) 2) := (congrArg (fun z => svq h z 3) rfl).trans rfl
      have b197 := jB (e := 2) 0 j43 (rg_T3_2_0_1 t1) (by first | decide | omega) (by first | decide | omega)
      have e198 : tv h 4 = (h ((h 0 8) + 5) 2) := (congrArg (fun z => svq h z 4) rfl).trans rfl
      have b199 := jB (e := 2) 0 j43 (rg_T5_2_0_1 t1) (by first | decide | omega) (by first | decide | omega)
      have e200 : tv h 5 = (h ((h 0 8) + 7) 2) := (congrArg (fun z => svq h z 5) rfl).trans rfl
      have b201 := jB (e := 2) 0 j43 (rg_T7_2_0_1 t1) (by first | decide | omega) (by first | decide | omega)
      have c202 := Tt.cast (pe' := tv h 0) (l1 := tv h 2) (t1 := tv h 3) (d1 := tv h 4) (s1 := tv h 5) c48 (by first | decide | omega) (by first | decide | omega) (by first | decide | omega) (by first | decide | omega) (by first | decide | omega)
      have q203 : h170 0 8 = h165 0 8 := by rw [← e172]; exact x_up_k (by decide)
      have q204 : h165 0 8 = h157 0 8 := by rw [← e167]; exact x_up_k (by decide)
      have q205 : h157 0 8 = h147 0 8 := f159 0 8 (by decide +kernel)
      have q206 : h147 0 8 = h143 0 8 := by rw [← e149]; exact x_up_i (by first | decide | omega)
      have q207 : h143 0 8 = (h 0 9) := by rw [← e145]; exact x_up_at
      have q208 : h170 (h 0 9) 7 = h165 (h 0 9) 7 := by rw [← e172]; exact x_up_k (tne_0_69 t1)
      have q209 : h165 (h 0 9) 7 = h157 (h 0 9) 7 := by rw [← e167]; exact x_up_k (tne_0_63 t1)
      have q210 : h157 (h 0 9) 7 = h147 (h 0 9) 7 := jK 0 f159 (rg_T0_7_0_1 t1) (by first | decide | omega) (by first | decide | omega) (by decide)
      have q211 : h147 (h 0 9) 7 = h143 (h 0 9) 7 := by rw [← e149]; exact x_up_k (tne_0_0 t1)
      have q212 : h143 (h 0 9) 7 = h129 (h 0 9) 7 := by rw [← e145]; exact x_up_k (tne_0_0 t1)
      have q213 : h129 (h 0 9) 7 = h103 (h 0 9) 7 := by rw [← e131]; exact x_up_i (by first | decide | omega)
      have q214 : h103 (h 0 9) 7 = h98 (h 0 9) 7 := by rw [← e105]; exact x_up_k (tne_0_1 t1)
      have q215 : h98 (h 0 9) 7 = h42 (h 0 9) 7 := by rw [← e100]; exact x_up_k (tne_0_0 t1)
      have e216 : tv h170 0 = (h42 (h 0 9) 7) := (congrArg (fun z => svq h170 z 0) ((((q203.trans q204).trans q205).trans q206).trans q207)).trans (((((((q208.trans q209).trans q210).trans q211).trans q212).trans q213).trans q214).trans q215)
      have q217 : h170 0 8 = h165 0 8 := by rw [← e172]; exact x_up_k (by decide)
      have q218 : h165 0 8 = h157 0 8 := by rw [← e167]; exact x_up_k (by decide)
      have q219 : h157 0 8 = h147 0 8 := f159 0 8 (by decide +kernel)
      have q220 : h147 0 8 = h143 0 8 := by rw [← e149]; exact x_up_i (by first | decide | omega)
      have q221 : h143 0 8 = (h 0 9) := by rw [← e145]; exact x_up_at
      have q222 : h170 (h 0 9) 8 = h165 (h 0 9) 8 := by rw [← e172]; exact x_up_k (tne_0_69 t1)
      have q223 : h165 (h 0 9) 8 = h157 (h 0 9) 8 := by rw [← e167]; exact x_up_k (tne_0_63 t1)
      have q224 : h157 (h 0 9) 8 = h147 (h 0 9) 8 := jK 0 f159 (rg_T0_8_0_1 t1) (by first | decide | omega) (by first | decide | omega) (by decide)
      have q225 : h147 (h 0 9) 8 = h143 (h 0 9) 8 := by rw [← e149]; exact x_up_k (tne_0_0 t1)
      have q226 : h143 (h 0 9) 8 = h129 (h 0 9) 8 := by rw [← e145]; exact x_up_k (tne_0_0 t1)
      have q227 : h129 (h 0 9) 8 = (1 + (h42 (h 0 9) 8)) := by rw [← e131]; exact x_up_at
      have e228 : tv h170 1 = (1 + (h42 (h 0 9) 8)) := (congrArg (fun z => svq h170 z 1) ((((q217.trans q218).trans q219).trans q220).trans q221)).trans (((((q222.trans q223).trans q224).trans q225).trans q226).trans q227)
      have q229 : h170 0 8 = h165 0 8 := by rw [← e172]; exact x_up_k (by decide)
      have q230 : h165 0 8 = h157 0 8 := by rw [← e167]; exact x_up_k (by decide)
      have q231 : h157 0 8 = h147 0 8 := f159 0 8 (by decide +kernel)
      have q232 : h147 0 8 = h143 0 8 := by rw [← e149]; exact x_up_i (by first | decide | omega)
      have q233 : h143 0 8 = (h 0 9) := by rw [← e145]; exact x_up_at
      have q234 : h170 ((h 0 9) + 1) 2 = h165 ((h 0 9) + 1) 2 := by rw [← e172]; exact x_up_k (tne_1_69 t1)
      have q235 : h165 ((h 0 9) + 1) 2 = h157 ((h 0 9) + 1) 2 := by rw [← e167]; exact x_up_k (tne_1_63 t1)
      have q236 : h157 ((h 0 9) + 1) 2 = h147 ((h 0 9) + 1) 2 := jK 0 f159 (rg_T1_2_0_1 t1) (by first | decide | omega) (by first | decide | omega) (by decide)
      have q237 : h147 ((h 0 9) + 1) 2 = h143 ((h 0 9) + 1) 2 := by rw [← e149]; exact x_up_k (tne_1_0 t1)
      have q238 : h143 ((h 0 9) + 1) 2 = h129 ((h 0 9) + 1) 2 := by rw [← e145]; exact x_up_k (tne_1_0 t1)
      have q239 : h129 ((h 0 9) + 1) 2 = h103 ((h 0 9) + 1) 2 := by rw [← e131]; exact x_up_k tof_1_0
      have q240 : h103 ((h 0 9) + 1) 2 = h98 ((h 0 9) + 1) 2 := by rw [← e105]; exact x_up_k (tne_1_1 t1)
      have q241 : h98 ((h 0 9) + 1) 2 = h42 ((h 0 9) + 1) 2 := by rw [← e100]; exact x_up_k (tne_1_0 t1)
      have e242 : tv h170 2 = (h42 ((h 0 9) + 1) 2) := (congrArg (fun z => svq h170 z 2) ((((q229.trans q230).trans q231).trans q232).trans q233)).trans (((((((q234.trans q235).trans q236).trans q237).trans q238).trans q239).trans q240).trans q241)
      have q243 : h170 0 8 = h165 0 8 := by rw [← e172]; exact x_up_k (by decide)
      have q244 : h165 0 8 = h157 0 8 := by rw [← e167]; exact x_up_k (by decide)
      have q245 : h157 0 8 = h147 0 8 := f159 0 8 (by decide +kernel)
      have q246 : h147 0 8 = h143 0 8 := by rw [← e149]; exact x_up_i (by first | decide | omega)
      have q247 : h143 0 8 = (h 0 9) := by rw [← e145]; exact x_up_at
      have q248 : h170 ((h 0 9) + 3) 2 = h165 ((h 0 9) + 3) 2 := by rw [← e172]; exact x_up_k (tne_3_69 t1)
      have q249 : h165 ((h 0 9) + 3) 2 = h157 ((h 0 9) + 3) 2 := by rw [← e167]; exact x_up_k (tne_3_63 t1)
      have q250 : h157 ((h 0 9) + 3) 2 = h147 ((h 0 9) + 3) 2 := jK 0 f159 (rg_T3_2_0_1 t1) (by first | decide | omega) (by first | decide | omega) (by decide)
      have q251 : h147 ((h 0 9) + 3) 2 = h143 ((h 0 9) + 3) 2 := by rw [← e149]; exact x_up_k (tne_3_0 t1)
      have q252 : h143 ((h 0 9) + 3) 2 = h129 ((h 0 9) + 3) 2 := by rw [← e145]; exact x_up_k (tne_3_0 t1)
      have q253 : h129 ((h 0 9) + 3) 2 = h103 ((h 0 9) + 3) 2 := by rw [← e131]; exact x_up_k tof_3_0
      have q254 : h103 ((h 0 9) + 3) 2 = h98 ((h 0 9) + 3) 2 := by rw [← e105]; exact x_up_k (tne_3_1 t1)
      have q255 : h98 ((h 0 9) + 3) 2 = h42 ((h 0 9) + 3) 2 := by rw [← e100]; exact x_up_k (tne_3_0 t1)
      have e256 : tv h170 3 = (h42 ((h 0 9) + 3) 2) := (congrArg (fun z => svq h170 z 3) ((((q243.trans q244).trans q245).trans q246).trans q247)).trans (((((((q248.trans q249).trans q250).trans q251).trans q252).trans q253).trans q254).trans q255)
      have q257 : h170 0 8 = h165 0 8 := by rw [← e172]; exact x_up_k (by decide)
      have q258 : h165 0 8 = h157 0 8 := by rw [← e167]; exact x_up_k (by decide)
      have q259 : h157 0 8 = h147 0 8 := f159 0 8 (by decide +kernel)
      have q260 : h147 0 8 = h143 0 8 := by rw [← e149]; exact x_up_i (by first | decide | omega)
      have q261 : h143 0 8 = (h 0 9) := by rw [← e145]; exact x_up_at
      have q262 : h170 ((h 0 9) + 5) 2 = h165 ((h 0 9) + 5) 2 := by rw [← e172]; exact x_up_k (tne_5_69 t1)
      have q263 : h165 ((h 0 9) + 5) 2 = h157 ((h 0 9) + 5) 2 := by rw [← e167]; exact x_up_k (tne_5_63 t1)
      have q264 : h157 ((h 0 9) + 5) 2 = h147 ((h 0 9) + 5) 2 := jK 0 f159 (rg_T5_2_0_1 t1) (by first | decide | omega) (by first | decide | omega) (by decide)
      have q265 : h147 ((h 0 9) + 5) 2 = h143 ((h 0 9) + 5) 2 := by rw [← e149]; exact x_up_k (tne_5_0 t1)
      have q266 : h143 ((h 0 9) + 5) 2 = h129 ((h 0 9) + 5) 2 := by rw [← e145]; exact x_up_k (tne_5_0 t1)
      have q267 : h129 ((h 0 9) + 5) 2 = h103 ((h 0 9) + 5) 2 := by rw [← e131]; exact x_up_k tof_5_0
      have q268 : h103 ((h 0 9) + 5) 2 = h98 ((h 0 9) + 5) 2 := by rw [← e105]; exact x_up_k (tne_5_1 t1)
      have q269 : h98 ((h 0 9) + 5) 2 = h42 ((h 0 9) + 5) 2 := by rw [← e100]; exact x_up_k (tne_5_0 t1)
      have e270 : tv h170 4 = (h42 ((h 0 9) + 5) 2) := (congrArg (fun z => svq h170 z 4) ((((q257.trans q258).trans q259).trans q260).trans q261)).trans (((((((q262.trans q263).trans q264).trans q265).trans q266).trans q267).trans q268).trans q269)
      have q271 : h170 0 8 = h165 0 8 := by rw [← e172]; exact x_up_k (by decide)
      have q272 : h165 0 8 = h157 0 8 := by rw [← e167]; exact x_up_k (by decide)
      have q273 : h157 0 8 = h147 0 8 := f159 0 8 (by decide +kernel)
      have q274 : h147 0 8 = h143 0 8 := by rw [← e149]; exact x_up_i (by first | decide | omega)
      have q275 : h143 0 8 = (h 0 9) := by rw [← e145]; exact x_up_at
      have q276 : h170 ((h 0 9) + 7) 2 = h165 ((h 0 9) + 7) 2 := by rw [← e172]; exact x_up_k (tne_7_69 t1)
      have q277 : h165 ((h 0 9) + 7) 2 = h157 ((h 0 9) + 7) 2 := by rw [← e167]; exact x_up_k (tne_7_63 t1)
      have q278 : h157 ((h 0 9) + 7) 2 = h147 ((h 0 9) + 7) 2 := jK 0 f159 (rg_T7_2_0_1 t1) (by first | decide | omega) (by first | decide | omega) (by decide)
      have q279 : h147 ((h 0 9) + 7) 2 = h143 ((h 0 9) + 7) 2 := by rw [← e149]; exact x_up_k (tne_7_0 t1)
      have q280 : h143 ((h 0 9) + 7) 2 = h129 ((h 0 9) + 7) 2 := by rw [← e145]; exact x_up_k (tne_7_0 t1)
      have q281 : h129 ((h 0 9) + 7) 2 = h103 ((h 0 9) + 7) 2 := by rw [← e131]; exact x_up_k tof_7_0
      have q282 : h103 ((h 0 9) + 7) 2 = h98 ((h 0 9) + 7) 2 := by rw [← e105]; exact x_up_k (tne_7_1 t1)
      have q283 : h98 ((h 0 9) + 7) 2 = h42 ((h 0 9) + 7) 2 := by rw [← e100]; exact x_up_k (tne_7_0 t1)
      have e284 : tv h170 5 = (h42 ((h 0 9) + 7) 2) := (congrArg (fun z => svq h170 z 5) ((((q271.trans q272).trans q273).trans q274).trans q275)).trans (((((((q276.trans q277).trans q278).trans q279).trans q280).trans q281).trans q282).trans q283)
      have q285 : h170 0 8 = h165 0 8 := by rw [← e172]; exact x_up_k (by decide)
      have q286 : h165 0 8 = h157 0 8 := by rw [← e167]; exact x_up_k (by decide)
      have q287 : h157 0 8 = h147 0 8 := f159 0 8 (by decide +kernel)
      have q288 : h147 0 8 = h143 0 8 := by rw [← e149]; exact x_up_i (by first | decide | omega)
      have q289 : h143 0 8 = (h 0 9) := by rw [← e145]; exact x_up_at
      have q290 : h170 0 9 = h165 0 9 := by rw [← e172]; exact x_up_k (by decide)
      have q291 : h165 0 9 = h157 0 9 := by rw [← e167]; exact x_up_k (by decide)
      have q292 : h157 0 9 = h147 0 9 := f159 0 9 (by decide +kernel)
      have q293 : h147 0 9 = (h 0 8) := by rw [← e149]; exact x_up_at
      have q294 : h170 0 8 = h165 0 8 := by rw [← e172]; exact x_up_k (by decide)
      have q295 : h165 0 8 = h157 0 8 := by rw [← e167]; exact x_up_k (by decide)
      have q296 : h157 0 8 = h147 0 8 := f159 0 8 (by decide +kernel)
      have q297 : h147 0 8 = h143 0 8 := by rw [← e149]; exact x_up_i (by first | decide | omega)
      have q298 : h143 0 8 = (h 0 9) := by rw [← e145]; exact x_up_at
      have q299 : h170 ((h 0 9) + 10) 0 = h165 ((h 0 9) + 10) 0 := by rw [← e172]; exact x_up_k (tne_10_69 t1)
      have q300 : h165 ((h 0 9) + 10) 0 = h157 ((h 0 9) + 10) 0 := by rw [← e167]; exact x_up_k (tne_10_63 t1)
      have q301 : h157 ((h 0 9) + 10) 0 = h147 ((h 0 9) + 10) 0 := jK 0 f159 (rg_T10_0_1_6 t1) (by first | decide | omega) (by first | decide | omega) (by decide)
      have q302 : h147 ((h 0 9) + 10) 0 = h143 ((h 0 9) + 10) 0 := by rw [← e149]; exact x_up_k (tne_10_0 t1)
      have q303 : h143 ((h 0 9) + 10) 0 = h129 ((h 0 9) + 10) 0 := by rw [← e145]; exact x_up_k (tne_10_0 t1)
      have q304 : h129 ((h 0 9) + 10) 0 = h103 ((h 0 9) + 10) 0 := by rw [← e131]; exact x_up_k tof_10_0
      have q305 : h103 ((h 0 9) + 10) 0 = h98 ((h 0 9) + 10) 0 := by rw [← e105]; exact x_up_k (tne_10_1 t1)
      have q306 : h98 ((h 0 9) + 10) 0 = h42 ((h 0 9) + 10) 0 := by rw [← e100]; exact x_up_k (tne_10_0 t1)
      have q307 : h42 ((h 0 9) + 10) 0 = h6 ((h 0 9) + 10) 0 := jK 0 f44 (rg_T10_0_1_6 t1) (by first | decide | omega) (by first | decide | omega) (by decide)
      have e308 : tv h170 6 = (h6 ((h 0 9) + 10) 0) := (congrArg (fun z => svq h170 z 6) ((((q294.trans q295).trans q296).trans q297).trans q298)).trans ((((((((q299.trans q300).trans q301).trans q302).trans q303).trans q304).trans q305).trans q306).trans q307)
      have e309 : tv h 6 = (h ((h 0 8) + 10) 0) := (congrArg (fun z => svq h z 6) rfl).trans rfl
      have q310 : h170 0 8 = h165 0 8 := by rw [← e172]; exact x_up_k (by decide)
      have q311 : h165 0 8 = h157 0 8 := by rw [← e167]; exact x_up_k (by decide)
      have q312 : h157 0 8 = h147 0 8 := f159 0 8 (by decide +kernel)
      have q313 : h147 0 8 = h143 0 8 := by rw [← e149]; exact x_up_i (by first | decide | omega)
      have q314 : h143 0 8 = (h 0 9) := by rw [← e145]; exact x_up_at
      have q315 : h170 ((h 0 9) + 10) 1 = h165 ((h 0 9) + 10) 1 := by rw [← e172]; exact x_up_k (tne_10_69 t1)
      have q316 : h165 ((h 0 9) + 10) 1 = h157 ((h 0 9) + 10) 1 := by rw [← e167]; exact x_up_k (tne_10_63 t1)
      have q317 : h157 ((h 0 9) + 10) 1 = h147 ((h 0 9) + 10) 1 := jK 1 f159 (rg_T10_0_1_6 t1) (by first | decide | omega) (by first | decide | omega) (by decide)
      have q318 : h147 ((h 0 9) + 10) 1 = h143 ((h 0 9) + 10) 1 := by rw [← e149]; exact x_up_k (tne_10_0 t1)
      have q319 : h143 ((h 0 9) + 10) 1 = h129 ((h 0 9) + 10) 1 := by rw [← e145]; exact x_up_k (tne_10_0 t1)
      have q320 : h129 ((h 0 9) + 10) 1 = h103 ((h 0 9) + 10) 1 := by rw [← e131]; exact x_up_k tof_10_0
      have q321 : h103 ((h 0 9) + 10) 1 = h98 ((h 0 9) + 10) 1 := by rw [← e105]; exact x_up_k (tne_10_1 t1)
      have q322 : h98 ((h 0 9) + 10) 1 = h42 ((h 0 9) + 10) 1 := by rw [← e100]; exact x_up_k (tne_10_0 t1)
      have q323 : h42 ((h 0 9) + 10) 1 = h6 ((h 0 9) + 10) 1 := jK 1 f44 (rg_T10_0_1_6 t1) (by first | decide | omega) (by first | decide | omega) (by decide)
      have e324 : tv h170 7 = (h6 ((h 0 9) + 10) 1) := (congrArg (fun z => svq h170 z 7) ((((q310.trans q311).trans q312).trans q313).trans q314)).trans ((((((((q315.trans q316).trans q317).trans q318).trans q319).trans q320).trans q321).trans q322).trans q323)
      have e325 : tv h 7 = (h ((h 0 8) + 10) 1) := (congrArg (fun z => svq h z 7) rfl).trans rfl
      have q326 : h170 0 8 = h165 0 8 := by rw [← e172]; exact x_up_k (by decide)
      have q327 : h165 0 8 = h157 0 8 := by rw [← e167]; exact x_up_k (by decide)
      have q328 : h157 0 8 = h147 0 8 := f159 0 8 (by decide +kernel)
      have q329 : h147 0 8 = h143 0 8 := by rw [← e149]; exact x_up_i (by first | decide | omega)
      have q330 : h143 0 8 = (h 0 9) := by rw [← e145]; exact x_up_at
      have q331 : h170 ((h 0 9) + 10) 2 = h165 ((h 0 9) + 10) 2 := by rw [← e172]; exact x_up_k (tne_10_69 t1)
      have q332 : h165 ((h 0 9) + 10) 2 = h157 ((h 0 9) + 10) 2 := by rw [← e167]; exact x_up_k (tne_10_63 t1)
      have q333 : h157 ((h 0 9) + 10) 2 = h147 ((h 0 9) + 10) 2 := jK 2 f159 (rg_T10_0_1_6 t1) (by first | decide | omega) (by first | decide | omega) (by decide)
      have q334 : h147 ((h 0 9) + 10) 2 = h143 ((h 0 9) + 10) 2 := by rw [← e149]; exact x_up_k (tne_10_0 t1)
      have q335 : h143 ((h 0 9) + 10) 2 = h129 ((h 0 9) + 10) 2 := by rw [← e145]; exact x_up_k (tne_10_0 t1)
      have q336 : h129 ((h 0 9) + 10) 2 = h103 ((h 0 9) + 10) 2 := by rw [← e131]; exact x_up_k tof_10_0
      have q337 : h103 ((h 0 9) + 10) 2 = h98 ((h 0 9) + 10) 2 := by rw [← e105]; exact x_up_k (tne_10_1 t1)
      have q338 : h98 ((h 0 9) + 10) 2 = h42 ((h 0 9) + 10) 2 := by rw [← e100]; exact x_up_k (tne_10_0 t1)
      have q339 : h42 ((h 0 9) + 10) 2 = h6 ((h 0 9) + 10) 2 := jK 2 f44 (rg_T10_0_1_6 t1) (by first | decide | omega) (by first | decide | omega) (by decide)
      have e340 : tv h170 8 = (h6 ((h 0 9) + 10) 2) := (congrArg (fun z => svq h170 z 8) ((((q326.trans q327).trans q328).trans q329).trans q330)).trans ((((((((q331.trans q332).trans q333).trans q334).trans q335).trans q336).trans q337).trans q338).trans q339)
      have e341 : tv h 8 = (h ((h 0 8) + 10) 2) := (congrArg (fun z => svq h z 8) rfl).trans rfl
      have q342 : h170 0 8 = h165 0 8 := by rw [← e172]; exact x_up_k (by decide)
      have q343 : h165 0 8 = h157 0 8 := by rw [← e167]; exact x_up_k (by decide)
      have q344 : h157 0 8 = h147 0 8 := f159 0 8 (by decide +kernel)
      have q345 : h147 0 8 = h143 0 8 := by rw [← e149]; exact x_up_i (by first | decide | omega)
      have q346 : h143 0 8 = (h 0 9) := by rw [← e145]; exact x_up_at
      have q347 : h170 ((h 0 9) + 10) 3 = h165 ((h 0 9) + 10) 3 := by rw [← e172]; exact x_up_k (tne_10_69 t1)
      have q348 : h165 ((h 0 9) + 10) 3 = h157 ((h 0 9) + 10) 3 := by rw [← e167]; exact x_up_k (tne_10_63 t1)
      have q349 : h157 ((h 0 9) + 10) 3 = h147 ((h 0 9) + 10) 3 := jK 3 f159 (rg_T10_0_1_6 t1) (by first | decide | omega) (by first | decide | omega) (by decide)
      have q350 : h147 ((h 0 9) + 10) 3 = h143 ((h 0 9) + 10) 3 := by rw [← e149]; exact x_up_k (tne_10_0 t1)
      have q351 : h143 ((h 0 9) + 10) 3 = h129 ((h 0 9) + 10) 3 := by rw [← e145]; exact x_up_k (tne_10_0 t1)
      have q352 : h129 ((h 0 9) + 10) 3 = h103 ((h 0 9) + 10) 3 := by rw [← e131]; exact x_up_k tof_10_0
      have q353 : h103 ((h 0 9) + 10) 3 = h98 ((h 0 9) + 10) 3 := by rw [← e105]; exact x_up_k (tne_10_1 t1)
      have q354 : h98 ((h 0 9) + 10) 3 = h42 ((h 0 9) + 10) 3 := by rw [← e100]; exact x_up_k (tne_10_0 t1)
      have q355 : h42 ((h 0 9) + 10) 3 = h6 ((h 0 9) + 10) 3 := jK 3 f44 (rg_T10_0_1_6 t1) (by first | decide | omega) (by first | decide | omega) (by decide)
      have e356 : tv h170 9 = (h6 ((h 0 9) + 10) 3) := (congrArg (fun z => svq h170 z 9) ((((q342.trans q343).trans q344).trans q345).trans q346)).trans ((((((((q347.trans q348).trans q349).trans q350).trans q351).trans q352).trans q353).trans q354).trans q355)
      have e357 : tv h 9 = (h ((h 0 8) + 10) 3) := (congrArg (fun z => svq h z 9) rfl).trans rfl
      have q358 : h170 0 8 = h165 0 8 := by rw [← e172]; exact x_up_k (by decide)
      have q359 : h165 0 8 = h157 0 8 := by rw [← e167]; exact x_up_k (by decide)
      have q360 : h157 0 8 = h147 0 8 := f159 0 8 (by decide +kernel)
      have q361 : h147 0 8 = h143 0 8 := by rw [← e149]; exact x_up_i (by first | decide | omega)
      have q362 : h143 0 8 = (h 0 9) := by rw [← e145]; exact x_up_at
      have q363 : h170 ((h 0 9) + 10) 4 = h165 ((h 0 9) + 10) 4 := by rw [← e172]; exact x_up_k (tne_10_69 t1)
      have q364 : h165 ((h 0 9) + 10) 4 = h157 ((h 0 9) + 10) 4 := by rw [← e167]; exact x_up_k (tne_10_63 t1)
      have q365 : h157 ((h 0 9) + 10) 4 = h147 ((h 0 9) + 10) 4 := jK 4 f159 (rg_T10_0_1_6 t1) (by first | decide | omega) (by first | decide | omega) (by decide)
      have q366 : h147 ((h 0 9) + 10) 4 = h143 ((h 0 9) + 10) 4 := by rw [← e149]; exact x_up_k (tne_10_0 t1)
      have q367 : h143 ((h 0 9) + 10) 4 = h129 ((h 0 9) + 10) 4 := by rw [← e145]; exact x_up_k (tne_10_0 t1)
      have q368 : h129 ((h 0 9) + 10) 4 = h103 ((h 0 9) + 10) 4 := by rw [← e131]; exact x_up_k tof_10_0
      have q369 : h103 ((h 0 9) + 10) 4 = h98 ((h 0 9) + 10) 4 := by rw [← e105]; exact x_up_k (tne_10_1 t1)
      have q370 : h98 ((h 0 9) + 10) 4 = h42 ((h 0 9) + 10) 4 := by rw [← e100]; exact x_up_k (tne_10_0 t1)
      have q371 : h42 ((h 0 9) + 10) 4 = h6 ((h 0 9) + 10) 4 := jK 4 f44 (rg_T10_0_1_6 t1) (by first | decide | omega) (by first | decide | omega) (by decide)
      have e372 : tv h170 10 = (h6 ((h 0 9) + 10) 4) := (congrArg (fun z => svq h170 z 10) ((((q358.trans q359).trans q360).trans q361).trans q362)).trans ((((((((q363.trans q364).trans q365).trans q366).trans q367).trans q368).trans q369).trans q370).trans q371)
      have e373 : tv h 10 = (h ((h 0 8) + 10) 4) := (congrArg (fun z => svq h z 10) rfl).trans rfl
      have q374 : h170 0 8 = h165 0 8 := by rw [← e172]; exact x_up_k (by decide)
      have q375 : h165 0 8 = h157 0 8 := by rw [← e167]; exact x_up_k (by decide)
      have q376 : h157 0 8 = h147 0 8 := f159 0 8 (by decide +kernel)
      have q377 : h147 0 8 = h143 0 8 := by rw [← e149]; exact x_up_i (by first | decide | omega)
      have q378 : h143 0 8 = (h 0 9) := by rw [← e145]; exact x_up_at
      have q379 : h170 ((h 0 9) + 10) 5 = h165 ((h 0 9) + 10) 5 := by rw [← e172]; exact x_up_k (tne_10_69 t1)
      have q380 : h165 ((h 0 9) + 10) 5 = h157 ((h 0 9) + 10) 5 := by rw [← e167]; exact x_up_k (tne_10_63 t1)
      have q381 : h157 ((h 0 9) + 10) 5 = h147 ((h 0 9) + 10) 5 := jK 5 f159 (rg_T10_0_1_6 t1) (by first | decide | omega) (by first | decide | omega) (by decide)
      have q382 : h147 ((h 0 9) + 10) 5 = h143 ((h 0 9) + 10) 5 := by rw [← e149]; exact x_up_k (tne_10_0 t1)
      have q383 : h143 ((h 0 9) + 10) 5 = h129 ((h 0 9) + 10) 5 := by rw [← e145]; exact x_up_k (tne_10_0 t1)
      have q384 : h129 ((h 0 9) + 10) 5 = h103 ((h 0 9) + 10) 5 := by rw [← e131]; exact x_up_k tof_10_0
      have q385 : h103 ((h 0 9) + 10) 5 = h98 ((h 0 9) + 10) 5 := by rw [← e105]; exact x_up_k (tne_10_1 t1)
      have q386 : h98 ((h 0 9) + 10) 5 = h42 ((h 0 9) + 10) 5 := by rw [← e100]; exact x_up_k (tne_10_0 t1)
      have q387 : h42 ((h 0 9) + 10) 5 = h6 ((h 0 9) + 10) 5 := jK 5 f44 (rg_T10_0_1_6 t1) (by first | decide | omega) (by first | decide | omega) (by decide)
      have e388 : tv h170 11 = (h6 ((h 0 9) + 10) 5) := (congrArg (fun z => svq h170 z 11) ((((q374.trans q375).trans q376).trans q377).trans q378)).trans ((((((((q379.trans q380).trans q381).trans q382).trans q383).trans q384).trans q385).trans q386).trans q387)
      have e389 : tv h 11 = (h ((h 0 8) + 10) 5) := (congrArg (fun z => svq h z 11) rfl).trans rfl
      have q390 : h170 0 8 = h165 0 8 := by rw [← e172]; exact x_up_k (by decide)
      have q391 : h165 0 8 = h157 0 8 := by rw [← e167]; exact x_up_k (by decide)
      have q392 : h157 0 8 = h147 0 8 := f159 0 8 (by decide +kernel)
      have q393 : h147 0 8 = h143 0 8 := by rw [← e149]; exact x_up_i (by first | decide | omega)
      have q394 : h143 0 8 = (h 0 9) := by rw [← e145]; exact x_up_at
      have q395 : h170 0 9 = h165 0 9 := by rw [← e172]; exact x_up_k (by decide)
      have q396 : h165 0 9 = h157 0 9 := by rw [← e167]; exact x_up_k (by decide)
      have q397 : h157 0 9 = h147 0 9 := f159 0 9 (by decide +kernel)
      have q398 : h147 0 9 = (h 0 8) := by rw [← e149]; exact x_up_at
      have q399 : h170 0 8 = h165 0 8 := by rw [← e172]; exact x_up_k (by decide)
      have q400 : h165 0 8 = h157 0 8 := by rw [← e167]; exact x_up_k (by decide)
      have q401 : h157 0 8 = h147 0 8 := f159 0 8 (by decide +kernel)
      have q402 : h147 0 8 = h143 0 8 := by rw [← e149]; exact x_up_i (by first | decide | omega)
      have q403 : h143 0 8 = (h 0 9) := by rw [← e145]; exact x_up_at
      have q404 : h170 ((h 0 9) + 3) 2 = h165 ((h 0 9) + 3) 2 := by rw [← e172]; exact x_up_k (tne_3_69 t1)
      have q405 : h165 ((h 0 9) + 3) 2 = h157 ((h 0 9) + 3) 2 := by rw [← e167]; exact x_up_k (tne_3_63 t1)
      have q406 : h157 ((h 0 9) + 3) 2 = h147 ((h 0 9) + 3) 2 := jK 0 f159 (rg_T3_2_0_1 t1) (by first | decide | omega) (by first | decide | omega) (by decide)
      have q407 : h147 ((h 0 9) + 3) 2 = h143 ((h 0 9) + 3) 2 := by rw [← e149]; exact x_up_k (tne_3_0 t1)
      have q408 : h143 ((h 0 9) + 3) 2 = h129 ((h 0 9) + 3) 2 := by rw [← e145]; exact x_up_k (tne_3_0 t1)
      have q409 : h129 ((h 0 9) + 3) 2 = h103 ((h 0 9) + 3) 2 := by rw [← e131]; exact x_up_k tof_3_0
      have q410 : h103 ((h 0 9) + 3) 2 = h98 ((h 0 9) + 3) 2 := by rw [← e105]; exact x_up_k (tne_3_1 t1)
      have q411 : h98 ((h 0 9) + 3) 2 = h42 ((h 0 9) + 3) 2 := by rw [← e100]; exact x_up_k (tne_3_0 t1)
      have m412 : ∀ u, u < 10 → wq h170 (h 0 9) u = wq h42 (h 0 9) u := fun u hu => (Eq.trans (show wq h170 (h 0 9) u = wq h165 (h 0 9) u by rw [← e172]; exact wq_k (@nc_o (h 0 9) 4 69 t1 (by decide))) (Eq.trans (show wq h165 (h 0 9) u = wq h157 (h 0 9) u by rw [← e167]; exact wq_k (@nc_o (h 0 9) 4 63 t1 (by decide))) (Eq.trans (wq_gr t1 f159 (by decide) u hu) (Eq.trans (show wq h147 (h 0 9) u = wq h143 (h 0 9) u by rw [← e149]; exact wq_k (@nc_o (h 0 9) 4 0 t1 (by decide))) (Eq.trans (show wq h143 (h 0 9) u = wq h129 (h 0 9) u by rw [← e145]; exact wq_k (@nc_o (h 0 9) 4 0 t1 (by decide))) (Eq.trans (show wq h129 (h 0 9) u = wq h103 (h 0 9) u by rw [← e131]; exact wq_k (@ne_o0 (h 0 9) 4 (by decide))) (Eq.trans (show wq h103 (h 0 9) u = wq h98 (h 0 9) u by rw [← e105]; exact wq_k (@nc_o (h 0 9) 4 1 t1 (by decide))) (show wq h98 (h 0 9) u = wq h42 (h 0 9) u by rw [← e100]; exact wq_k (@nc_o (h 0 9) 4 0 t1 (by decide))))))))))
      have q413 : h170 0 8 = h165 0 8 := by rw [← e172]; exact x_up_k (by decide)
      have q414 : h165 0 8 = h157 0 8 := by rw [← e167]; exact x_up_k (by decide)
      have q415 : h157 0 8 = h147 0 8 := f159 0 8 (by decide +kernel)
      have q416 : h147 0 8 = h143 0 8 := by rw [← e149]; exact x_up_i (by first | decide | omega)
      have q417 : h143 0 8 = (h 0 9) := by rw [← e145]; exact x_up_at
      have q418 : h170 0 9 = h165 0 9 := by rw [← e172]; exact x_up_k (by decide)
      have q419 : h165 0 9 = h157 0 9 := by rw [← e167]; exact x_up_k (by decide)
      have q420 : h157 0 9 = h147 0 9 := f159 0 9 (by decide +kernel)
      have q421 : h147 0 9 = (h 0 8) := by rw [← e149]; exact x_up_at
      have m422 : ∀ u, u < 6 → xq h170 (h 0 9) u = xq h42 (h 0 9) u := fun u hu => (Eq.trans (show xq h170 (h 0 9) u = xq h165 (h 0 9) u by rw [← e172]; exact xq_k (@nc_o (h 0 9) 9 69 t1 (by decide))) (Eq.trans (show xq h165 (h 0 9) u = xq h157 (h 0 9) u by rw [← e167]; exact xq_k (@nc_o (h 0 9) 9 63 t1 (by decide))) (Eq.trans (xq_gr t1 f159 (by decide) u hu) (Eq.trans (show xq h147 (h 0 9) u = xq h143 (h 0 9) u by rw [← e149]; exact xq_k (@nc_o (h 0 9) 9 0 t1 (by decide))) (Eq.trans (show xq h143 (h 0 9) u = xq h129 (h 0 9) u by rw [← e145]; exact xq_k (@nc_o (h 0 9) 9 0 t1 (by decide))) (Eq.trans (show xq h129 (h 0 9) u = xq h103 (h 0 9) u by rw [← e131]; exact xq_k (@ne_o0 (h 0 9) 9 (by decide))) (Eq.trans (show xq h103 (h 0 9) u = xq h98 (h 0 9) u by rw [← e105]; exact xq_k (@nc_o (h 0 9) 9 1 t1 (by decide))) (show xq h98 (h 0 9) u = xq h42 (h 0 9) u by rw [← e100]; exact xq_k (@nc_o (h 0 9) 9 0 t1 (by decide))))))))))
      have q423 : h170 0 8 = h165 0 8 := by rw [← e172]; exact x_up_k (by decide)
      have q424 : h165 0 8 = h157 0 8 := by rw [← e167]; exact x_up_k (by decide)
      have q425 : h157 0 8 = h147 0 8 := f159 0 8 (by decide +kernel)
      have q426 : h147 0 8 = h143 0 8 := by rw [← e149]; exact x_up_i (by first | decide | omega)
      have q427 : h143 0 8 = (h 0 9) := by rw [← e145]; exact x_up_at
      have q428 : h170 0 9 = h165 0 9 := by rw [← e172]; exact x_up_k (by decide)
      have q429 : h165 0 9 = h157 0 9 := by rw [← e167]; exact x_up_k (by decide)
      have q430 : h157 0 9 = h147 0 9 := f159 0 9 (by decide +kernel)
      have q431 : h147 0 9 = (h 0 8) := by rw [← e149]; exact x_up_at
      have m432 : ∀ b, b < 6 → h165 46 b = al9 (xq h147 (h 0 9) b) := fun b hb => by rw [← e167, x_up_k (by decide)]; exact c162 b hb
      have m433 : ∀ b, b < 6 → h170 46 b = al9 (xq h147 (h 0 9) b) := fun b hb => by rw [← e172, x_up_k (by decide)]; exact m432 b hb
      have m434 : ∀ u, u < 6 → xq h170 (h 0 9) u = xq h147 (h 0 9) u := fun u hu => (Eq.trans (show xq h170 (h 0 9) u = xq h165 (h 0 9) u by rw [← e172]; exact xq_k (@nc_o (h 0 9) 9 69 t1 (by decide))) (Eq.trans (show xq h165 (h 0 9) u = xq h157 (h 0 9) u by rw [← e167]; exact xq_k (@nc_o (h 0 9) 9 63 t1 (by decide))) (xq_gr t1 f159 (by decide) u hu)))
      have q435 : h170 0 8 = h165 0 8 := by rw [← e172]; exact x_up_k (by decide)
      have q436 : h165 0 8 = h157 0 8 := by rw [← e167]; exact x_up_k (by decide)
      have q437 : h157 0 8 = h147 0 8 := f159 0 8 (by decide +kernel)
      have q438 : h147 0 8 = h143 0 8 := by rw [← e149]; exact x_up_i (by first | decide | omega)
      have q439 : h143 0 8 = (h 0 9) := by rw [← e145]; exact x_up_at
      have q440 : h170 0 9 = h165 0 9 := by rw [← e172]; exact x_up_k (by decide)
      have q441 : h165 0 9 = h157 0 9 := by rw [← e167]; exact x_up_k (by decide)
      have q442 : h157 0 9 = h147 0 9 := f159 0 9 (by decide +kernel)
      have q443 : h147 0 9 = (h 0 8) := by rw [← e149]; exact x_up_at
      have m444 : ∀ u, u < 10 → aq h170 (h 0 9) u = aq h42 (h 0 9) u := fun u hu => (Eq.trans (show aq h170 (h 0 9) u = aq h165 (h 0 9) u by rw [← e172]; exact aq_k (@nc_o (h 0 9) 8 69 t1 (by decide))) (Eq.trans (show aq h165 (h 0 9) u = aq h157 (h 0 9) u by rw [← e167]; exact aq_k (@nc_o (h 0 9) 8 63 t1 (by decide))) (Eq.trans (aq_gr t1 f159 (by decide) u hu) (Eq.trans (show aq h147 (h 0 9) u = aq h143 (h 0 9) u by rw [← e149]; exact aq_k (@nc_o (h 0 9) 8 0 t1 (by decide))) (Eq.trans (show aq h143 (h 0 9) u = aq h129 (h 0 9) u by rw [← e145]; exact aq_k (@nc_o (h 0 9) 8 0 t1 (by decide))) (Eq.trans (show aq h129 (h 0 9) u = aq h103 (h 0 9) u by rw [← e131]; exact aq_k (@ne_o0 (h 0 9) 8 (by decide))) (Eq.trans (show aq h103 (h 0 9) u = aq h98 (h 0 9) u by rw [← e105]; exact aq_k (@nc_o (h 0 9) 8 1 t1 (by decide))) (show aq h98 (h 0 9) u = aq h42 (h 0 9) u by rw [← e100]; exact aq_k (@nc_o (h 0 9) 8 0 t1 (by decide))))))))))
      have m445 : ∀ u, u < 10 → bq h170 (h 0 9) u = bq h42 (h 0 9) u := fun u hu => (Eq.trans (show bq h170 (h 0 9) u = bq h165 (h 0 9) u by rw [← e172]; exact bq_k (@nc_o (h 0 9) 8 69 t1 (by decide))) (Eq.trans (show bq h165 (h 0 9) u = bq h157 (h 0 9) u by rw [← e167]; exact bq_k (@nc_o (h 0 9) 8 63 t1 (by decide))) (Eq.trans (bq_gr t1 f159 (by decide) u hu) (Eq.trans (show bq h147 (h 0 9) u = bq h143 (h 0 9) u by rw [← e149]; exact bq_k (@nc_o (h 0 9) 8 0 t1 (by decide))) (Eq.trans (show bq h143 (h 0 9) u = bq h129 (h 0 9) u by rw [← e145]; exact bq_k (@nc_o (h 0 9) 8 0 t1 (by decide))) (Eq.trans (show bq h129 (h 0 9) u = bq h103 (h 0 9) u by rw [← e131]; exact bq_k (@ne_o0 (h 0 9) 8 (by decide))) (Eq.trans (show bq h103 (h 0 9) u = bq h98 (h 0 9) u by rw [← e105]; exact bq_k (@nc_o (h 0 9) 8 1 t1 (by decide))) (show bq h98 (h 0 9) u = bq h42 (h 0 9) u by rw [← e100]; exact bq_k (@nc_o (h 0 9) 8 0 t1 (by decide))))))))))
      refine x_retI (np := 93) (x := 0) (by decide +kernel) (by first | decide | omega) (Or.inl (by decide +kernel)) (Or.inl ⟨_, rfl, (by first | decide | omega), ?_⟩)
      exact ⟨j171, f173, (by first | decide | omega), (by first | decide | omega), (Tt.some4 c202 (by first | decide | omega) (by first | decide | omega) (by first | decide | omega) (by first | decide | omega) (by first | decide | omega)), (by first | decide | omega), (by first | decide | omega), (by first | decide | omega), (by first | decide | omega), ((((q285.trans q286).trans q287).trans q288).trans q289), (((q290.trans q291).trans q292).trans q293), (six12 (P := fun i => tv h170 i = tv h i) (show tv h170 6 = tv h 6 by first | decide | omega) (show tv h170 7 = tv h 7 by first | decide | omega) (show tv h170 8 = tv h 8 by first | decide | omega) (show tv h170 9 = tv h 9 by first | decide | omega) (show tv h170 10 = tv h 10 by first | decide | omega) (show tv h170 11 = tv h 11 by first | decide | omega)), (Wl.mp (c50 (by first | decide | omega)) (fun u hu => (svq_w u hu).symm.trans (c17 (18 + u))) (fun u hu => ((congrArg (fun z => svq h170 z (18 + u)) ((((q390.trans q391).trans q392).trans q393).trans q394)).trans (svq_w u hu)).trans (m412 u hu)) (by first | decide | omega) (by first | decide | omega)), (Tx.mp (c51 (by first | decide | omega)) (fun u hu => (svq_x u hu).symm.trans (c17 (12 + u))) (fun u hu => ((congrArg (fun z => svq h170 z (12 + u)) ((((q413.trans q414).trans q415).trans q416).trans q417)).trans (svq_x u hu)).trans (m422 u hu)) (by first | decide | omega) (by first | decide | omega) (by first | decide | omega) (by first | decide | omega) (by first | decide | omega)), (fun b hb => (m433 b hb).trans (congrArg al9 (((congrArg (fun z => svq h170 z (12 + b)) ((((q423.trans q424).trans q425).trans q426).trans q427)).trans (svq_x b hb)).trans (m434 b hb)).symm)), (Tz.mp (c52 (by first | decide | omega)) (fun u hu => (svq_s u hu).symm.trans (c17 (28 + u))) (fun u hu => ((congrArg (fun z => svq h170 z (28 + u)) ((((q435.trans q436).trans q437).trans q438).trans q439)).trans (svq_s u hu)).trans ((ab2 m444 m445) u hu)) (by first | decide | omega) (by first | decide | omega) (by first | decide | omega) (by first | decide | omega) (by first | decide | omega))⟩
    have q121 : ¬ ((h42 (h 0 8) 8) < 2147483658) := q121
    have q446 : h103 1 1 = 2147483648 := by rw [← e105]; exact x_up_at
    have e447 : tv h 0 = (h (h 0 8) 7) := (congrArg (fun z => svq h z 0) rfl).trans rfl
    have e448 : tv h 2 = (h ((h 0 8) + 1) 2) := (congrArg (fun z => svq h z 2) rfl).trans rfl
    have b449 := jB (e := 2) 0 j43 (rg_T1_2_0_1 t1) (by first | decide | omega) (by first | decide | omega)
    have e450 : tv h 3 = (h ((h 0 8) + 3) 2) := (congrArg (fun z => svq h z 3) rfl).trans rfl
    have b451 := jB (e := 2) 0 j43 (rg_T3_2_0_1 t1) (by first | decide | omega) (by first | decide | omega)
    have e452 : tv h 4 = (h ((h 0 8) + 5) 2) := (congrArg (fun z => svq h z 4) rfl).trans rfl
    have b453 := jB (e := 2) 0 j43 (rg_T5_2_0_1 t1) (by first | decide | omega) (by first | decide | omega)
    have e454 : tv h 5 = (h ((h 0 8) + 7) 2) := (congrArg (fun z => svq h z 5) rfl).trans rfl
    have b455 := jB (e := 2) 0 j43 (rg_T7_2_0_1 t1) (by first | decide | omega) (by first | decide | omega)
    have c456 := Tt.cast (pe' := tv h 0) (l1 := tv h 2) (t1 := tv h 3) (d1 := tv h 4) (s1 := tv h 5) c48 (by first | decide | omega) (by first | decide | omega) (by first | decide | omega) (by first | decide | omega) (by first | decide | omega)
    have q457 : h103 0 8 = h98 0 8 := by rw [← e105]; exact x_up_k (by decide)
    have q458 : h98 0 8 = h42 0 8 := by rw [← e100]; exact x_up_i (by first | decide | omega)
    have q459 : h42 0 8 = h6 0 8 := f44 0 8 (by decide +kernel)
    have q460 : h6 0 8 = h 0 8 := f8 0 8 (by decide +kernel)
    have q461 : h103 0 9 = h98 0 9 := by rw [← e105]; exact x_up_k (by decide)
    have q462 : h98 0 9 = h42 0 9 := by rw [← e100]; exact x_up_i (by first | decide | omega)
    have q463 : h42 0 9 = h6 0 9 := f44 0 9 (by decide +kernel)
    have q464 : h6 0 9 = h 0 9 := f8 0 9 (by decide +kernel)
    have m465 : Ot (h 0 9) h h98 := by rw [← e100]; exact Ot.oth m110 (by decide)
    have m466 : Ot (h 0 9) h h103 := by rw [← e105]; exact Ot.oth m465 (by decide)
    have m467 : ∀ i, tv h103 i = tv h i := fun i => (congrArg (fun z => svq h103 z i) (((q457.trans q458).trans q459).trans q460)).trans (m466 _ t2 hp0 i)
    have m468 : ∀ b, b < 6 → h98 46 b = h 46 b := fun b hb => by rw [← e100, x_up_k (by decide)]; exact (al_gr (al_gr (fun _ _ => rfl) f8 (by decide)) f44 (by decide)) b hb
    have m469 : ∀ b, b < 6 → h103 46 b = h 46 b := fun b hb => by rw [← e105, x_up_k (by decide)]; exact m468 b hb
    refine x_thr (np := 57) (x := 3) (by decide +kernel) (by decide +kernel) (Nat.le_trans x_wn (by decide)) (Or.inr ⟨_, rfl, ?_⟩)
    exact ⟨j104, f106, by decide, (by first | decide | omega), (Or.inr ⟨rfl, by first | decide | omega, _, Tt.some4 c456 (by first | decide | omega) rfl rfl rfl rfl⟩), m467, (((q457.trans q458).trans q459).trans q460), (((q461.trans q462).trans q463).trans q464), m469⟩
  have q108 : ¬ (v38 ≠ 2147483648) := q108
  exfalso; omega
set_option maxHeartbeats 0 in
/-- LentNamesLaw.tell(LLentNames;[J)I -/
theorem c282_0_97 {sc : Nat × Nat} {d  : Nat} {h : xh} {tB : Nat → Nat} {tN : Nat} (hJ : J h) (hT : Tp tB tN h) (hp0 : h 0 8 ≠ h 0 9) : X sc 282 (d + 11) (xI fun r h' => J h' ∧ Fr 641129628202819259 h h' ∧ (2147483648 ≤ r ∧ r ≤ 2147483650) ∧ (h' 1 1 = 2147483648) ∧ Tc tB tN h h' r) 0 0 0 [x_r 0, x_r 97, 147573952589676412928] [] h := by
  have hF := Fr.refl 641129628202819259 h
  refine x_aload (np := 1) (x := 1) (by decide +kernel) rfl (x_nc_le (by decide)) ?_
  refine x_const (np := 2) (x := 9223372039002259456) (a := 2147483648) (by decide +kernel) (by decide) (by decide) ?_
  refine x_aload (np := 3) (x := 0) (by decide +kernel) rfl (x_nc_le (by decide)) ?_
  refine x_cT (t := 6) (mj := 106) (n := 1) (rc := 11) (ml := 2) (cc := 1) (ss := 6) (nr := 2) (np := 6) (as := [x_r 0]) (rest := [iv_c 2147483648, x_r 97]) (lo1 := [x_r 0, 147573952589676412928]) (by decide +kernel) (by decide) (by decide +kernel) (x_rb_of (by decide +kernel)) rfl rfl (x_wr (by decide) x_wn) (x_wi (by decide) (x_wr (by decide) x_wn)) (by decide) rfl (c106_0 hJ  hT hp0) (fun v18 h21 l19 q20 => ?_) (fun E23 h24 q22 => ?_)
  · obtain ⟨j25, f26, b27, c28, c1, c2, c3, c4, c5, c6, c7, c8, c9, c10, c11, c12⟩ := q20
    have f29 := Fr.trans hF f26 (by decide)
    have b30 := jB (e := 1) 0 j25 rg_1_1_0_1 (by first | decide | omega) (by first | decide | omega)
    refine x_i2l (np := 7) (x := 0) (by decide +kernel) l19 ?_
    refine x_last (np := 8) (x := 0) (n := 1) (i := 0) (by decide +kernel) (by decide) (by decide +kernel) (by decide +kernel) (by first | decide | omega) (by first | decide | omega) (by decide) l19 ?_
    have j32 := jU (e := 0) (v := v18) 0 j25 rg_97_0_1_1 (by first | decide | omega) (by first | decide | omega) (by first | decide | omega)
    have f34 := jF (e := 0) (v := v18) 0 f29 rg_97_0_1_1 (by first | decide | omega) (by first | decide | omega) (by decide)
    generalize e33 : x_up h21 97 0 v18 = h31 at j32 f34 ⊢
    refine x_goto (np := 11) (x := 17) (by decide +kernel) ?_
    refine x_const (np := 18) (x := 9223372039002259456) (a := 2147483648) (by decide +kernel) (by decide) (by decide) ?_
    have q35 : h31 1 1 = h21 1 1 := by rw [← e33]; exact x_up_k (by decide)
    have t36 : tw (h21 0 8) := j25.2.1
    have b37 := jB (e := 7) 0 j25 (rg_T0_7_0_1 t36) (by first | decide | omega) (by first | decide | omega)
    have e38 : tv h21 0 = (h21 (h21 0 8) 7) := (congrArg (fun z => svq h21 z 0) rfl).trans rfl
    have q39 : h31 0 8 = h21 0 8 := by rw [← e33]; exact x_up_k (by decide)
    have q40 : h31 (h21 0 8) 7 = h21 (h21 0 8) 7 := by rw [← e33]; exact x_up_k (tne_0_97 t36)
    have e41 : tv h31 0 = (h21 (h21 0 8) 7) := (congrArg (fun z => svq h31 z 0) q39).trans q40
    have t42 : tw (h 0 8) := hJ.2.1
    have b43 := jB (e := 7) 0 hJ (rg_T0_7_0_1 t42) (by first | decide | omega) (by first | decide | omega)
    have e44 : tv h 0 = (h (h 0 8) 7) := (congrArg (fun z => svq h z 0) rfl).trans rfl
    have e45 : tv h21 1 = (h21 (h21 0 8) 8) := (congrArg (fun z => svq h21 z 1) rfl).trans rfl
    have q46 : h31 0 8 = h21 0 8 := by rw [← e33]; exact x_up_k (by decide)
    have q47 : h31 (h21 0 8) 8 = h21 (h21 0 8) 8 := by rw [← e33]; exact x_up_k (tne_0_97 t36)
    have e48 : tv h31 1 = (h21 (h21 0 8) 8) := (congrArg (fun z => svq h31 z 1) q46).trans q47
    have e49 : tv h 1 = (h (h 0 8) 8) := (congrArg (fun z => svq h z 1) rfl).trans rfl
    have b50 := jB (e := 2) 0 j25 (rg_T1_2_0_1 t36) (by first | decide | omega) (by first | decide | omega)
    have e51 : tv h21 2 = (h21 ((h21 0 8) + 1) 2) := (congrArg (fun z => svq h21 z 2) rfl).trans rfl
    have q52 : h31 0 8 = h21 0 8 := by rw [← e33]; exact x_up_k (by decide)
    have q53 : h31 ((h21 0 8) + 1) 2 = h21 ((h21 0 8) + 1) 2 := by rw [← e33]; exact x_up_k (tne_1_97 t36)
    have e54 : tv h31 2 = (h21 ((h21 0 8) + 1) 2) := (congrArg (fun z => svq h31 z 2) q52).trans q53
    have b55 := jB (e := 2) 0 hJ (rg_T1_2_0_1 t42) (by first | decide | omega) (by first | decide | omega)
    have e56 : tv h 2 = (h ((h 0 8) + 1) 2) := (congrArg (fun z => svq h z 2) rfl).trans rfl
    have b57 := jB (e := 2) 0 j25 (rg_T3_2_0_1 t36) (by first | decide | omega) (by first | decide | omega)
    have e58 : tv h21 3 = (h21 ((h21 0 8) + 3) 2) := (congrArg (fun z => svq h21 z 3) rfl).trans rfl
    have q59 : h31 0 8 = h21 0 8 := by rw [← e33]; exact x_up_k (by decide)
    have q60 : h31 ((h21 0 8) + 3) 2 = h21 ((h21 0 8) + 3) 2 := by rw [← e33]; exact x_up_k (tne_3_97 t36)
    have e61 : tv h31 3 = (h21 ((h21 0 8) + 3) 2) := (congrArg (fun z => svq h31 z 3) q59).trans q60
    have b62 := jB (e := 2) 0 hJ (rg_T3_2_0_1 t42) (by first | decide | omega) (by first | decide | omega)
    have e63 : tv h 3 = (h ((h 0 8) + 3) 2) := (congrArg (fun z => svq h z 3) rfl).trans rfl
    have b64 := jB (e := 2) 0 j25 (rg_T5_2_0_1 t36) (by first | decide | omega) (by first | decide | omega)
    have e65 : tv h21 4 = (h21 ((h21 0 8) + 5) 2) := (congrArg (fun z => svq h21 z 4) rfl).trans rfl
    have q66 : h31 0 8 = h21 0 8 := by rw [← e33]; exact x_up_k (by decide)
    have q67 : h31 ((h21 0 8) + 5) 2 = h21 ((h21 0 8) + 5) 2 := by rw [← e33]; exact x_up_k (tne_5_97 t36)
    have e68 : tv h31 4 = (h21 ((h21 0 8) + 5) 2) := (congrArg (fun z => svq h31 z 4) q66).trans q67
    have b69 := jB (e := 2) 0 hJ (rg_T5_2_0_1 t42) (by first | decide | omega) (by first | decide | omega)
    have e70 : tv h 4 = (h ((h 0 8) + 5) 2) := (congrArg (fun z => svq h z 4) rfl).trans rfl
    have b71 := jB (e := 2) 0 j25 (rg_T7_2_0_1 t36) (by first | decide | omega) (by first | decide | omega)
    have e72 : tv h21 5 = (h21 ((h21 0 8) + 7) 2) := (congrArg (fun z => svq h21 z 5) rfl).trans rfl
    have q73 : h31 0 8 = h21 0 8 := by rw [← e33]; exact x_up_k (by decide)
    have q74 : h31 ((h21 0 8) + 7) 2 = h21 ((h21 0 8) + 7) 2 := by rw [← e33]; exact x_up_k (tne_7_97 t36)
    have e75 : tv h31 5 = (h21 ((h21 0 8) + 7) 2) := (congrArg (fun z => svq h31 z 5) q73).trans q74
    have b76 := jB (e := 2) 0 hJ (rg_T7_2_0_1 t42) (by first | decide | omega) (by first | decide | omega)
    have e77 : tv h 5 = (h ((h 0 8) + 7) 2) := (congrArg (fun z => svq h z 5) rfl).trans rfl
    have q78 : h31 97 0 = v18 := by rw [← e33]; exact x_up_at
    have q79 : h31 0 8 = h21 0 8 := by rw [← e33]; exact x_up_k (by decide)
    have q80 : h31 0 9 = h21 0 9 := by rw [← e33]; exact x_up_k (by decide)
    have t81 : tw (h21 0 9) := j25.2.2.1
    have m82 : ∀ i, tv h31 i = tv h21 i := fun i => by rw [← e33]; exact tv_up (by decide) t36 i
    have m83 : ∀ i, tv h31 i = tv h21 i := fun i => by rw [← e33]; exact tv_up (by decide) t36 i
    have m84 : ∀ b, b < 6 → h31 46 b = al9 (tv h21 (12 + b)) := fun b hb => by rw [← e33, x_up_k (by decide)]; exact c11 b hb
    have m85 : ∀ i, tv h31 i = tv h21 i := fun i => by rw [← e33]; exact tv_up (by decide) t36 i
    refine x_retI (np := 19) (x := 0) (by decide +kernel) (by decide) (Or.inl (by decide +kernel)) ⟨_, rfl, (by decide), ?_⟩
    exact ⟨j32, f34, (by first | decide | omega), (by first | decide | omega), (Or.inl ⟨by first | decide | omega, Tt.seq c1 (by first | decide | omega) (by first | decide | omega) (by first | decide | omega) (by first | decide | omega), by first | decide | omega, by first | decide | omega, by first | decide | omega, by first | decide | omega, (Eq.trans q79 c6), (Eq.trans q80 c7), (fun i y1 y2 => (m82 i).trans (c8 i y1 y2)), (Wl.mp c9 (fun _ _ => rfl) (fun u _ => m82 (18 + u)) rfl (m82 3).symm), (Tx.mp c10 (fun _ _ => rfl) (fun u _ => m83 (12 + u)) rfl rfl rfl rfl rfl), (fun b hb => (m84 b hb).trans (congrArg al9 (m83 (12 + b)).symm)), (Tz.mp c12 (fun _ _ => rfl) (fun u _ => m85 (28 + u)) rfl rfl rfl rfl rfl)⟩)⟩
  obtain ⟨j86, f87, e88, c89, c13, c14, c15, c16, c17⟩ := q22
  have f90 := Fr.trans hF f87 (by decide)
  have b91 := jB (e := 1) 0 j86 rg_1_1_0_1 (by first | decide | omega) (by first | decide | omega)
  rcases e88 with rfl | rfl
  · refine ⟨11, fun _ _ => rfl, ?_⟩
    refine x_astE (np := 12) (x := 2) (lo' := [x_r 0, x_r 97, 55340232221128654850]) (by decide +kernel) (Nat.le_of_ble_eq_true rfl) rfl ?_
    refine x_const (np := 13) (x := 9223372043297226753) (a := 2147483649) (by decide +kernel) (by decide) (by decide) ?_
    refine x_retI (np := 14) (x := 0) (by decide +kernel) (by decide) (Or.inl (by decide +kernel)) ⟨_, rfl, (by decide), ?_⟩
    exact ⟨j86, f90, (by first | decide | omega), (by first | decide | omega), (Or.inr (Or.inl ⟨by first | decide | omega, Te.iae c13, c14, c15, c16, c17⟩))⟩
  · refine ⟨14, fun _ _ => rfl, ?_⟩
    refine x_astE (np := 15) (x := 2) (lo' := [x_r 0, x_r 97, 55340232221128654850]) (by decide +kernel) (Nat.le_of_ble_eq_true rfl) rfl ?_
    refine x_const (np := 16) (x := 9223372047592194050) (a := 2147483650) (by decide +kernel) (by decide) (by decide) ?_
    refine x_retI (np := 17) (x := 0) (by decide +kernel) (by decide) (Or.inl (by decide +kernel)) ⟨_, rfl, (by decide), ?_⟩
    exact ⟨j86, f90, (by first | decide | omega), (by first | decide | omega), (Or.inr (Or.inr ⟨by first | decide | omega, Te.uoe c13, c14, c15, c16, c17⟩))⟩
set_option maxHeartbeats 0 in
/-- LentNames.people(I)V -/
theorem c109_0 {sc : Nat × Nat} {d a1 : Nat} {h : xh} (hJ : J h) (ba1 : 0 ≤ a1 ∧ a1 ≤ 4294967295) : X sc 109 (d + 7) (xU (fun h' => J h' ∧ Fr 576882964768595457 h h' ∧ tv h' 0 = a1 ∧ tv h' 1 = tv h 1 ∧ tv h' 2 = tv h 2 ∧ tv h' 3 = tv h 3 ∧ tv h' 4 = tv h 4 ∧ tv h' 5 = tv h 5 ∧ 2147483650 ≤ a1 ∧ a1 ≤ 2147483654 ∧ tv h 1 ≤ 2147483648 ∧ h' 0 8 = h 0 8 ∧ h' 0 9 = h 0 9 ∧ (∀ b, b < 6 → h' 46 b = al9 (tv h' (12 + b)))) (fun E h' => J h' ∧ Fr 576882964768595457 h h' ∧ (E = 0 ∨ E = 1) ∧ ((E = 0 ∧ (a1 < 2147483650 ∨ 2147483654 < a1)) ∨ (E = 1 ∧ 2147483650 ≤ a1 ∧ a1 ≤ 2147483654 ∧ 2147483648 < tv h 1)) ∧ h' = h)) 0 0 0 [x_r 0, iv_c a1] [] h := by
  have la1 : a1 < 4294967296 := by first | decide | omega
  have hF := Fr.refl 576882964768595457 h
  refine x_iload (np := 1) (x := 1) (by decide +kernel) rfl la1 ?_
  refine x_const (np := 2) (x := 9223372047592194050) (a := 2147483650) (by decide +kernel) (by decide) (by decide) ?_
  refine x_icmp (k := 2) (tg := 11) (np := 5) (by decide +kernel) (by decide) la1 (by decide) (fun q1 => ?_) (fun q2 => ?_)
  · have q1 : a1 < 2147483650 := q1
    have t3 : tw (h 0 8) := hJ.2.1
    have e4 : tv h 1 = (h (h 0 8) 8) := (congrArg (fun z => svq h z 1) rfl).trans rfl
    refine x_thr (np := 14) (x := 0) (by decide +kernel) (by decide +kernel) (Nat.le_trans x_wn (by decide)) (Or.inr ⟨_, rfl, ?_⟩)
    exact ⟨hJ, hF, by decide, (Or.inl ⟨rfl, by first | decide | omega⟩), rfl⟩
  have q2 : ¬ (a1 < 2147483650) := q2
  refine x_iload (np := 6) (x := 1) (by decide +kernel) rfl la1 ?_
  refine x_const (np := 8) (x := 9223372064772063238) (a := 2147483654) (by decide +kernel) (by decide) (by decide) ?_
  refine x_icmp (k := 5) (tg := 21) (np := 11) (by decide +kernel) (by decide) la1 (by decide) (fun q5 => ?_) (fun q6 => ?_)
  · have q5 : a1 ≤ 2147483654 := q5
    refine x_aload (np := 22) (x := 0) (by decide +kernel) rfl (x_nc_le (by decide)) ?_
    have t7 : tw (h 0 8) := hJ.2.1
    refine x_getR (np := 25) (x := 648) (f := 8) (q := (h 0 8)) (by decide +kernel) (by decide) (by decide +kernel) rfl ?_
    refine x_getC (np := 28) (x := 520) (f := 8) (q := (h (h 0 8) 8)) (by decide +kernel) (by decide) (tg_0_520_8_0 t7) rfl (fun l8 => ?_)
    refine x_ifz (k := 5) (tg := 41) (np := 31) (by decide +kernel) (by decide) l8 (fun q9 => ?_) (fun q10 => ?_)
    · have q9 : (h (h 0 8) 8) ≤ 2147483648 := q9
      refine x_aload (np := 42) (x := 0) (by decide +kernel) rfl (x_nc_le (by decide)) ?_
      refine x_getR (np := 45) (x := 648) (f := 8) (q := (h 0 8)) (by decide +kernel) (by decide) (by decide +kernel) rfl ?_
      refine x_iload (np := 46) (x := 1) (by decide +kernel) rfl la1 ?_
      refine x_putI (np := 49) (x := 519) (f := 7) (by decide +kernel) (tg_0_519_7_0 t7) la1 (Or.inl (by decide)) ?_
      have j12 := jU (e := 7) (v := a1) 0 hJ (rg_T0_7_0_1 t7) (by first | decide | omega) (by first | decide | omega) (by first | decide | omega)
      have f14 := jF (e := 7) (v := a1) 0 hF (rg_T0_7_0_1 t7) (by first | decide | omega) (by first | decide | omega) (by decide)
      generalize e13 : x_up h (h 0 8) 7 a1 = h11 at j12 f14 ⊢
      refine x_aload (np := 50) (x := 0) (by decide +kernel) rfl (x_nc_le (by decide)) ?_
      refine x_nV (t := 6) (mj := 143) (n := 1) (rc := 11) (ml := 1) (nr := 0) (np := 53) (as := [x_r 0]) (rest := []) (lo1 := [x_r 0]) (by decide +kernel) (by decide) (by decide +kernel) (x_rb_of (by decide +kernel)) rfl rfl (x_wr (by decide) x_wn) x_wn (by decide) rfl ?_
      refine x_aload (np := 1) (x := 0) (by decide +kernel) rfl (x_nc_le (by decide)) ?_
      have q15 : h11 0 1 = 45 := by have z := jB (e := 1) 0 j12 rg_0_1_0_1 (by decide) (by decide); omega
      refine x_getR (np := 4) (x := 641) (f := 1) (q := 45) (by decide +kernel) (by decide) (by decide +kernel) q15 ?_
      refine x_aload (np := 5) (x := 0) (by decide +kernel) rfl (x_nc_le (by decide)) ?_
      have q16 : h11 0 8 = h 0 8 := by rw [← e13]; exact x_up_k (Ne.symm (tne_0_0 t7))
      refine x_getR (np := 8) (x := 648) (f := 8) (q := (h 0 8)) (by decide +kernel) (by decide) (by decide +kernel) q16 ?_
      refine x_cV (t := 6) (mj := 4) (n := 2) (rc := 2) (ml := 3) (nr := 0) (np := 11) (as := [x_r 45, x_r (h 0 8)]) (rest := []) (lo1 := [x_r 45, x_r (h 0 8), 147573952589676412928]) (by decide +kernel) (by decide) (by decide +kernel) (x_rb_of (by decide +kernel)) rfl rfl (x_wr (by decide) (x_wr (tn_0 t7) x_wn)) x_wn (by decide) rfl (c4_45_T0 j12  t7) (fun h20 q19 => ?_)
      obtain ⟨j21, f22, c25⟩ := q19
      have f26 := Fr.trans f14 f22 (by decide)
      refine x_aload (np := 12) (x := 0) (by decide +kernel) rfl (x_nc_le (by decide)) ?_
      have q27 : h20 0 5 = 63 := by have z := jB (e := 5) 0 j21 rg_0_5_0_1 (by decide) (by decide); omega
      refine x_getR (np := 15) (x := 645) (f := 5) (q := 63) (by decide +kernel) (by decide) (by decide +kernel) q27 ?_
      refine x_nV (t := 8) (mj := 270) (n := 1) (rc := 5) (ml := 1) (nr := 0) (np := 18) (as := [x_r 63]) (rest := []) (lo1 := [x_r 63]) (by decide +kernel) (by decide) (by decide +kernel) (x_rb_of (by decide +kernel)) rfl rfl (x_wr (by decide) x_wn) x_wn (by decide) rfl ?_
      refine x_aload (np := 1) (x := 0) (by decide +kernel) rfl (x_nc_le (by decide)) ?_
      refine x_const (np := 2) (x := 9223372039002259456) (a := 2147483648) (by decide +kernel) (by decide) (by decide) ?_
      refine x_putI (np := 5) (x := 4878) (f := 14) (by decide +kernel) (by decide +kernel) (by decide) (Or.inr ⟨by decide, by first | decide | omega, by first | decide | omega⟩) ?_
      have j29 := jU (e := 14) (v := 2147483648) 0 j21 rg_63_14_0_1 (by first | decide | omega) (by first | decide | omega) (by first | decide | omega)
      have f31 := jF (e := 14) (v := 2147483648) 0 f26 rg_63_14_0_1 (by first | decide | omega) (by first | decide | omega) (by decide)
      generalize e30 : x_up h20 63 14 2147483648 = h28 at j29 f31 ⊢
      refine x_retV (np := 6) (x := 0) (by decide +kernel) (by decide +kernel) ⟨rfl, ?_⟩
      refine x_aload (np := 19) (x := 0) (by decide +kernel) rfl (x_nc_le (by decide)) ?_
      have q32 : h28 0 6 = 69 := by have z := jB (e := 6) 0 j29 rg_0_6_0_1 (by decide) (by decide); omega
      refine x_getR (np := 22) (x := 646) (f := 6) (q := 69) (by decide +kernel) (by decide) (by decide +kernel) q32 ?_
      refine x_nV (t := 8) (mj := 270) (n := 1) (rc := 6) (ml := 1) (nr := 0) (np := 25) (as := [x_r 69]) (rest := []) (lo1 := [x_r 69]) (by decide +kernel) (by decide) (by decide +kernel) (x_rb_of (by decide +kernel)) rfl rfl (x_wr (by decide) x_wn) x_wn (by decide) rfl ?_
      refine x_aload (np := 1) (x := 0) (by decide +kernel) rfl (x_nc_le (by decide)) ?_
      refine x_const (np := 2) (x := 9223372039002259456) (a := 2147483648) (by decide +kernel) (by decide) (by decide) ?_
      refine x_putI (np := 5) (x := 4878) (f := 14) (by decide +kernel) (by decide +kernel) (by decide) (Or.inr ⟨by decide, by first | decide | omega, by first | decide | omega⟩) ?_
      have j34 := jU (e := 14) (v := 2147483648) 0 j29 rg_69_14_0_1 (by first | decide | omega) (by first | decide | omega) (by first | decide | omega)
      have f36 := jF (e := 14) (v := 2147483648) 0 f31 rg_69_14_0_1 (by first | decide | omega) (by first | decide | omega) (by decide)
      generalize e35 : x_up h28 69 14 2147483648 = h33 at j34 f36 ⊢
      refine x_retV (np := 6) (x := 0) (by decide +kernel) (by decide +kernel) ⟨rfl, ?_⟩
      refine x_retV (np := 26) (x := 0) (by decide +kernel) (by decide +kernel) ⟨rfl, ?_⟩
      have q37 : h33 0 8 = h28 0 8 := by rw [← e35]; exact x_up_k (by decide)
      have q38 : h28 0 8 = h20 0 8 := by rw [← e30]; exact x_up_k (by decide)
      have q39 : h20 0 8 = h11 0 8 := f22 0 8 (by decide +kernel)
      have q40 : h11 0 8 = h 0 8 := by rw [← e13]; exact x_up_k (Ne.symm (tne_0_0 t7))
      have q41 : h33 0 9 = h28 0 9 := by rw [← e35]; exact x_up_k (by decide)
      have q42 : h28 0 9 = h20 0 9 := by rw [← e30]; exact x_up_k (by decide)
      have q43 : h20 0 9 = h11 0 9 := f22 0 9 (by decide +kernel)
      have q44 : h11 0 9 = h 0 9 := by rw [← e13]; exact x_up_k (Ne.symm (tne_0_0 t7))
      have t45 : tw (h 0 9) := hJ.2.2.1
      have b46 := jB (e := 7) 0 hJ (rg_T0_7_0_1 t7) (by first | decide | omega) (by first | decide | omega)
      have e47 : tv h 0 = (h (h 0 8) 7) := (congrArg (fun z => svq h z 0) rfl).trans rfl
      have q48 : h33 0 8 = h28 0 8 := by rw [← e35]; exact x_up_k (by decide)
      have q49 : h28 0 8 = h20 0 8 := by rw [← e30]; exact x_up_k (by decide)
      have q50 : h20 0 8 = h11 0 8 := f22 0 8 (by decide +kernel)
      have q51 : h11 0 8 = h 0 8 := by rw [← e13]; exact x_up_k (Ne.symm (tne_0_0 t7))
      have q52 : h33 (h 0 8) 7 = h28 (h 0 8) 7 := by rw [← e35]; exact x_up_k (tne_0_69 t7)
      have q53 : h28 (h 0 8) 7 = h20 (h 0 8) 7 := by rw [← e30]; exact x_up_k (tne_0_63 t7)
      have q54 : h20 (h 0 8) 7 = h11 (h 0 8) 7 := jK 0 f22 (rg_T0_7_0_1 t7) (by first | decide | omega) (by first | decide | omega) (by decide)
      have q55 : h11 (h 0 8) 7 = a1 := by rw [← e13]; exact x_up_at
      have e56 : tv h33 0 = a1 := (congrArg (fun z => svq h33 z 0) (((q48.trans q49).trans q50).trans q51)).trans (((q52.trans q53).trans q54).trans q55)
      have e57 : tv h 1 = (h (h 0 8) 8) := (congrArg (fun z => svq h z 1) rfl).trans rfl
      have q58 : h33 0 8 = h28 0 8 := by rw [← e35]; exact x_up_k (by decide)
      have q59 : h28 0 8 = h20 0 8 := by rw [← e30]; exact x_up_k (by decide)
      have q60 : h20 0 8 = h11 0 8 := f22 0 8 (by decide +kernel)
      have q61 : h11 0 8 = h 0 8 := by rw [← e13]; exact x_up_k (Ne.symm (tne_0_0 t7))
      have q62 : h33 (h 0 8) 8 = h28 (h 0 8) 8 := by rw [← e35]; exact x_up_k (tne_0_69 t7)
      have q63 : h28 (h 0 8) 8 = h20 (h 0 8) 8 := by rw [← e30]; exact x_up_k (tne_0_63 t7)
      have q64 : h20 (h 0 8) 8 = h11 (h 0 8) 8 := jK 0 f22 (rg_T0_8_0_1 t7) (by first | decide | omega) (by first | decide | omega) (by decide)
      have q65 : h11 (h 0 8) 8 = h (h 0 8) 8 := by rw [← e13]; exact x_up_i (by first | decide | omega)
      have e66 : tv h33 1 = (h (h 0 8) 8) := (congrArg (fun z => svq h33 z 1) (((q58.trans q59).trans q60).trans q61)).trans (((q62.trans q63).trans q64).trans q65)
      have b67 := jB (e := 2) 0 hJ (rg_T1_2_0_1 t7) (by first | decide | omega) (by first | decide | omega)
      have e68 : tv h 2 = (h ((h 0 8) + 1) 2) := (congrArg (fun z => svq h z 2) rfl).trans rfl
      have q69 : h33 0 8 = h28 0 8 := by rw [← e35]; exact x_up_k (by decide)
      have q70 : h28 0 8 = h20 0 8 := by rw [← e30]; exact x_up_k (by decide)
      have q71 : h20 0 8 = h11 0 8 := f22 0 8 (by decide +kernel)
      have q72 : h11 0 8 = h 0 8 := by rw [← e13]; exact x_up_k (Ne.symm (tne_0_0 t7))
      have q73 : h33 ((h 0 8) + 1) 2 = h28 ((h 0 8) + 1) 2 := by rw [← e35]; exact x_up_k (tne_1_69 t7)
      have q74 : h28 ((h 0 8) + 1) 2 = h20 ((h 0 8) + 1) 2 := by rw [← e30]; exact x_up_k (tne_1_63 t7)
      have q75 : h20 ((h 0 8) + 1) 2 = h11 ((h 0 8) + 1) 2 := jK 0 f22 (rg_T1_2_0_1 t7) (by first | decide | omega) (by first | decide | omega) (by decide)
      have q76 : h11 ((h 0 8) + 1) 2 = h ((h 0 8) + 1) 2 := by rw [← e13]; exact x_up_k tof_1_0
      have e77 : tv h33 2 = (h ((h 0 8) + 1) 2) := (congrArg (fun z => svq h33 z 2) (((q69.trans q70).trans q71).trans q72)).trans (((q73.trans q74).trans q75).trans q76)
      have b78 := jB (e := 2) 0 hJ (rg_T3_2_0_1 t7) (by first | decide | omega) (by first | decide | omega)
      have e79 : tv h 3 = (h ((h 0 8) + 3) 2) := (congrArg (fun z => svq h z 3) rfl).trans rfl
      have q80 : h33 0 8 = h28 0 8 := by rw [← e35]; exact x_up_k (by decide)
      have q81 : h28 0 8 = h20 0 8 := by rw [← e30]; exact x_up_k (by decide)
      have q82 : h20 0 8 = h11 0 8 := f22 0 8 (by decide +kernel)
      have q83 : h11 0 8 = h 0 8 := by rw [← e13]; exact x_up_k (Ne.symm (tne_0_0 t7))
      have q84 : h33 ((h 0 8) + 3) 2 = h28 ((h 0 8) + 3) 2 := by rw [← e35]; exact x_up_k (tne_3_69 t7)
      have q85 : h28 ((h 0 8) + 3) 2 = h20 ((h 0 8) + 3) 2 := by rw [← e30]; exact x_up_k (tne_3_63 t7)
      have q86 : h20 ((h 0 8) + 3) 2 = h11 ((h 0 8) + 3) 2 := jK 0 f22 (rg_T3_2_0_1 t7) (by first | decide | omega) (by first | decide | omega) (by decide)
      have q87 : h11 ((h 0 8) + 3) 2 = h ((h 0 8) + 3) 2 := by rw [← e13]; exact x_up_k tof_3_0
      have e88 : tv h33 3 = (h ((h 0 8) + 3) 2) := (congrArg (fun z => svq h33 z 3) (((q80.trans q81).trans q82).trans q83)).trans (((q84.trans q85).trans q86).trans q87)
      have b89 := jB (e := 2) 0 hJ (rg_T5_2_0_1 t7) (by first | decide | omega) (by first | decide | omega)
      have e90 : tv h 4 = (h ((h 0 8) + 5) 2) := (congrArg (fun z => svq h z 4) rfl).trans rfl
      have q91 : h33 0 8 = h28 0 8 := by rw [← e35]; exact x_up_k (by decide)
      have q92 : h28 0 8 = h20 0 8 := by rw [← e30]; exact x_up_k (by decide)
      have q93 : h20 0 8 = h11 0 8 := f22 0 8 (by decide +kernel)
      have q94 : h11 0 8 = h 0 8 := by rw [← e13]; exact x_up_k (Ne.symm (tne_0_0 t7))
      have q95 : h33 ((h 0 8) + 5) 2 = h28 ((h 0 8) + 5) 2 := by rw [← e35]; exact x_up_k (tne_5_69 t7)
      have q96 : h28 ((h 0 8) + 5) 2 = h20 ((h 0 8) + 5) 2 := by rw [← e30]; exact x_up_k (tne_5_63 t7)
      have q97 : h20 ((h 0 8) + 5) 2 = h11 ((h 0 8) + 5) 2 := jK 0 f22 (rg_T5_2_0_1 t7) (by first | decide | omega) (by first | decide | omega) (by decide)
      have q98 : h11 ((h 0 8) + 5) 2 = h ((h 0 8) + 5) 2 := by rw [← e13]; exact x_up_k tof_5_0
      have e99 : tv h33 4 = (h ((h 0 8) + 5) 2) := (congrArg (fun z => svq h33 z 4) (((q91.trans q92).trans q93).trans q94)).trans (((q95.trans q96).trans q97).trans q98)
      have b100 := jB (e := 2) 0 hJ (rg_T7_2_0_1 t7) (by first | decide | omega) (by first | decide | omega)
      have e101 : tv h 5 = (h ((h 0 8) + 7) 2) := (congrArg (fun z => svq h z 5) rfl).trans rfl
      have q102 : h33 0 8 = h28 0 8 := by rw [← e35]; exact x_up_k (by decide)
      have q103 : h28 0 8 = h20 0 8 := by rw [← e30]; exact x_up_k (by decide)
      have q104 : h20 0 8 = h11 0 8 := f22 0 8 (by decide +kernel)
      have q105 : h11 0 8 = h 0 8 := by rw [← e13]; exact x_up_k (Ne.symm (tne_0_0 t7))
      have q106 : h33 ((h 0 8) + 7) 2 = h28 ((h 0 8) + 7) 2 := by rw [← e35]; exact x_up_k (tne_7_69 t7)
      have q107 : h28 ((h 0 8) + 7) 2 = h20 ((h 0 8) + 7) 2 := by rw [← e30]; exact x_up_k (tne_7_63 t7)
      have q108 : h20 ((h 0 8) + 7) 2 = h11 ((h 0 8) + 7) 2 := jK 0 f22 (rg_T7_2_0_1 t7) (by first | decide | omega) (by first | decide | omega) (by decide)
      have q109 : h11 ((h 0 8) + 7) 2 = h ((h 0 8) + 7) 2 := by rw [← e13]; exact x_up_k tof_7_0
      have e110 : tv h33 5 = (h ((h 0 8) + 7) 2) := (congrArg (fun z => svq h33 z 5) (((q102.trans q103).trans q104).trans q105)).trans (((q106.trans q107).trans q108).trans q109)
      have q111 : h33 0 8 = h28 0 8 := by rw [← e35]; exact x_up_k (by decide)
      have q112 : h28 0 8 = h20 0 8 := by rw [← e30]; exact x_up_k (by decide)
      have q113 : h20 0 8 = h11 0 8 := f22 0 8 (by decide +kernel)
      have q114 : h11 0 8 = h 0 8 := by rw [← e13]; exact x_up_k (Ne.symm (tne_0_0 t7))
      have q115 : h33 0 9 = h28 0 9 := by rw [← e35]; exact x_up_k (by decide)
      have q116 : h28 0 9 = h20 0 9 := by rw [← e30]; exact x_up_k (by decide)
      have q117 : h20 0 9 = h11 0 9 := f22 0 9 (by decide +kernel)
      have q118 : h11 0 9 = h 0 9 := by rw [← e13]; exact x_up_k (Ne.symm (tne_0_0 t7))
      have m119 : ∀ b, b < 6 → h28 46 b = al9 (xq h11 (h 0 8) b) := fun b hb => by rw [← e30, x_up_k (by decide)]; exact c25 b hb
      have m120 : ∀ b, b < 6 → h33 46 b = al9 (xq h11 (h 0 8) b) := fun b hb => by rw [← e35, x_up_k (by decide)]; exact m119 b hb
      have m121 : ∀ u, u < 6 → xq h33 (h 0 8) u = xq h11 (h 0 8) u := fun u hu => (Eq.trans (show xq h33 (h 0 8) u = xq h28 (h 0 8) u by rw [← e35]; exact xq_k (@nc_o (h 0 8) 9 69 t7 (by decide))) (Eq.trans (show xq h28 (h 0 8) u = xq h20 (h 0 8) u by rw [← e30]; exact xq_k (@nc_o (h 0 8) 9 63 t7 (by decide))) (xq_gr t7 f22 (by decide) u hu)))
      refine x_retV (np := 54) (x := 0) (by decide +kernel) (by decide +kernel) (Or.inl ⟨rfl, ?_⟩)
      exact ⟨j34, f36, (by first | decide | omega), (by first | decide | omega), (by first | decide | omega), (by first | decide | omega), (by first | decide | omega), (by first | decide | omega), (by first | decide | omega), (by first | decide | omega), (by first | decide | omega), (((q37.trans q38).trans q39).trans q40), (((q41.trans q42).trans q43).trans q44), (fun b hb => (m120 b hb).trans (congrArg al9 (((congrArg (fun z => svq h33 z (12 + b)) (((q111.trans q112).trans q113).trans q114)).trans (svq_x b hb)).trans (m121 b hb)).symm))⟩
    have q10 : ¬ ((h (h 0 8) 8) ≤ 2147483648) := q10
    have e122 : tv h 1 = (h (h 0 8) 8) := (congrArg (fun z => svq h z 1) rfl).trans rfl
    refine x_thr (np := 34) (x := 1) (by decide +kernel) (by decide +kernel) (Nat.le_trans x_wn (by decide)) (Or.inr ⟨_, rfl, ?_⟩)
    exact ⟨hJ, hF, by decide, (Or.inr ⟨rfl, by first | decide | omega, by first | decide | omega, by first | decide | omega⟩), rfl⟩
  have q6 : ¬ (a1 ≤ 2147483654) := q6
  have t123 : tw (h 0 8) := hJ.2.1
  have e124 : tv h 1 = (h (h 0 8) 8) := (congrArg (fun z => svq h z 1) rfl).trans rfl
  refine x_thr (np := 14) (x := 0) (by decide +kernel) (by decide +kernel) (Nat.le_trans x_wn (by decide)) (Or.inr ⟨_, rfl, ?_⟩)
  exact ⟨hJ, hF, by decide, (Or.inl ⟨rfl, by first | decide | omega⟩), rfl⟩
set_option maxHeartbeats 0 in
/-- LentNamesLaw.people(LLentNames;I)I -/
theorem c283_0 {sc : Nat × Nat} {d a1 : Nat} {h : xh} (hJ : J h) (ba1 : 0 ≤ a1 ∧ a1 ≤ 4294967295) : X sc 283 (d + 8) (xI fun r h' => J h' ∧ Fr 576882964768595457 h h' ∧ (2147483648 ≤ r ∧ r ≤ 2147483650) ∧ Pc h h' a1 r) 0 0 0 [x_r 0, iv_c a1, 147573952589676412928] [] h := by
  have la1 : a1 < 4294967296 := by first | decide | omega
  have hF := Fr.refl 576882964768595457 h
  refine x_aload (np := 1) (x := 0) (by decide +kernel) rfl (x_nc_le (by decide)) ?_
  refine x_iload (np := 2) (x := 1) (by decide +kernel) rfl la1 ?_
  refine x_cTU (t := 6) (mj := 109) (n := 2) (rc := 11) (ml := 2) (cc := 1) (ss := 6) (nr := 0) (np := 5) (as := [x_r 0, iv_c a1]) (rest := []) (lo1 := [x_r 0, iv_c a1]) (by decide +kernel) (by decide) (by decide +kernel) (x_rb_of (by decide +kernel)) rfl rfl (x_wr (by decide) (x_wi la1 x_wn)) x_wn (by decide) rfl (c109_0 hJ  (by first | decide | omega)) (fun h18 q17 => ?_) (fun E20 h21 q19 => ?_)
  · obtain ⟨j22, f23, c1, c2, c3, c4, c5, c6, c7, c8, c9, c10, c11, c12⟩ := q17
    have f25 := Fr.trans hF f23 (by decide)
    refine x_goto (np := 8) (x := 14) (by decide +kernel) ?_
    refine x_const (np := 15) (x := 9223372039002259456) (a := 2147483648) (by decide +kernel) (by decide) (by decide) ?_
    refine x_retI (np := 16) (x := 0) (by decide +kernel) (by decide) (Or.inl (by decide +kernel)) ⟨_, rfl, (by decide), ?_⟩
    exact ⟨j22, f25, (by first | decide | omega), (Or.inl ⟨by first | decide | omega, c1, c2, c3, c4, c5, c6, c7, c8, c9, c10, c11, c12⟩)⟩
  obtain ⟨j26, f27, e28, c13, c14⟩ := q19
  have f29 := Fr.trans hF f27 (by decide)
  rcases e28 with rfl | rfl
  · refine ⟨8, fun _ _ => rfl, ?_⟩
    refine x_astE (np := 9) (x := 2) (lo' := [x_r 0, iv_c a1, 55340232221128654850]) (by decide +kernel) (Nat.le_of_ble_eq_true rfl) rfl ?_
    refine x_const (np := 10) (x := 9223372043297226753) (a := 2147483649) (by decide +kernel) (by decide) (by decide) ?_
    refine x_retI (np := 11) (x := 0) (by decide +kernel) (by decide) (Or.inl (by decide +kernel)) ⟨_, rfl, (by decide), ?_⟩
    exact ⟨j26, f29, (by first | decide | omega), (Or.inr (Or.inl ⟨by first | decide | omega, c13.elim (fun z => z.2) (fun z => absurd z.1 (by decide)), c14⟩))⟩
  · refine ⟨11, fun _ _ => rfl, ?_⟩
    refine x_astE (np := 12) (x := 2) (lo' := [x_r 0, iv_c a1, 55340232221128654850]) (by decide +kernel) (Nat.le_of_ble_eq_true rfl) rfl ?_
    refine x_const (np := 13) (x := 9223372047592194050) (a := 2147483650) (by decide +kernel) (by decide) (by decide) ?_
    refine x_retI (np := 14) (x := 0) (by decide +kernel) (by decide) (Or.inl (by decide +kernel)) ⟨_, rfl, (by decide), ?_⟩
    exact ⟨j26, f29, (by first | decide | omega), (Or.inr (Or.inr ⟨by first | decide | omega, c13.elim (fun z => absurd z.1 (by decide)) (fun z => z.2), c14⟩))⟩
set_option maxHeartbeats 0 in
/-- LentNames.bears(II)I -/
theorem c110_0 {sc : Nat × Nat} {d a1 a2 : Nat} {h : xh} (hJ : J h) (ba1 : 0 ≤ a1 ∧ a1 ≤ 4294967295) (ba2 : 0 ≤ a2 ∧ a2 ≤ 4294967295) : X sc 110 (d + 2) (xT (fun r h' => J h' ∧ Fr 0 h h' ∧ (2147483647 ≤ r ∧ r ≤ 2147483653)) (fun E h' => J h' ∧ Fr 0 h h' ∧ (E = 2))) 0 0 0 [x_r 0, iv_c a1, iv_c a2] [] h := by
  have la1 : a1 < 4294967296 := by first | decide | omega
  have la2 : a2 < 4294967296 := by first | decide | omega
  have hF := Fr.refl 0 h
  refine x_aload (np := 1) (x := 0) (by decide +kernel) rfl (x_nc_le (by decide)) ?_
  refine x_iload (np := 2) (x := 1) (by decide +kernel) rfl la1 ?_
  refine x_nU (t := 6) (mj := 144) (n := 2) (rc := 11) (ml := 2) (cc := 1) (ss := 6) (nr := 0) (np := 5) (as := [x_r 0, iv_c a1]) (rest := []) (lo1 := [x_r 0, iv_c a1]) (by decide +kernel) (by decide) (by decide +kernel) (by decide +kernel) (x_rb_of (by decide +kernel)) rfl rfl (x_wr (by decide) (x_wi la1 x_wn)) x_wn (by decide) rfl ?_
  refine x_iload (np := 1) (x := 1) (by decide +kernel) rfl la1 ?_
  refine x_ifz (k := 2) (tg := 15) (np := 4) (by decide +kernel) (by decide) la1 (fun q1 => ?_) (fun q2 => ?_)
  · have q1 : a1 < 2147483648 := q1
    refine x_thr (np := 18) (x := 2) (by decide +kernel) (by decide +kernel) (Nat.le_trans x_wn (by decide)) (Or.inr ⟨_, rfl, ?_⟩)
    refine Or.inr ⟨_, rfl, ?_⟩
    exact ⟨hJ, hF, by decide⟩
  have q2 : ¬ (a1 < 2147483648) := q2
  refine x_iload (np := 5) (x := 1) (by decide +kernel) rfl la1 ?_
  refine x_aload (np := 6) (x := 0) (by decide +kernel) rfl (x_nc_le (by decide)) ?_
  have t3 : tw (h 0 8) := hJ.2.1
  refine x_getR (np := 9) (x := 648) (f := 8) (q := (h 0 8)) (by decide +kernel) (by decide) (by decide +kernel) rfl ?_
  have b4 := jB (e := 7) 0 hJ (rg_T0_7_0_1 t3) (by first | decide | omega) (by first | decide | omega)
  refine x_getC (np := 12) (x := 519) (f := 7) (q := (h (h 0 8) 7)) (by decide +kernel) (by decide) (tg_0_519_7_0 t3) rfl (fun l5 => ?_)
  refine x_icmp (k := 2) (tg := 26) (np := 15) (by decide +kernel) (by decide) la1 l5 (fun q6 => ?_) (fun q7 => ?_)
  · have q6 : a1 < (h (h 0 8) 7) := q6
    refine x_retV (np := 27) (x := 0) (by decide +kernel) (by decide +kernel) (Or.inl ⟨rfl, ?_⟩)
    refine x_iload (np := 6) (x := 2) (by decide +kernel) rfl la2 ?_
    refine x_nU (t := 0) (mj := 146) (n := 1) (rc := 0) (ml := 1) (cc := 1) (ss := 6) (nr := 0) (np := 9) (as := [iv_c a2]) (rest := []) (lo1 := [iv_c a2]) (by decide +kernel) (by decide) (by decide +kernel) (by decide +kernel) (Or.inl rfl) rfl rfl (x_wi la2 x_wn) x_wn (by decide) rfl ?_
    refine x_iload (np := 1) (x := 0) (by decide +kernel) rfl la2 ?_
    refine x_ifz (k := 2) (tg := 10) (np := 4) (by decide +kernel) (by decide) la2 (fun q8 => ?_) (fun q9 => ?_)
    · have q8 : a2 < 2147483648 := q8
      refine x_thr (np := 13) (x := 2) (by decide +kernel) (by decide +kernel) (Nat.le_trans x_wn (by decide)) (Or.inr ⟨_, rfl, ?_⟩)
      refine Or.inr ⟨_, rfl, ?_⟩
      exact ⟨hJ, hF, by decide⟩
    have q9 : ¬ (a2 < 2147483648) := q9
    refine x_iload (np := 5) (x := 0) (by decide +kernel) rfl la2 ?_
    refine x_const (np := 7) (x := 9223372090541867020) (a := 2147483660) (by decide +kernel) (by decide) (by decide) ?_
    refine x_icmp (k := 2) (tg := 21) (np := 10) (by decide +kernel) (by decide) la2 (by decide) (fun q10 => ?_) (fun q11 => ?_)
    · have q10 : a2 < 2147483660 := q10
      refine x_retV (np := 22) (x := 0) (by decide +kernel) (by decide +kernel) (Or.inl ⟨rfl, ?_⟩)
      refine x_aload (np := 10) (x := 0) (by decide +kernel) rfl (x_nc_le (by decide)) ?_
      have q12 : h 0 1 = 45 := by have z := jB (e := 1) 0 hJ rg_0_1_0_1 (by decide) (by decide); omega
      refine x_getR (np := 13) (x := 641) (f := 1) (q := 45) (by decide +kernel) (by decide) (by decide +kernel) q12 ?_
      refine x_iload (np := 14) (x := 1) (by decide +kernel) rfl la1 ?_
      refine x_iload (np := 15) (x := 2) (by decide +kernel) rfl la2 ?_
      refine x_cP (t := 6) (mj := 5) (n := 3) (rc := 2) (ml := 3) (nr := 0) (np := 18) (as := [x_r 45, iv_c a1, iv_c a2]) (rest := []) (lo1 := [x_r 45, iv_c a1, iv_c a2]) (by decide +kernel) (by decide) (by decide +kernel) (x_rb_of (by decide +kernel)) rfl rfl (x_wr (by decide) (x_wi la1 (x_wi la2 x_wn))) x_wn (by decide) rfl (c5_45 hJ  (by first | decide | omega) (by first | decide | omega)) (fun v13 l14 q15 => ?_)
      refine x_retI (np := 19) (x := 0) (by decide +kernel) l14 (Or.inl (by decide +kernel)) (Or.inl ⟨_, rfl, l14, ?_⟩)
      exact ⟨hJ, hF, (by first | decide | omega)⟩
    have q11 : ¬ (a2 < 2147483660) := q11
    refine x_thr (np := 13) (x := 2) (by decide +kernel) (by decide +kernel) (Nat.le_trans x_wn (by decide)) (Or.inr ⟨_, rfl, ?_⟩)
    refine Or.inr ⟨_, rfl, ?_⟩
    exact ⟨hJ, hF, by decide⟩
  have q7 : ¬ (a1 < (h (h 0 8) 7)) := q7
  refine x_thr (np := 18) (x := 2) (by decide +kernel) (by decide +kernel) (Nat.le_trans x_wn (by decide)) (Or.inr ⟨_, rfl, ?_⟩)
  refine Or.inr ⟨_, rfl, ?_⟩
  exact ⟨hJ, hF, by decide⟩
set_option maxHeartbeats 0 in
/-- LentNamesLaw.bears(LLentNames;II[J)I -/
theorem c284_0_97 {sc : Nat × Nat} {d a1 a2 : Nat} {h : xh} (hJ : J h) (ba1 : 0 ≤ a1 ∧ a1 ≤ 4294967295) (ba2 : 0 ≤ a2 ∧ a2 ≤ 4294967295) : X sc 284 (d + 3) (xI fun r h' => J h' ∧ Fr 70368744177664 h h' ∧ (2147483648 ≤ r ∧ r ≤ 2147483649)) 0 0 0 [x_r 0, iv_c a1, iv_c a2, x_r 97, 147573952589676412928] [] h := by
  have la1 : a1 < 4294967296 := by first | decide | omega
  have la2 : a2 < 4294967296 := by first | decide | omega
  have hF := Fr.refl 70368744177664 h
  refine x_aload (np := 1) (x := 3) (by decide +kernel) rfl (x_nc_le (by decide)) ?_
  refine x_const (np := 2) (x := 9223372039002259456) (a := 2147483648) (by decide +kernel) (by decide) (by decide) ?_
  refine x_aload (np := 3) (x := 0) (by decide +kernel) rfl (x_nc_le (by decide)) ?_
  refine x_iload (np := 4) (x := 1) (by decide +kernel) rfl la1 ?_
  refine x_iload (np := 5) (x := 2) (by decide +kernel) rfl la2 ?_
  refine x_cT (t := 6) (mj := 110) (n := 3) (rc := 11) (ml := 3) (cc := 2) (ss := 12) (nr := 2) (np := 8) (as := [x_r 0, iv_c a1, iv_c a2]) (rest := [iv_c 2147483648, x_r 97]) (lo1 := [x_r 0, iv_c a1, iv_c a2]) (by decide +kernel) (by decide) (by decide +kernel) (x_rb_of (by decide +kernel)) rfl rfl (x_wr (by decide) (x_wi la1 (x_wi la2 x_wn))) (x_wi (by decide) (x_wr (by decide) x_wn)) (by decide) rfl (c110_0 hJ  (by first | decide | omega) (by first | decide | omega)) (fun v1 h4 l2 q3 => ?_) (fun E6 h7 q5 => ?_)
  · obtain ⟨j8, f9, b10⟩ := q3
    have f11 := Fr.trans hF f9 (by decide)
    refine x_i2l (np := 9) (x := 0) (by decide +kernel) l2 ?_
    refine x_last (np := 10) (x := 0) (n := 1) (i := 0) (by decide +kernel) (by decide) (by decide +kernel) (by decide +kernel) (by first | decide | omega) (by first | decide | omega) (by decide) l2 ?_
    have j13 := jU (e := 0) (v := v1) 0 j8 rg_97_0_1_1 (by first | decide | omega) (by first | decide | omega) (by first | decide | omega)
    have f15 := jF (e := 0) (v := v1) 0 f11 rg_97_0_1_1 (by first | decide | omega) (by first | decide | omega) (by decide)
    generalize e14 : x_up h4 97 0 v1 = h12 at j13 f15 ⊢
    refine x_goto (np := 13) (x := 17) (by decide +kernel) ?_
    refine x_const (np := 18) (x := 9223372039002259456) (a := 2147483648) (by decide +kernel) (by decide) (by decide) ?_
    refine x_retI (np := 19) (x := 0) (by decide +kernel) (by decide) (Or.inl (by decide +kernel)) ⟨_, rfl, (by decide), ?_⟩
    exact ⟨j13, f15, (by first | decide | omega)⟩
  obtain ⟨j16, f17, e18⟩ := q5
  have f19 := Fr.trans hF f17 (by decide)
  rcases e18 with rfl
  · refine ⟨13, fun _ _ => rfl, ?_⟩
    refine x_astE (np := 15) (x := 4) (lo' := [x_r 0, iv_c a1, iv_c a2, x_r 97, 55340232221128654850]) (by decide +kernel) (Nat.le_of_ble_eq_true rfl) rfl ?_
    refine x_const (np := 16) (x := 9223372043297226753) (a := 2147483649) (by decide +kernel) (by decide) (by decide) ?_
    refine x_retI (np := 17) (x := 0) (by decide +kernel) (by decide) (Or.inl (by decide +kernel)) ⟨_, rfl, (by decide), ?_⟩
    exact ⟨j16, f19, (by first | decide | omega)⟩
set_option maxHeartbeats 0 in
/-- LentNames$Calendar.namesOf(II)I -/
theorem c8_45 {sc : Nat × Nat} {d a1 a2 : Nat} {h : xh} (hJ : J h) (ba1 : 2147483648 ≤ a1 ∧ a1 ≤ 2147483653) (ba2 : 2147483648 ≤ a2 ∧ a2 ≤ 2147483659) : X sc 8 (d + 2) (xI fun r h' => h' = h ∧ (0 ≤ r ∧ r ≤ 4294967295)) 0 0 0 [x_r 45, iv_c a1, iv_c a2, 147573952589676412928, 147573952589676412928] [] h := by
  have la1 : a1 < 4294967296 := by first | decide | omega
  have la2 : a2 < 4294967296 := by first | decide | omega
  refine x_const (np := 1) (x := 9223372039002259456) (a := 2147483648) (by decide +kernel) (by decide) (by decide) ?_
  refine x_istore (np := 2) (x := 3) (lo' := [x_r 45, iv_c a1, iv_c a2, iv_c 2147483648, 147573952589676412928]) (by decide +kernel) (by decide) (Nat.le_of_ble_eq_true rfl) rfl ?_
  refine x_const (np := 3) (x := 9223372039002259456) (a := 2147483648) (by decide +kernel) (by decide) (by decide) ?_
  refine x_istore (np := 5) (x := 4) (lo' := [x_r 45, iv_c a1, iv_c a2, iv_c 2147483648, iv_c 2147483648]) (by decide +kernel) (by decide) (Nat.le_of_ble_eq_true rfl) rfl ?_
  have p113 : ∀ (n : Nat) (v109 : Nat) (v111 : Nat), 4294967296 - v111 < n → (0 ≤ v109 ∧ v109 ≤ 4294967295) → (2147483648 ≤ v111 ∧ v111 ≤ 2147483654) → X sc 8 (d + 2) (xI fun r h' => h' = h ∧ (0 ≤ r ∧ r ≤ 4294967295)) 0 0 5 [x_r 45, iv_c a1, iv_c a2, iv_c v109, iv_c v111] [] h := by
    intro n
    induction n with
    | zero => intro v109 v111 q114; exact absurd q114 (Nat.not_lt_zero _)
    | succ n i115 =>
      intro v109 v111 q114 b110 b112
      refine x_iload (np := 7) (x := 4) (by decide +kernel) rfl (by first | decide | omega) ?_
      refine x_aload (np := 8) (x := 0) (by decide +kernel) rfl (x_nc_le (by decide)) ?_
      have t116 : tw (h 45 5) := hJ.2.2.2.1
      refine x_getR (np := 11) (x := 69) (f := 5) (q := (h 45 5)) (by decide +kernel) (by decide) (by decide +kernel) rfl ?_
      have b117 := jB (e := 7) 0 hJ (rg_T0_7_0_1 t116) (by first | decide | omega) (by first | decide | omega)
      refine x_getC (np := 14) (x := 519) (f := 7) (q := (h (h 45 5) 7)) (by decide +kernel) (by decide) (tg_0_519_7_0 t116) rfl (fun l118 => ?_)
      refine x_icmp (k := 3) (tg := 41) (np := 17) (by decide +kernel) (by decide) (by first | decide | omega) l118 (fun q119 => ?_) (fun q120 => ?_)
      · have q119 : (h (h 45 5) 7) ≤ v111 := q119
        refine x_iload (np := 42) (x := 3) (by decide +kernel) rfl (by first | decide | omega) ?_
        refine x_retI (np := 43) (x := 0) (by decide +kernel) (by first | decide | omega) (Or.inl (by decide +kernel)) ⟨_, rfl, (by first | decide | omega), ?_⟩
        exact ⟨rfl, (by first | decide | omega)⟩
      have q120 : ¬ ((h (h 45 5) 7) ≤ v111) := q120
      refine x_aload (np := 18) (x := 0) (by decide +kernel) rfl (x_nc_le (by decide)) ?_
      refine x_iload (np := 20) (x := 4) (by decide +kernel) rfl (by first | decide | omega) ?_
      refine x_iload (np := 21) (x := 2) (by decide +kernel) rfl la2 ?_
      refine x_cP (t := 6) (mj := 5) (n := 3) (rc := 2) (ml := 3) (nr := 0) (np := 24) (as := [x_r 45, iv_c v111, iv_c a2]) (rest := []) (lo1 := [x_r 45, iv_c v111, iv_c a2]) (by decide +kernel) (by decide) (by decide +kernel) (x_rb_of (by decide +kernel)) rfl rfl (x_wr (by decide) (x_wi (by first | decide | omega) (x_wi la2 x_wn))) x_wn (by decide) rfl (c5_45 hJ  (by first | decide | omega) (by first | decide | omega)) (fun v121 l122 q123 => ?_)
      refine x_iload (np := 25) (x := 1) (by decide +kernel) rfl la1 ?_
      refine x_icmp (k := 1) (tg := 35) (np := 28) (by decide +kernel) (by decide) l122 la1 (fun q124 => ?_) (fun q125 => ?_)
      · have q124 : v121 ≠ a1 := q124
        refine x_iinc (np := 38) (i := 4) (j := 2147483649) (v := (1 + v111)) (lo' := [x_r 45, iv_c a1, iv_c a2, iv_c v109, iv_c (1 + v111)]) (by decide +kernel) (by decide) (by decide) rfl (by first | decide | omega) (by first | decide | omega) (by first | decide | omega) rfl ?_
        refine x_goto (np := 41) (x := 5) (by decide +kernel) ?_
        exact i115 v109 (1 + v111) (by first | decide | omega) (by first | decide | omega) (by first | decide | omega)
      have q125 : ¬ (v121 ≠ a1) := q125
      refine x_iload (np := 29) (x := 3) (by decide +kernel) rfl (by first | decide | omega) ?_
      refine x_const (np := 30) (x := 9223372043297226753) (a := 2147483649) (by decide +kernel) (by decide) (by decide) ?_
      refine x_iload (np := 32) (x := 4) (by decide +kernel) rfl (by first | decide | omega) ?_
      refine x_any (np := 33) (k9 := 3) (by decide +kernel) (by decide) (by decide) (by first | decide | omega) (fun v126 l127 => ?_)
      refine x_any (np := 34) (k9 := 1) (by decide +kernel) (by decide) (by first | decide | omega) l127 (fun v128 l129 => ?_)
      refine x_istore (np := 35) (x := 3) (lo' := [x_r 45, iv_c a1, iv_c a2, iv_c v128, iv_c v111]) (by decide +kernel) l129 (Nat.le_of_ble_eq_true rfl) rfl ?_
      refine x_iinc (np := 38) (i := 4) (j := 2147483649) (v := (1 + v111)) (lo' := [x_r 45, iv_c a1, iv_c a2, iv_c v128, iv_c (1 + v111)]) (by decide +kernel) (by decide) (by decide) rfl (by first | decide | omega) (by first | decide | omega) (by first | decide | omega) rfl ?_
      refine x_goto (np := 41) (x := 5) (by decide +kernel) ?_
      exact i115 v128 (1 + v111) (by first | decide | omega) (by first | decide | omega) (by first | decide | omega)
  exact p113 _ 2147483648 2147483648 (Nat.lt_succ_self _) (by first | decide | omega) (by first | decide | omega)
set_option maxHeartbeats 0 in
/-- LentNames.names(II)I -/
theorem c111_0 {sc : Nat × Nat} {d a1 a2 : Nat} {h : xh} (hJ : J h) (ba1 : 0 ≤ a1 ∧ a1 ≤ 4294967295) (ba2 : 0 ≤ a2 ∧ a2 ≤ 4294967295) : X sc 111 (d + 3) (xT (fun r h' => J h' ∧ Fr 0 h h' ∧ (0 ≤ r ∧ r ≤ 4294967295)) (fun E h' => J h' ∧ Fr 0 h h' ∧ (E = 2))) 0 0 0 [x_r 0, iv_c a1, iv_c a2] [] h := by
  have la1 : a1 < 4294967296 := by first | decide | omega
  have la2 : a2 < 4294967296 := by first | decide | omega
  have hF := Fr.refl 0 h
  refine x_aload (np := 1) (x := 0) (by decide +kernel) rfl (x_nc_le (by decide)) ?_
  refine x_iload (np := 2) (x := 1) (by decide +kernel) rfl la1 ?_
  refine x_nU (t := 6) (mj := 145) (n := 2) (rc := 11) (ml := 2) (cc := 1) (ss := 6) (nr := 0) (np := 5) (as := [x_r 0, iv_c a1]) (rest := []) (lo1 := [x_r 0, iv_c a1]) (by decide +kernel) (by decide) (by decide +kernel) (by decide +kernel) (x_rb_of (by decide +kernel)) rfl rfl (x_wr (by decide) (x_wi la1 x_wn)) x_wn (by decide) rfl ?_
  refine x_iload (np := 1) (x := 1) (by decide +kernel) rfl la1 ?_
  refine x_ifz (k := 2) (tg := 15) (np := 4) (by decide +kernel) (by decide) la1 (fun q1 => ?_) (fun q2 => ?_)
  · have q1 : a1 < 2147483648 := q1
    refine x_thr (np := 18) (x := 2) (by decide +kernel) (by decide +kernel) (Nat.le_trans x_wn (by decide)) (Or.inr ⟨_, rfl, ?_⟩)
    refine Or.inr ⟨_, rfl, ?_⟩
    exact ⟨hJ, hF, by decide⟩
  have q2 : ¬ (a1 < 2147483648) := q2
  refine x_iload (np := 5) (x := 1) (by decide +kernel) rfl la1 ?_
  refine x_aload (np := 6) (x := 0) (by decide +kernel) rfl (x_nc_le (by decide)) ?_
  have t3 : tw (h 0 8) := hJ.2.1
  refine x_getR (np := 9) (x := 648) (f := 8) (q := (h 0 8)) (by decide +kernel) (by decide) (by decide +kernel) rfl ?_
  have b4 := jB (e := 7) 0 hJ (rg_T0_7_0_1 t3) (by first | decide | omega) (by first | decide | omega)
  refine x_getC (np := 12) (x := 519) (f := 7) (q := (h (h 0 8) 7)) (by decide +kernel) (by decide) (tg_0_519_7_0 t3) rfl (fun l5 => ?_)
  refine x_icmp (k := 2) (tg := 26) (np := 15) (by decide +kernel) (by decide) la1 l5 (fun q6 => ?_) (fun q7 => ?_)
  · have q6 : a1 < (h (h 0 8) 7) := q6
    refine x_retV (np := 27) (x := 0) (by decide +kernel) (by decide +kernel) (Or.inl ⟨rfl, ?_⟩)
    refine x_iload (np := 6) (x := 2) (by decide +kernel) rfl la2 ?_
    refine x_nU (t := 0) (mj := 146) (n := 1) (rc := 0) (ml := 1) (cc := 1) (ss := 6) (nr := 0) (np := 9) (as := [iv_c a2]) (rest := []) (lo1 := [iv_c a2]) (by decide +kernel) (by decide) (by decide +kernel) (by decide +kernel) (Or.inl rfl) rfl rfl (x_wi la2 x_wn) x_wn (by decide) rfl ?_
    refine x_iload (np := 1) (x := 0) (by decide +kernel) rfl la2 ?_
    refine x_ifz (k := 2) (tg := 10) (np := 4) (by decide +kernel) (by decide) la2 (fun q8 => ?_) (fun q9 => ?_)
    · have q8 : a2 < 2147483648 := q8
      refine x_thr (np := 13) (x := 2) (by decide +kernel) (by decide +kernel) (Nat.le_trans x_wn (by decide)) (Or.inr ⟨_, rfl, ?_⟩)
      refine Or.inr ⟨_, rfl, ?_⟩
      exact ⟨hJ, hF, by decide⟩
    have q9 : ¬ (a2 < 2147483648) := q9
    refine x_iload (np := 5) (x := 0) (by decide +kernel) rfl la2 ?_
    refine x_const (np := 7) (x := 9223372090541867020) (a := 2147483660) (by decide +kernel) (by decide) (by decide) ?_
    refine x_icmp (k := 2) (tg := 21) (np := 10) (by decide +kernel) (by decide) la2 (by decide) (fun q10 => ?_) (fun q11 => ?_)
    · have q10 : a2 < 2147483660 := q10
      refine x_retV (np := 22) (x := 0) (by decide +kernel) (by decide +kernel) (Or.inl ⟨rfl, ?_⟩)
      refine x_aload (np := 10) (x := 0) (by decide +kernel) rfl (x_nc_le (by decide)) ?_
      have q12 : h 0 1 = 45 := by have z := jB (e := 1) 0 hJ rg_0_1_0_1 (by decide) (by decide); omega
      refine x_getR (np := 13) (x := 641) (f := 1) (q := 45) (by decide +kernel) (by decide) (by decide +kernel) q12 ?_
      refine x_iload (np := 14) (x := 1) (by decide +kernel) rfl la1 ?_
      refine x_iload (np := 15) (x := 2) (by decide +kernel) rfl la2 ?_
      refine x_cP (t := 6) (mj := 8) (n := 3) (rc := 2) (ml := 5) (nr := 0) (np := 18) (as := [x_r 45, iv_c a1, iv_c a2]) (rest := []) (lo1 := [x_r 45, iv_c a1, iv_c a2, 147573952589676412928, 147573952589676412928]) (by decide +kernel) (by decide) (by decide +kernel) (x_rb_of (by decide +kernel)) rfl rfl (x_wr (by decide) (x_wi la1 (x_wi la2 x_wn))) x_wn (by decide) rfl (c8_45 hJ  (by first | decide | omega) (by first | decide | omega)) (fun v13 l14 q15 => ?_)
      refine x_retI (np := 19) (x := 0) (by decide +kernel) l14 (Or.inl (by decide +kernel)) (Or.inl ⟨_, rfl, l14, ?_⟩)
      exact ⟨hJ, hF, (by first | decide | omega)⟩
    have q11 : ¬ (a2 < 2147483660) := q11
    refine x_thr (np := 13) (x := 2) (by decide +kernel) (by decide +kernel) (Nat.le_trans x_wn (by decide)) (Or.inr ⟨_, rfl, ?_⟩)
    refine Or.inr ⟨_, rfl, ?_⟩
    exact ⟨hJ, hF, by decide⟩
  have q7 : ¬ (a1 < (h (h 0 8) 7)) := q7
  refine x_thr (np := 18) (x := 2) (by decide +kernel) (by decide +kernel) (Nat.le_trans x_wn (by decide)) (Or.inr ⟨_, rfl, ?_⟩)
  refine Or.inr ⟨_, rfl, ?_⟩
  exact ⟨hJ, hF, by decide⟩
set_option maxHeartbeats 0 in
/-- LentNamesLaw.names(LLentNames;II[J)I -/
theorem c285_0_97 {sc : Nat × Nat} {d a1 a2 : Nat} {h : xh} (hJ : J h) (ba1 : 0 ≤ a1 ∧ a1 ≤ 4294967295) (ba2 : 0 ≤ a2 ∧ a2 ≤ 4294967295) : X sc 285 (d + 4) (xI fun r h' => J h' ∧ Fr 70368744177664 h h' ∧ (2147483648 ≤ r ∧ r ≤ 2147483649)) 0 0 0 [x_r 0, iv_c a1, iv_c a2, x_r 97, 147573952589676412928] [] h := by
  have la1 : a1 < 4294967296 := by first | decide | omega
  have la2 : a2 < 4294967296 := by first | decide | omega
  have hF := Fr.refl 70368744177664 h
  refine x_aload (np := 1) (x := 3) (by decide +kernel) rfl (x_nc_le (by decide)) ?_
  refine x_const (np := 2) (x := 9223372039002259456) (a := 2147483648) (by decide +kernel) (by decide) (by decide) ?_
  refine x_aload (np := 3) (x := 0) (by decide +kernel) rfl (x_nc_le (by decide)) ?_
  refine x_iload (np := 4) (x := 1) (by decide +kernel) rfl la1 ?_
  refine x_iload (np := 5) (x := 2) (by decide +kernel) rfl la2 ?_
  refine x_cT (t := 6) (mj := 111) (n := 3) (rc := 11) (ml := 3) (cc := 2) (ss := 12) (nr := 2) (np := 8) (as := [x_r 0, iv_c a1, iv_c a2]) (rest := [iv_c 2147483648, x_r 97]) (lo1 := [x_r 0, iv_c a1, iv_c a2]) (by decide +kernel) (by decide) (by decide +kernel) (x_rb_of (by decide +kernel)) rfl rfl (x_wr (by decide) (x_wi la1 (x_wi la2 x_wn))) (x_wi (by decide) (x_wr (by decide) x_wn)) (by decide) rfl (c111_0 hJ  (by first | decide | omega) (by first | decide | omega)) (fun v1 h4 l2 q3 => ?_) (fun E6 h7 q5 => ?_)
  · obtain ⟨j8, f9, b10⟩ := q3
    have f11 := Fr.trans hF f9 (by decide)
    refine x_i2l (np := 9) (x := 0) (by decide +kernel) l2 ?_
    refine x_last (np := 10) (x := 0) (n := 1) (i := 0) (by decide +kernel) (by decide) (by decide +kernel) (by decide +kernel) (by first | decide | omega) (by first | decide | omega) (by decide) l2 ?_
    have j13 := jU (e := 0) (v := v1) 0 j8 rg_97_0_1_1 (by first | decide | omega) (by first | decide | omega) (by first | decide | omega)
    have f15 := jF (e := 0) (v := v1) 0 f11 rg_97_0_1_1 (by first | decide | omega) (by first | decide | omega) (by decide)
    generalize e14 : x_up h4 97 0 v1 = h12 at j13 f15 ⊢
    refine x_goto (np := 13) (x := 17) (by decide +kernel) ?_
    refine x_const (np := 18) (x := 9223372039002259456) (a := 2147483648) (by decide +kernel) (by decide) (by decide) ?_
    refine x_retI (np := 19) (x := 0) (by decide +kernel) (by decide) (Or.inl (by decide +kernel)) ⟨_, rfl, (by decide), ?_⟩
    exact ⟨j13, f15, (by first | decide | omega)⟩
  obtain ⟨j16, f17, e18⟩ := q5
  have f19 := Fr.trans hF f17 (by decide)
  rcases e18 with rfl
  · refine ⟨13, fun _ _ => rfl, ?_⟩
    refine x_astE (np := 15) (x := 4) (lo' := [x_r 0, iv_c a1, iv_c a2, x_r 97, 55340232221128654850]) (by decide +kernel) (Nat.le_of_ble_eq_true rfl) rfl ?_
    refine x_const (np := 16) (x := 9223372043297226753) (a := 2147483649) (by decide +kernel) (by decide) (by decide) ?_
    refine x_retI (np := 17) (x := 0) (by decide +kernel) (by decide) (Or.inl (by decide +kernel)) ⟨_, rfl, (by decide), ?_⟩
    exact ⟨j16, f19, (by first | decide | omega)⟩
set_option maxHeartbeats 0 in
/-- LentNames.how(II)I -/
theorem c112_0 {sc : Nat × Nat} {d a1 a2 : Nat} {h : xh} (hJ : J h) (ba1 : 0 ≤ a1 ∧ a1 ≤ 4294967295) (ba2 : 0 ≤ a2 ∧ a2 ≤ 4294967295) : X sc 112 (d + 2) (xT (fun r h' => J h' ∧ Fr 0 h h' ∧ (0 ≤ r ∧ r ≤ 4294967295)) (fun E h' => J h' ∧ Fr 0 h h' ∧ (E = 2))) 0 0 0 [x_r 0, iv_c a1, iv_c a2] [] h := by
  have la1 : a1 < 4294967296 := by first | decide | omega
  have la2 : a2 < 4294967296 := by first | decide | omega
  have hF := Fr.refl 0 h
  refine x_aload (np := 1) (x := 0) (by decide +kernel) rfl (x_nc_le (by decide)) ?_
  refine x_iload (np := 2) (x := 1) (by decide +kernel) rfl la1 ?_
  refine x_nU (t := 6) (mj := 144) (n := 2) (rc := 11) (ml := 2) (cc := 1) (ss := 6) (nr := 0) (np := 5) (as := [x_r 0, iv_c a1]) (rest := []) (lo1 := [x_r 0, iv_c a1]) (by decide +kernel) (by decide) (by decide +kernel) (by decide +kernel) (x_rb_of (by decide +kernel)) rfl rfl (x_wr (by decide) (x_wi la1 x_wn)) x_wn (by decide) rfl ?_
  refine x_iload (np := 1) (x := 1) (by decide +kernel) rfl la1 ?_
  refine x_ifz (k := 2) (tg := 15) (np := 4) (by decide +kernel) (by decide) la1 (fun q1 => ?_) (fun q2 => ?_)
  · have q1 : a1 < 2147483648 := q1
    refine x_thr (np := 18) (x := 2) (by decide +kernel) (by decide +kernel) (Nat.le_trans x_wn (by decide)) (Or.inr ⟨_, rfl, ?_⟩)
    refine Or.inr ⟨_, rfl, ?_⟩
    exact ⟨hJ, hF, by decide⟩
  have q2 : ¬ (a1 < 2147483648) := q2
  refine x_iload (np := 5) (x := 1) (by decide +kernel) rfl la1 ?_
  refine x_aload (np := 6) (x := 0) (by decide +kernel) rfl (x_nc_le (by decide)) ?_
  have t3 : tw (h 0 8) := hJ.2.1
  refine x_getR (np := 9) (x := 648) (f := 8) (q := (h 0 8)) (by decide +kernel) (by decide) (by decide +kernel) rfl ?_
  have b4 := jB (e := 7) 0 hJ (rg_T0_7_0_1 t3) (by first | decide | omega) (by first | decide | omega)
  refine x_getC (np := 12) (x := 519) (f := 7) (q := (h (h 0 8) 7)) (by decide +kernel) (by decide) (tg_0_519_7_0 t3) rfl (fun l5 => ?_)
  refine x_icmp (k := 2) (tg := 26) (np := 15) (by decide +kernel) (by decide) la1 l5 (fun q6 => ?_) (fun q7 => ?_)
  · have q6 : a1 < (h (h 0 8) 7) := q6
    refine x_retV (np := 27) (x := 0) (by decide +kernel) (by decide +kernel) (Or.inl ⟨rfl, ?_⟩)
    refine x_iload (np := 6) (x := 2) (by decide +kernel) rfl la2 ?_
    refine x_nU (t := 0) (mj := 146) (n := 1) (rc := 0) (ml := 1) (cc := 1) (ss := 6) (nr := 0) (np := 9) (as := [iv_c a2]) (rest := []) (lo1 := [iv_c a2]) (by decide +kernel) (by decide) (by decide +kernel) (by decide +kernel) (Or.inl rfl) rfl rfl (x_wi la2 x_wn) x_wn (by decide) rfl ?_
    refine x_iload (np := 1) (x := 0) (by decide +kernel) rfl la2 ?_
    refine x_ifz (k := 2) (tg := 10) (np := 4) (by decide +kernel) (by decide) la2 (fun q8 => ?_) (fun q9 => ?_)
    · have q8 : a2 < 2147483648 := q8
      refine x_thr (np := 13) (x := 2) (by decide +kernel) (by decide +kernel) (Nat.le_trans x_wn (by decide)) (Or.inr ⟨_, rfl, ?_⟩)
      refine Or.inr ⟨_, rfl, ?_⟩
      exact ⟨hJ, hF, by decide⟩
    have q9 : ¬ (a2 < 2147483648) := q9
    refine x_iload (np := 5) (x := 0) (by decide +kernel) rfl la2 ?_
    refine x_const (np := 7) (x := 9223372090541867020) (a := 2147483660) (by decide +kernel) (by decide) (by decide) ?_
    refine x_icmp (k := 2) (tg := 21) (np := 10) (by decide +kernel) (by decide) la2 (by decide) (fun q10 => ?_) (fun q11 => ?_)
    · have q10 : a2 < 2147483660 := q10
      refine x_retV (np := 22) (x := 0) (by decide +kernel) (by decide +kernel) (Or.inl ⟨rfl, ?_⟩)
      refine x_aload (np := 10) (x := 0) (by decide +kernel) rfl (x_nc_le (by decide)) ?_
      have q12 : h 0 1 = 45 := by have z := jB (e := 1) 0 hJ rg_0_1_0_1 (by decide) (by decide); omega
      refine x_getR (np := 13) (x := 641) (f := 1) (q := 45) (by decide +kernel) (by decide) (by decide +kernel) q12 ?_
      refine x_iload (np := 14) (x := 1) (by decide +kernel) rfl la1 ?_
      refine x_iload (np := 15) (x := 2) (by decide +kernel) rfl la2 ?_
      refine x_nI (t := 6) (mj := 6) (n := 3) (rc := 2) (ml := 3) (nr := 0) (np := 18) (as := [x_r 45, iv_c a1, iv_c a2]) (rest := []) (lo1 := [x_r 45, iv_c a1, iv_c a2]) (by decide +kernel) (by decide) (by decide +kernel) (x_rb_of (by decide +kernel)) rfl rfl (x_wr (by decide) (x_wi la1 (x_wi la2 x_wn))) x_wn (by decide) rfl ?_
      refine x_aload (np := 1) (x := 0) (by decide +kernel) rfl (x_nc_le (by decide)) ?_
      refine x_iload (np := 2) (x := 1) (by decide +kernel) rfl la1 ?_
      refine x_iload (np := 3) (x := 2) (by decide +kernel) rfl la2 ?_
      refine x_nI (t := 6) (mj := 15) (n := 3) (rc := 2) (ml := 3) (nr := 0) (np := 6) (as := [x_r 45, iv_c a1, iv_c a2]) (rest := []) (lo1 := [x_r 45, iv_c a1, iv_c a2]) (by decide +kernel) (by decide) (by decide +kernel) (x_rb_of (by decide +kernel)) rfl rfl (x_wr (by decide) (x_wi la1 (x_wi la2 x_wn))) x_wn (by decide) rfl ?_
      refine x_iload (np := 1) (x := 1) (by decide +kernel) rfl la1 ?_
      refine x_ifz (k := 2) (tg := 24) (np := 4) (by decide +kernel) (by decide) la1 (fun q13 => ?_) (fun q14 => ?_)
      · have q13 : a1 < 2147483648 := q13
        exfalso; omega
      have q14 : ¬ (a1 < 2147483648) := q14
      refine x_iload (np := 5) (x := 1) (by decide +kernel) rfl la1 ?_
      refine x_const (np := 7) (x := 9223372064772063238) (a := 2147483654) (by decide +kernel) (by decide) (by decide) ?_
      refine x_icmp (k := 3) (tg := 24) (np := 10) (by decide +kernel) (by decide) la1 (by decide) (fun q15 => ?_) (fun q16 => ?_)
      · have q15 : 2147483654 ≤ a1 := q15
        exfalso; omega
      have q16 : ¬ (2147483654 ≤ a1) := q16
      refine x_iload (np := 11) (x := 2) (by decide +kernel) rfl la2 ?_
      refine x_ifz (k := 2) (tg := 24) (np := 14) (by decide +kernel) (by decide) la2 (fun q17 => ?_) (fun q18 => ?_)
      · have q17 : a2 < 2147483648 := q17
        exfalso; omega
      have q18 : ¬ (a2 < 2147483648) := q18
      refine x_iload (np := 15) (x := 2) (by decide +kernel) rfl la2 ?_
      refine x_const (np := 17) (x := 9223372090541867020) (a := 2147483660) (by decide +kernel) (by decide) (by decide) ?_
      refine x_icmp (k := 3) (tg := 24) (np := 20) (by decide +kernel) (by decide) la2 (by decide) (fun q19 => ?_) (fun q20 => ?_)
      · have q19 : 2147483660 ≤ a2 := q19
        exfalso; omega
      have q20 : ¬ (2147483660 ≤ a2) := q20
      refine x_const (np := 21) (x := 9223372043297226753) (a := 2147483649) (by decide +kernel) (by decide) (by decide) ?_
      refine x_goto (np := 24) (x := 25) (by decide +kernel) ?_
      refine x_retI (np := 26) (x := 0) (by decide +kernel) (by decide) (Or.inr ⟨by decide +kernel, by first | decide | omega, by first | decide | omega⟩) ⟨_, rfl, (by decide), ?_⟩
      refine x_ifz (k := 0) (tg := 22) (np := 9) (by decide +kernel) (by decide) (by decide) (fun q21 => ?_) (fun q22 => ?_)
      · have q21 : 2147483649 = 2147483648 := q21
        exfalso; omega
      have q22 : ¬ (2147483649 = 2147483648) := q22
      refine x_aload (np := 10) (x := 0) (by decide +kernel) rfl (x_nc_le (by decide)) ?_
      have q23 : h 45 7 = 52 := by have z := jB (e := 7) 0 hJ rg_45_7_0_1 (by decide) (by decide); omega
      refine x_getR (np := 13) (x := 71) (f := 7) (q := 52) (by decide +kernel) (by decide) (by decide +kernel) q23 ?_
      refine x_iload (np := 14) (x := 1) (by decide +kernel) rfl la1 ?_
      refine x_iload (np := 15) (x := 2) (by decide +kernel) rfl la2 ?_
      refine x_nI (t := 7) (mj := 150) (n := 2) (rc := 0) (ml := 2) (nr := 1) (np := 18) (as := [iv_c a1, iv_c a2]) (rest := [x_r 52]) (lo1 := [iv_c a1, iv_c a2]) (by decide +kernel) (by decide) (by decide +kernel) (Or.inl rfl) rfl rfl (x_wi la1 (x_wi la2 x_wn)) (x_wr (by decide) x_wn) (by decide) rfl ?_
      refine x_iload (np := 1) (x := 0) (by decide +kernel) rfl la1 ?_
      refine x_const (np := 3) (x := 9223372090541867020) (a := 2147483660) (by decide +kernel) (by decide) (by decide) ?_
      obtain ⟨u24, q25⟩ : ∃ z, a1 = 2147483648 + z := ⟨a1 - 2147483648, by first | decide | omega⟩
      refine x_imul (np := 4) (x := 0) (i := u24) (j := 12) (v := (2147483648 + 12 * u24)) (by decide +kernel) (by first | decide | omega) (by first | decide | omega) (by first | decide | omega) (by first | decide | omega) la1 (by decide) ?_
      refine x_iload (np := 5) (x := 1) (by decide +kernel) rfl la2 ?_
      refine x_iadd (np := 6) (x := 0) (v := (12 * u24 + a2)) (by decide +kernel) (by first | decide | omega) la2 (by first | decide | omega) (by first | decide | omega) ?_
      refine x_retI (np := 7) (x := 0) (by decide +kernel) (by first | decide | omega) (Or.inl (by decide +kernel)) ⟨_, rfl, (by first | decide | omega), ?_⟩
      obtain ⟨u27, q28⟩ : ∃ z, a2 = 2147483648 + z := ⟨a2 - 2147483648, by first | decide | omega⟩
      refine x_aldC (np := 19) (x := 0) (n := 72) (i := (12 * u24 + u27)) (q := ((h 52 (12 * u24 + u27)))) (by decide +kernel) (by decide +kernel) (by first | decide | omega) (by first | decide | omega) (by decide) rfl (fun l29 => ?_)
      refine x_goto (np := 22) (x := 23) (by decide +kernel) ?_
      refine x_retI (np := 24) (x := 0) (by decide +kernel) l29 (Or.inl (by decide +kernel)) ⟨_, rfl, l29, ?_⟩
      refine x_retI (np := 19) (x := 0) (by decide +kernel) l29 (Or.inl (by decide +kernel)) (Or.inl ⟨_, rfl, l29, ?_⟩)
      exact ⟨hJ, hF, (by first | decide | omega)⟩
    have q11 : ¬ (a2 < 2147483660) := q11
    refine x_thr (np := 13) (x := 2) (by decide +kernel) (by decide +kernel) (Nat.le_trans x_wn (by decide)) (Or.inr ⟨_, rfl, ?_⟩)
    refine Or.inr ⟨_, rfl, ?_⟩
    exact ⟨hJ, hF, by decide⟩
  have q7 : ¬ (a1 < (h (h 0 8) 7)) := q7
  refine x_thr (np := 18) (x := 2) (by decide +kernel) (by decide +kernel) (Nat.le_trans x_wn (by decide)) (Or.inr ⟨_, rfl, ?_⟩)
  refine Or.inr ⟨_, rfl, ?_⟩
  exact ⟨hJ, hF, by decide⟩
set_option maxHeartbeats 0 in
/-- LentNamesLaw.how(LLentNames;II[J)I -/
theorem c286_0_97 {sc : Nat × Nat} {d a1 a2 : Nat} {h : xh} (hJ : J h) (ba1 : 0 ≤ a1 ∧ a1 ≤ 4294967295) (ba2 : 0 ≤ a2 ∧ a2 ≤ 4294967295) : X sc 286 (d + 3) (xI fun r h' => J h' ∧ Fr 70368744177664 h h' ∧ (2147483648 ≤ r ∧ r ≤ 2147483649)) 0 0 0 [x_r 0, iv_c a1, iv_c a2, x_r 97, 147573952589676412928] [] h := by
  have la1 : a1 < 4294967296 := by first | decide | omega
  have la2 : a2 < 4294967296 := by first | decide | omega
  have hF := Fr.refl 70368744177664 h
  refine x_aload (np := 1) (x := 3) (by decide +kernel) rfl (x_nc_le (by decide)) ?_
  refine x_const (np := 2) (x := 9223372039002259456) (a := 2147483648) (by decide +kernel) (by decide) (by decide) ?_
  refine x_aload (np := 3) (x := 0) (by decide +kernel) rfl (x_nc_le (by decide)) ?_
  refine x_iload (np := 4) (x := 1) (by decide +kernel) rfl la1 ?_
  refine x_iload (np := 5) (x := 2) (by decide +kernel) rfl la2 ?_
  refine x_cT (t := 6) (mj := 112) (n := 3) (rc := 11) (ml := 3) (cc := 2) (ss := 12) (nr := 2) (np := 8) (as := [x_r 0, iv_c a1, iv_c a2]) (rest := [iv_c 2147483648, x_r 97]) (lo1 := [x_r 0, iv_c a1, iv_c a2]) (by decide +kernel) (by decide) (by decide +kernel) (x_rb_of (by decide +kernel)) rfl rfl (x_wr (by decide) (x_wi la1 (x_wi la2 x_wn))) (x_wi (by decide) (x_wr (by decide) x_wn)) (by decide) rfl (c112_0 hJ  (by first | decide | omega) (by first | decide | omega)) (fun v1 h4 l2 q3 => ?_) (fun E6 h7 q5 => ?_)
  · obtain ⟨j8, f9, b10⟩ := q3
    have f11 := Fr.trans hF f9 (by decide)
    refine x_i2l (np := 9) (x := 0) (by decide +kernel) l2 ?_
    refine x_last (np := 10) (x := 0) (n := 1) (i := 0) (by decide +kernel) (by decide) (by decide +kernel) (by decide +kernel) (by first | decide | omega) (by first | decide | omega) (by decide) l2 ?_
    have j13 := jU (e := 0) (v := v1) 0 j8 rg_97_0_1_1 (by first | decide | omega) (by first | decide | omega) (by first | decide | omega)
    have f15 := jF (e := 0) (v := v1) 0 f11 rg_97_0_1_1 (by first | decide | omega) (by first | decide | omega) (by decide)
    generalize e14 : x_up h4 97 0 v1 = h12 at j13 f15 ⊢
    refine x_goto (np := 13) (x := 17) (by decide +kernel) ?_
    refine x_const (np := 18) (x := 9223372039002259456) (a := 2147483648) (by decide +kernel) (by decide) (by decide) ?_
    refine x_retI (np := 19) (x := 0) (by decide +kernel) (by decide) (Or.inl (by decide +kernel)) ⟨_, rfl, (by decide), ?_⟩
    exact ⟨j13, f15, (by first | decide | omega)⟩
  obtain ⟨j16, f17, e18⟩ := q5
  have f19 := Fr.trans hF f17 (by decide)
  rcases e18 with rfl
  · refine ⟨13, fun _ _ => rfl, ?_⟩
    refine x_astE (np := 15) (x := 4) (lo' := [x_r 0, iv_c a1, iv_c a2, x_r 97, 55340232221128654850]) (by decide +kernel) (Nat.le_of_ble_eq_true rfl) rfl ?_
    refine x_const (np := 16) (x := 9223372043297226753) (a := 2147483649) (by decide +kernel) (by decide) (by decide) ?_
    refine x_retI (np := 17) (x := 0) (by decide +kernel) (by decide) (Or.inl (by decide +kernel)) ⟨_, rfl, (by decide), ?_⟩
    exact ⟨j16, f19, (by first | decide | omega)⟩
set_option maxHeartbeats 0 in
/-- LentNames.row(III)I -/
theorem c113_0 {sc : Nat × Nat} {d a1 a2 a3 : Nat} {h : xh} (hJ : J h) (ba1 : 0 ≤ a1 ∧ a1 ≤ 4294967295) (ba2 : 0 ≤ a2 ∧ a2 ≤ 4294967295) (ba3 : 0 ≤ a3 ∧ a3 ≤ 4294967295) : X sc 113 (d + 2) (xT (fun r h' => J h' ∧ Fr 0 h h' ∧ (0 ≤ r ∧ r ≤ 4294967295)) (fun E h' => J h' ∧ Fr 0 h h' ∧ (E = 2))) 0 0 0 [x_r 0, iv_c a1, iv_c a2, iv_c a3] [] h := by
  have la1 : a1 < 4294967296 := by first | decide | omega
  have la2 : a2 < 4294967296 := by first | decide | omega
  have la3 : a3 < 4294967296 := by first | decide | omega
  have hF := Fr.refl 0 h
  refine x_aload (np := 1) (x := 0) (by decide +kernel) rfl (x_nc_le (by decide)) ?_
  refine x_iload (np := 2) (x := 1) (by decide +kernel) rfl la1 ?_
  refine x_nU (t := 6) (mj := 144) (n := 2) (rc := 11) (ml := 2) (cc := 1) (ss := 6) (nr := 0) (np := 5) (as := [x_r 0, iv_c a1]) (rest := []) (lo1 := [x_r 0, iv_c a1]) (by decide +kernel) (by decide) (by decide +kernel) (by decide +kernel) (x_rb_of (by decide +kernel)) rfl rfl (x_wr (by decide) (x_wi la1 x_wn)) x_wn (by decide) rfl ?_
  refine x_iload (np := 1) (x := 1) (by decide +kernel) rfl la1 ?_
  refine x_ifz (k := 2) (tg := 15) (np := 4) (by decide +kernel) (by decide) la1 (fun q1 => ?_) (fun q2 => ?_)
  · have q1 : a1 < 2147483648 := q1
    refine x_thr (np := 18) (x := 2) (by decide +kernel) (by decide +kernel) (Nat.le_trans x_wn (by decide)) (Or.inr ⟨_, rfl, ?_⟩)
    refine Or.inr ⟨_, rfl, ?_⟩
    exact ⟨hJ, hF, by decide⟩
  have q2 : ¬ (a1 < 2147483648) := q2
  refine x_iload (np := 5) (x := 1) (by decide +kernel) rfl la1 ?_
  refine x_aload (np := 6) (x := 0) (by decide +kernel) rfl (x_nc_le (by decide)) ?_
  have t3 : tw (h 0 8) := hJ.2.1
  refine x_getR (np := 9) (x := 648) (f := 8) (q := (h 0 8)) (by decide +kernel) (by decide) (by decide +kernel) rfl ?_
  have b4 := jB (e := 7) 0 hJ (rg_T0_7_0_1 t3) (by first | decide | omega) (by first | decide | omega)
  refine x_getC (np := 12) (x := 519) (f := 7) (q := (h (h 0 8) 7)) (by decide +kernel) (by decide) (tg_0_519_7_0 t3) rfl (fun l5 => ?_)
  refine x_icmp (k := 2) (tg := 26) (np := 15) (by decide +kernel) (by decide) la1 l5 (fun q6 => ?_) (fun q7 => ?_)
  · have q6 : a1 < (h (h 0 8) 7) := q6
    refine x_retV (np := 27) (x := 0) (by decide +kernel) (by decide +kernel) (Or.inl ⟨rfl, ?_⟩)
    refine x_iload (np := 6) (x := 2) (by decide +kernel) rfl la2 ?_
    refine x_nU (t := 0) (mj := 146) (n := 1) (rc := 0) (ml := 1) (cc := 1) (ss := 6) (nr := 0) (np := 9) (as := [iv_c a2]) (rest := []) (lo1 := [iv_c a2]) (by decide +kernel) (by decide) (by decide +kernel) (by decide +kernel) (Or.inl rfl) rfl rfl (x_wi la2 x_wn) x_wn (by decide) rfl ?_
    refine x_iload (np := 1) (x := 0) (by decide +kernel) rfl la2 ?_
    refine x_ifz (k := 2) (tg := 10) (np := 4) (by decide +kernel) (by decide) la2 (fun q8 => ?_) (fun q9 => ?_)
    · have q8 : a2 < 2147483648 := q8
      refine x_thr (np := 13) (x := 2) (by decide +kernel) (by decide +kernel) (Nat.le_trans x_wn (by decide)) (Or.inr ⟨_, rfl, ?_⟩)
      refine Or.inr ⟨_, rfl, ?_⟩
      exact ⟨hJ, hF, by decide⟩
    have q9 : ¬ (a2 < 2147483648) := q9
    refine x_iload (np := 5) (x := 0) (by decide +kernel) rfl la2 ?_
    refine x_const (np := 7) (x := 9223372090541867020) (a := 2147483660) (by decide +kernel) (by decide) (by decide) ?_
    refine x_icmp (k := 2) (tg := 21) (np := 10) (by decide +kernel) (by decide) la2 (by decide) (fun q10 => ?_) (fun q11 => ?_)
    · have q10 : a2 < 2147483660 := q10
      refine x_retV (np := 22) (x := 0) (by decide +kernel) (by decide +kernel) (Or.inl ⟨rfl, ?_⟩)
      refine x_aload (np := 10) (x := 0) (by decide +kernel) rfl (x_nc_le (by decide)) ?_
      have q12 : h 0 1 = 45 := by have z := jB (e := 1) 0 hJ rg_0_1_0_1 (by decide) (by decide); omega
      refine x_getR (np := 13) (x := 641) (f := 1) (q := 45) (by decide +kernel) (by decide) (by decide +kernel) q12 ?_
      refine x_iload (np := 14) (x := 1) (by decide +kernel) rfl la1 ?_
      refine x_iload (np := 15) (x := 2) (by decide +kernel) rfl la2 ?_
      refine x_iload (np := 16) (x := 3) (by decide +kernel) rfl la3 ?_
      refine x_nI (t := 6) (mj := 7) (n := 4) (rc := 2) (ml := 4) (nr := 0) (np := 19) (as := [x_r 45, iv_c a1, iv_c a2, iv_c a3]) (rest := []) (lo1 := [x_r 45, iv_c a1, iv_c a2, iv_c a3]) (by decide +kernel) (by decide) (by decide +kernel) (x_rb_of (by decide +kernel)) rfl rfl (x_wr (by decide) (x_wi la1 (x_wi la2 (x_wi la3 x_wn)))) x_wn (by decide) rfl ?_
      refine x_aload (np := 1) (x := 0) (by decide +kernel) rfl (x_nc_le (by decide)) ?_
      refine x_iload (np := 2) (x := 1) (by decide +kernel) rfl la1 ?_
      refine x_iload (np := 3) (x := 2) (by decide +kernel) rfl la2 ?_
      refine x_nI (t := 6) (mj := 15) (n := 3) (rc := 2) (ml := 3) (nr := 0) (np := 6) (as := [x_r 45, iv_c a1, iv_c a2]) (rest := []) (lo1 := [x_r 45, iv_c a1, iv_c a2]) (by decide +kernel) (by decide) (by decide +kernel) (x_rb_of (by decide +kernel)) rfl rfl (x_wr (by decide) (x_wi la1 (x_wi la2 x_wn))) x_wn (by decide) rfl ?_
      refine x_iload (np := 1) (x := 1) (by decide +kernel) rfl la1 ?_
      refine x_ifz (k := 2) (tg := 24) (np := 4) (by decide +kernel) (by decide) la1 (fun q13 => ?_) (fun q14 => ?_)
      · have q13 : a1 < 2147483648 := q13
        exfalso; omega
      have q14 : ¬ (a1 < 2147483648) := q14
      refine x_iload (np := 5) (x := 1) (by decide +kernel) rfl la1 ?_
      refine x_const (np := 7) (x := 9223372064772063238) (a := 2147483654) (by decide +kernel) (by decide) (by decide) ?_
      refine x_icmp (k := 3) (tg := 24) (np := 10) (by decide +kernel) (by decide) la1 (by decide) (fun q15 => ?_) (fun q16 => ?_)
      · have q15 : 2147483654 ≤ a1 := q15
        exfalso; omega
      have q16 : ¬ (2147483654 ≤ a1) := q16
      refine x_iload (np := 11) (x := 2) (by decide +kernel) rfl la2 ?_
      refine x_ifz (k := 2) (tg := 24) (np := 14) (by decide +kernel) (by decide) la2 (fun q17 => ?_) (fun q18 => ?_)
      · have q17 : a2 < 2147483648 := q17
        exfalso; omega
      have q18 : ¬ (a2 < 2147483648) := q18
      refine x_iload (np := 15) (x := 2) (by decide +kernel) rfl la2 ?_
      refine x_const (np := 17) (x := 9223372090541867020) (a := 2147483660) (by decide +kernel) (by decide) (by decide) ?_
      refine x_icmp (k := 3) (tg := 24) (np := 20) (by decide +kernel) (by decide) la2 (by decide) (fun q19 => ?_) (fun q20 => ?_)
      · have q19 : 2147483660 ≤ a2 := q19
        exfalso; omega
      have q20 : ¬ (2147483660 ≤ a2) := q20
      refine x_const (np := 21) (x := 9223372043297226753) (a := 2147483649) (by decide +kernel) (by decide) (by decide) ?_
      refine x_goto (np := 24) (x := 25) (by decide +kernel) ?_
      refine x_retI (np := 26) (x := 0) (by decide +kernel) (by decide) (Or.inr ⟨by decide +kernel, by first | decide | omega, by first | decide | omega⟩) ⟨_, rfl, (by decide), ?_⟩
      refine x_ifz (k := 0) (tg := 19) (np := 9) (by decide +kernel) (by decide) (by decide) (fun q21 => ?_) (fun q22 => ?_)
      · have q21 : 2147483649 = 2147483648 := q21
        exfalso; omega
      have q22 : ¬ (2147483649 = 2147483648) := q22
      refine x_iload (np := 10) (x := 3) (by decide +kernel) rfl la3 ?_
      refine x_ifz (k := 2) (tg := 19) (np := 13) (by decide +kernel) (by decide) la3 (fun q23 => ?_) (fun q24 => ?_)
      · have q23 : a3 < 2147483648 := q23
        refine x_const (np := 20) (x := 9223372034707292159) (a := 2147483647) (by decide +kernel) (by decide) (by decide) ?_
        refine x_retI (np := 21) (x := 0) (by decide +kernel) (by decide) (Or.inl (by decide +kernel)) ⟨_, rfl, (by decide), ?_⟩
        refine x_retI (np := 20) (x := 0) (by decide +kernel) (by decide) (Or.inl (by decide +kernel)) (Or.inl ⟨_, rfl, (by decide), ?_⟩)
        exact ⟨hJ, hF, (by first | decide | omega)⟩
      have q24 : ¬ (a3 < 2147483648) := q24
      refine x_iload (np := 14) (x := 3) (by decide +kernel) rfl la3 ?_
      refine x_const (np := 16) (x := 9223372129196572693) (a := 2147483669) (by decide +kernel) (by decide) (by decide) ?_
      refine x_icmp (k := 2) (tg := 21) (np := 19) (by decide +kernel) (by decide) la3 (by decide) (fun q25 => ?_) (fun q26 => ?_)
      · have q25 : a3 < 2147483669 := q25
        refine x_aload (np := 22) (x := 0) (by decide +kernel) rfl (x_nc_le (by decide)) ?_
        have q27 : h 45 8 = 53 := by have z := jB (e := 8) 0 hJ rg_45_8_0_1 (by decide) (by decide); omega
        refine x_getR (np := 25) (x := 72) (f := 8) (q := 53) (by decide +kernel) (by decide) (by decide +kernel) q27 ?_
        refine x_iload (np := 26) (x := 1) (by decide +kernel) rfl la1 ?_
        refine x_iload (np := 27) (x := 2) (by decide +kernel) rfl la2 ?_
        refine x_nI (t := 7) (mj := 150) (n := 2) (rc := 0) (ml := 2) (nr := 1) (np := 30) (as := [iv_c a1, iv_c a2]) (rest := [x_r 53]) (lo1 := [iv_c a1, iv_c a2]) (by decide +kernel) (by decide) (by decide +kernel) (Or.inl rfl) rfl rfl (x_wi la1 (x_wi la2 x_wn)) (x_wr (by decide) x_wn) (by decide) rfl ?_
        refine x_iload (np := 1) (x := 0) (by decide +kernel) rfl la1 ?_
        refine x_const (np := 3) (x := 9223372090541867020) (a := 2147483660) (by decide +kernel) (by decide) (by decide) ?_
        obtain ⟨u28, q29⟩ : ∃ z, a1 = 2147483648 + z := ⟨a1 - 2147483648, by first | decide | omega⟩
        refine x_imul (np := 4) (x := 0) (i := u28) (j := 12) (v := (2147483648 + 12 * u28)) (by decide +kernel) (by first | decide | omega) (by first | decide | omega) (by first | decide | omega) (by first | decide | omega) la1 (by decide) ?_
        refine x_iload (np := 5) (x := 1) (by decide +kernel) rfl la2 ?_
        refine x_iadd (np := 6) (x := 0) (v := (12 * u28 + a2)) (by decide +kernel) (by first | decide | omega) la2 (by first | decide | omega) (by first | decide | omega) ?_
        refine x_retI (np := 7) (x := 0) (by decide +kernel) (by first | decide | omega) (Or.inl (by decide +kernel)) ⟨_, rfl, (by first | decide | omega), ?_⟩
        refine x_const (np := 32) (x := 9223372129196572693) (a := 2147483669) (by decide +kernel) (by decide) (by decide) ?_
        obtain ⟨u31, q32⟩ : ∃ z, a2 = 2147483648 + z := ⟨a2 - 2147483648, by first | decide | omega⟩
        refine x_imul (np := 33) (x := 0) (i := (12 * u28 + u31)) (j := 21) (v := (2147483648 + 252 * u28 + 21 * u31)) (by decide +kernel) (by first | decide | omega) (by first | decide | omega) (by first | decide | omega) (by first | decide | omega) (by first | decide | omega) (by decide) ?_
        refine x_iload (np := 34) (x := 3) (by decide +kernel) rfl la3 ?_
        refine x_iadd (np := 35) (x := 0) (v := (252 * u28 + 21 * u31 + a3)) (by decide +kernel) (by first | decide | omega) la3 (by first | decide | omega) (by first | decide | omega) ?_
        obtain ⟨u34, q35⟩ : ∃ z, a3 = 2147483648 + z := ⟨a3 - 2147483648, by first | decide | omega⟩
        refine x_aldC (np := 36) (x := 0) (n := 1512) (i := (252 * u28 + 21 * u31 + u34)) (q := ((h 53 (252 * u28 + 21 * u31 + u34)))) (by decide +kernel) (by decide +kernel) (by first | decide | omega) (by first | decide | omega) (by decide) rfl (fun l36 => ?_)
        refine x_retI (np := 37) (x := 0) (by decide +kernel) l36 (Or.inl (by decide +kernel)) ⟨_, rfl, l36, ?_⟩
        refine x_retI (np := 20) (x := 0) (by decide +kernel) l36 (Or.inl (by decide +kernel)) (Or.inl ⟨_, rfl, l36, ?_⟩)
        exact ⟨hJ, hF, (by first | decide | omega)⟩
      have q26 : ¬ (a3 < 2147483669) := q26
      refine x_const (np := 20) (x := 9223372034707292159) (a := 2147483647) (by decide +kernel) (by decide) (by decide) ?_
      refine x_retI (np := 21) (x := 0) (by decide +kernel) (by decide) (Or.inl (by decide +kernel)) ⟨_, rfl, (by decide), ?_⟩
      refine x_retI (np := 20) (x := 0) (by decide +kernel) (by decide) (Or.inl (by decide +kernel)) (Or.inl ⟨_, rfl, (by decide), ?_⟩)
      exact ⟨hJ, hF, (by first | decide | omega)⟩
    have q11 : ¬ (a2 < 2147483660) := q11
    refine x_thr (np := 13) (x := 2) (by decide +kernel) (by decide +kernel) (Nat.le_trans x_wn (by decide)) (Or.inr ⟨_, rfl, ?_⟩)
    refine Or.inr ⟨_, rfl, ?_⟩
    exact ⟨hJ, hF, by decide⟩
  have q7 : ¬ (a1 < (h (h 0 8) 7)) := q7
  refine x_thr (np := 18) (x := 2) (by decide +kernel) (by decide +kernel) (Nat.le_trans x_wn (by decide)) (Or.inr ⟨_, rfl, ?_⟩)
  refine Or.inr ⟨_, rfl, ?_⟩
  exact ⟨hJ, hF, by decide⟩
set_option maxHeartbeats 0 in
/-- LentNamesLaw.row(LLentNames;III[J)I -/
theorem c287_0_97 {sc : Nat × Nat} {d a1 a2 a3 : Nat} {h : xh} (hJ : J h) (ba1 : 0 ≤ a1 ∧ a1 ≤ 4294967295) (ba2 : 0 ≤ a2 ∧ a2 ≤ 4294967295) (ba3 : 0 ≤ a3 ∧ a3 ≤ 4294967295) : X sc 287 (d + 3) (xI fun r h' => J h' ∧ Fr 70368744177664 h h' ∧ (2147483648 ≤ r ∧ r ≤ 2147483649)) 0 0 0 [x_r 0, iv_c a1, iv_c a2, iv_c a3, x_r 97, 147573952589676412928] [] h := by
  have la1 : a1 < 4294967296 := by first | decide | omega
  have la2 : a2 < 4294967296 := by first | decide | omega
  have la3 : a3 < 4294967296 := by first | decide | omega
  have hF := Fr.refl 70368744177664 h
  refine x_aload (np := 2) (x := 4) (by decide +kernel) rfl (x_nc_le (by decide)) ?_
  refine x_const (np := 3) (x := 9223372039002259456) (a := 2147483648) (by decide +kernel) (by decide) (by decide) ?_
  refine x_aload (np := 4) (x := 0) (by decide +kernel) rfl (x_nc_le (by decide)) ?_
  refine x_iload (np := 5) (x := 1) (by decide +kernel) rfl la1 ?_
  refine x_iload (np := 6) (x := 2) (by decide +kernel) rfl la2 ?_
  refine x_iload (np := 7) (x := 3) (by decide +kernel) rfl la3 ?_
  refine x_cT (t := 6) (mj := 113) (n := 4) (rc := 11) (ml := 4) (cc := 2) (ss := 12) (nr := 2) (np := 10) (as := [x_r 0, iv_c a1, iv_c a2, iv_c a3]) (rest := [iv_c 2147483648, x_r 97]) (lo1 := [x_r 0, iv_c a1, iv_c a2, iv_c a3]) (by decide +kernel) (by decide) (by decide +kernel) (x_rb_of (by decide +kernel)) rfl rfl (x_wr (by decide) (x_wi la1 (x_wi la2 (x_wi la3 x_wn)))) (x_wi (by decide) (x_wr (by decide) x_wn)) (by decide) rfl (c113_0 hJ  (by first | decide | omega) (by first | decide | omega) (by first | decide | omega)) (fun v1 h4 l2 q3 => ?_) (fun E6 h7 q5 => ?_)
  · obtain ⟨j8, f9, b10⟩ := q3
    have f11 := Fr.trans hF f9 (by decide)
    refine x_i2l (np := 11) (x := 0) (by decide +kernel) l2 ?_
    refine x_last (np := 12) (x := 0) (n := 1) (i := 0) (by decide +kernel) (by decide) (by decide +kernel) (by decide +kernel) (by first | decide | omega) (by first | decide | omega) (by decide) l2 ?_
    have j13 := jU (e := 0) (v := v1) 0 j8 rg_97_0_1_1 (by first | decide | omega) (by first | decide | omega) (by first | decide | omega)
    have f15 := jF (e := 0) (v := v1) 0 f11 rg_97_0_1_1 (by first | decide | omega) (by first | decide | omega) (by decide)
    generalize e14 : x_up h4 97 0 v1 = h12 at j13 f15 ⊢
    refine x_goto (np := 15) (x := 19) (by decide +kernel) ?_
    refine x_const (np := 20) (x := 9223372039002259456) (a := 2147483648) (by decide +kernel) (by decide) (by decide) ?_
    refine x_retI (np := 21) (x := 0) (by decide +kernel) (by decide) (Or.inl (by decide +kernel)) ⟨_, rfl, (by decide), ?_⟩
    exact ⟨j13, f15, (by first | decide | omega)⟩
  obtain ⟨j16, f17, e18⟩ := q5
  have f19 := Fr.trans hF f17 (by decide)
  rcases e18 with rfl
  · refine ⟨15, fun _ _ => rfl, ?_⟩
    refine x_astE (np := 17) (x := 5) (lo' := [x_r 0, iv_c a1, iv_c a2, iv_c a3, x_r 97, 55340232221128654850]) (by decide +kernel) (Nat.le_of_ble_eq_true rfl) rfl ?_
    refine x_const (np := 18) (x := 9223372043297226753) (a := 2147483649) (by decide +kernel) (by decide) (by decide) ?_
    refine x_retI (np := 19) (x := 0) (by decide +kernel) (by decide) (Or.inl (by decide +kernel)) ⟨_, rfl, (by decide), ?_⟩
    exact ⟨j16, f19, (by first | decide | omega)⟩
set_option maxHeartbeats 0 in
/-- LentNames$Calendar.namelessDays(I)I -/
theorem c9_45 {sc : Nat × Nat} {d a1 : Nat} {h : xh} (hJ : J h) (ba1 : 2147483648 ≤ a1 ∧ a1 ≤ 2147483653) : X sc 9 (d + 1) (xI fun r h' => h' = h ∧ (0 ≤ r ∧ r ≤ 4294967295)) 0 0 0 [x_r 45, iv_c a1, 147573952589676412928, 147573952589676412928] [] h := by
  have la1 : a1 < 4294967296 := by first | decide | omega
  refine x_aload (np := 1) (x := 0) (by decide +kernel) rfl (x_nc_le (by decide)) ?_
  have q1 : h 45 0 = 46 := by have z := jB (e := 0) 0 hJ rg_45_0_0_1 (by decide) (by decide); omega
  refine x_getR (np := 4) (x := 64) (f := 0) (q := 46) (by decide +kernel) (by decide) (by decide +kernel) q1 ?_
  refine x_iload (np := 5) (x := 1) (by decide +kernel) rfl la1 ?_
  obtain ⟨u2, q3⟩ : ∃ z, a1 = 2147483648 + z := ⟨a1 - 2147483648, by first | decide | omega⟩
  refine x_aldC (np := 6) (x := 0) (n := 6) (i := u2) (q := (h 46 u2)) (by decide +kernel) (by decide +kernel) (by first | decide | omega) (by first | decide | omega) (by decide) rfl (fun l4 => ?_)
  refine x_istore (np := 7) (x := 2) (lo' := [x_r 45, iv_c a1, iv_c (h 46 u2), 147573952589676412928]) (by decide +kernel) l4 (Nat.le_of_ble_eq_true rfl) rfl ?_
  refine x_const (np := 8) (x := 9223372039002259456) (a := 2147483648) (by decide +kernel) (by decide) (by decide) ?_
  refine x_istore (np := 9) (x := 3) (lo' := [x_r 45, iv_c a1, iv_c (h 46 u2), iv_c 2147483648]) (by decide +kernel) (by decide) (Nat.le_of_ble_eq_true rfl) rfl ?_
  have p117 : ∀ (n : Nat) (v113 : Nat) (v115 : Nat), 4294967296 - v115 < n → (0 ≤ v113 ∧ v113 ≤ 4294967295) → (2147483648 ≤ v115 ∧ v115 ≤ 2147483654) → X sc 9 (d + 1) (xI fun r h' => h' = h ∧ (0 ≤ r ∧ r ≤ 4294967295)) 0 0 9 [x_r 45, iv_c a1, iv_c v113, iv_c v115] [] h := by
    intro n
    induction n with
    | zero => intro v113 v115 q118; exact absurd q118 (Nat.not_lt_zero _)
    | succ n i119 =>
      intro v113 v115 q118 b114 b116
      refine x_iload (np := 10) (x := 3) (by decide +kernel) rfl (by first | decide | omega) ?_
      refine x_aload (np := 11) (x := 0) (by decide +kernel) rfl (x_nc_le (by decide)) ?_
      have t120 : tw (h 45 5) := hJ.2.2.2.1
      refine x_getR (np := 14) (x := 69) (f := 5) (q := (h 45 5)) (by decide +kernel) (by decide) (by decide +kernel) rfl ?_
      have b121 := jB (e := 7) 0 hJ (rg_T0_7_0_1 t120) (by first | decide | omega) (by first | decide | omega)
      refine x_getC (np := 17) (x := 519) (f := 7) (q := (h (h 45 5) 7)) (by decide +kernel) (by decide) (tg_0_519_7_0 t120) rfl (fun l122 => ?_)
      refine x_icmp (k := 3) (tg := 41) (np := 20) (by decide +kernel) (by decide) (by first | decide | omega) l122 (fun q123 => ?_) (fun q124 => ?_)
      · have q123 : (h (h 45 5) 7) ≤ v115 := q123
        refine x_iload (np := 42) (x := 2) (by decide +kernel) rfl (by first | decide | omega) ?_
        refine x_retI (np := 43) (x := 0) (by decide +kernel) (by first | decide | omega) (Or.inl (by decide +kernel)) ⟨_, rfl, (by first | decide | omega), ?_⟩
        exact ⟨rfl, (by first | decide | omega)⟩
      have q124 : ¬ ((h (h 45 5) 7) ≤ v115) := q124
      refine x_iload (np := 21) (x := 2) (by decide +kernel) rfl (by first | decide | omega) ?_
      refine x_aload (np := 22) (x := 0) (by decide +kernel) rfl (x_nc_le (by decide)) ?_
      have q125 : h 45 1 = 47 := by have z := jB (e := 1) 0 hJ rg_45_1_0_1 (by decide) (by decide); omega
      refine x_getR (np := 25) (x := 65) (f := 1) (q := 47) (by decide +kernel) (by decide) (by decide +kernel) q125 ?_
      refine x_iload (np := 26) (x := 3) (by decide +kernel) rfl (by first | decide | omega) ?_
      refine x_iload (np := 27) (x := 1) (by decide +kernel) rfl la1 ?_
      refine x_nI (t := 7) (mj := 149) (n := 2) (rc := 0) (ml := 2) (nr := 2) (np := 30) (as := [iv_c v115, iv_c a1]) (rest := [x_r 47, iv_c v113]) (lo1 := [iv_c v115, iv_c a1]) (by decide +kernel) (by decide) (by decide +kernel) (Or.inl rfl) rfl rfl (x_wi (by first | decide | omega) (x_wi la1 x_wn)) (x_wr (by decide) (x_wi (by first | decide | omega) x_wn)) (by decide) rfl ?_
      refine x_iload (np := 1) (x := 0) (by decide +kernel) rfl (by first | decide | omega) ?_
      refine x_const (np := 3) (x := 9223372064772063238) (a := 2147483654) (by decide +kernel) (by decide) (by decide) ?_
      obtain ⟨u126, q127⟩ : ∃ z, v115 = 2147483648 + z := ⟨v115 - 2147483648, by first | decide | omega⟩
      refine x_imul (np := 4) (x := 0) (i := u126) (j := 6) (v := (2147483648 + 6 * u126)) (by decide +kernel) (by first | decide | omega) (by first | decide | omega) (by first | decide | omega) (by first | decide | omega) (by first | decide | omega) (by decide) ?_
      refine x_iload (np := 5) (x := 1) (by decide +kernel) rfl la1 ?_
      refine x_iadd (np := 6) (x := 0) (v := (6 * u126 + a1)) (by decide +kernel) (by first | decide | omega) la1 (by first | decide | omega) (by first | decide | omega) ?_
      refine x_retI (np := 7) (x := 0) (by decide +kernel) (by first | decide | omega) (Or.inl (by decide +kernel)) ⟨_, rfl, (by first | decide | omega), ?_⟩
      refine x_aldC (np := 31) (x := 0) (n := 36) (i := (6 * u126 + u2)) (q := ((h 47 (6 * u126 + u2)))) (by decide +kernel) (by decide +kernel) (by first | decide | omega) (by first | decide | omega) (by decide) rfl (fun l129 => ?_)
      refine x_const (np := 32) (x := 9223372034707292159) (a := 2147483647) (by decide +kernel) (by decide) (by decide) ?_
      refine x_any (np := 33) (k9 := 2) (by decide +kernel) (by decide) l129 (by decide) (fun v130 l131 => ?_)
      refine x_any (np := 34) (k9 := 0) (by decide +kernel) (by decide) (by first | decide | omega) l131 (fun v132 l133 => ?_)
      refine x_istore (np := 35) (x := 2) (lo' := [x_r 45, iv_c a1, iv_c v132, iv_c v115]) (by decide +kernel) l133 (Nat.le_of_ble_eq_true rfl) rfl ?_
      refine x_iinc (np := 38) (i := 3) (j := 2147483649) (v := (1 + v115)) (lo' := [x_r 45, iv_c a1, iv_c v132, iv_c (1 + v115)]) (by decide +kernel) (by decide) (by decide) rfl (by first | decide | omega) (by first | decide | omega) (by first | decide | omega) rfl ?_
      refine x_goto (np := 41) (x := 9) (by decide +kernel) ?_
      exact i119 v132 (1 + v115) (by first | decide | omega) (by first | decide | omega) (by first | decide | omega)
  exact p117 _ (h 46 u2) 2147483648 (Nat.lt_succ_self _) (by first | decide | omega) (by first | decide | omega)
set_option maxHeartbeats 0 in
/-- LentNames.nameless(I)I -/
theorem c114_0 {sc : Nat × Nat} {d a1 : Nat} {h : xh} (hJ : J h) (ba1 : 0 ≤ a1 ∧ a1 ≤ 4294967295) : X sc 114 (d + 2) (xT (fun r h' => J h' ∧ Fr 0 h h' ∧ (0 ≤ r ∧ r ≤ 4294967295)) (fun E h' => J h' ∧ Fr 0 h h' ∧ (E = 2))) 0 0 0 [x_r 0, iv_c a1] [] h := by
  have la1 : a1 < 4294967296 := by first | decide | omega
  have hF := Fr.refl 0 h
  refine x_aload (np := 1) (x := 0) (by decide +kernel) rfl (x_nc_le (by decide)) ?_
  refine x_iload (np := 2) (x := 1) (by decide +kernel) rfl la1 ?_
  refine x_nU (t := 6) (mj := 145) (n := 2) (rc := 11) (ml := 2) (cc := 1) (ss := 6) (nr := 0) (np := 5) (as := [x_r 0, iv_c a1]) (rest := []) (lo1 := [x_r 0, iv_c a1]) (by decide +kernel) (by decide) (by decide +kernel) (by decide +kernel) (x_rb_of (by decide +kernel)) rfl rfl (x_wr (by decide) (x_wi la1 x_wn)) x_wn (by decide) rfl ?_
  refine x_iload (np := 1) (x := 1) (by decide +kernel) rfl la1 ?_
  refine x_ifz (k := 2) (tg := 15) (np := 4) (by decide +kernel) (by decide) la1 (fun q1 => ?_) (fun q2 => ?_)
  · have q1 : a1 < 2147483648 := q1
    refine x_thr (np := 18) (x := 2) (by decide +kernel) (by decide +kernel) (Nat.le_trans x_wn (by decide)) (Or.inr ⟨_, rfl, ?_⟩)
    refine Or.inr ⟨_, rfl, ?_⟩
    exact ⟨hJ, hF, by decide⟩
  have q2 : ¬ (a1 < 2147483648) := q2
  refine x_iload (np := 5) (x := 1) (by decide +kernel) rfl la1 ?_
  refine x_aload (np := 6) (x := 0) (by decide +kernel) rfl (x_nc_le (by decide)) ?_
  have t3 : tw (h 0 8) := hJ.2.1
  refine x_getR (np := 9) (x := 648) (f := 8) (q := (h 0 8)) (by decide +kernel) (by decide) (by decide +kernel) rfl ?_
  have b4 := jB (e := 7) 0 hJ (rg_T0_7_0_1 t3) (by first | decide | omega) (by first | decide | omega)
  refine x_getC (np := 12) (x := 519) (f := 7) (q := (h (h 0 8) 7)) (by decide +kernel) (by decide) (tg_0_519_7_0 t3) rfl (fun l5 => ?_)
  refine x_icmp (k := 2) (tg := 26) (np := 15) (by decide +kernel) (by decide) la1 l5 (fun q6 => ?_) (fun q7 => ?_)
  · have q6 : a1 < (h (h 0 8) 7) := q6
    refine x_retV (np := 27) (x := 0) (by decide +kernel) (by decide +kernel) (Or.inl ⟨rfl, ?_⟩)
    refine x_aload (np := 6) (x := 0) (by decide +kernel) rfl (x_nc_le (by decide)) ?_
    have q8 : h 0 1 = 45 := by have z := jB (e := 1) 0 hJ rg_0_1_0_1 (by decide) (by decide); omega
    refine x_getR (np := 9) (x := 641) (f := 1) (q := 45) (by decide +kernel) (by decide) (by decide +kernel) q8 ?_
    refine x_iload (np := 10) (x := 1) (by decide +kernel) rfl la1 ?_
    refine x_cP (t := 6) (mj := 9) (n := 2) (rc := 2) (ml := 4) (nr := 0) (np := 13) (as := [x_r 45, iv_c a1]) (rest := []) (lo1 := [x_r 45, iv_c a1, 147573952589676412928, 147573952589676412928]) (by decide +kernel) (by decide) (by decide +kernel) (x_rb_of (by decide +kernel)) rfl rfl (x_wr (by decide) (x_wi la1 x_wn)) x_wn (by decide) rfl (c9_45 hJ  (by first | decide | omega)) (fun v9 l10 q11 => ?_)
    refine x_retI (np := 14) (x := 0) (by decide +kernel) l10 (Or.inl (by decide +kernel)) (Or.inl ⟨_, rfl, l10, ?_⟩)
    exact ⟨hJ, hF, (by first | decide | omega)⟩
  have q7 : ¬ (a1 < (h (h 0 8) 7)) := q7
  refine x_thr (np := 18) (x := 2) (by decide +kernel) (by decide +kernel) (Nat.le_trans x_wn (by decide)) (Or.inr ⟨_, rfl, ?_⟩)
  refine Or.inr ⟨_, rfl, ?_⟩
  exact ⟨hJ, hF, by decide⟩
set_option maxHeartbeats 0 in
/-- LentNamesLaw.nameless(LLentNames;I[J)I -/
theorem c288_0_97 {sc : Nat × Nat} {d a1 : Nat} {h : xh} (hJ : J h) (ba1 : 0 ≤ a1 ∧ a1 ≤ 4294967295) : X sc 288 (d + 3) (xI fun r h' => J h' ∧ Fr 70368744177664 h h' ∧ (2147483648 ≤ r ∧ r ≤ 2147483649)) 0 0 0 [x_r 0, iv_c a1, x_r 97, 147573952589676412928] [] h := by
  have la1 : a1 < 4294967296 := by first | decide | omega
  have hF := Fr.refl 70368744177664 h
  refine x_aload (np := 1) (x := 2) (by decide +kernel) rfl (x_nc_le (by decide)) ?_
  refine x_const (np := 2) (x := 9223372039002259456) (a := 2147483648) (by decide +kernel) (by decide) (by decide) ?_
  refine x_aload (np := 3) (x := 0) (by decide +kernel) rfl (x_nc_le (by decide)) ?_
  refine x_iload (np := 4) (x := 1) (by decide +kernel) rfl la1 ?_
  refine x_cT (t := 6) (mj := 114) (n := 2) (rc := 11) (ml := 2) (cc := 1) (ss := 6) (nr := 2) (np := 7) (as := [x_r 0, iv_c a1]) (rest := [iv_c 2147483648, x_r 97]) (lo1 := [x_r 0, iv_c a1]) (by decide +kernel) (by decide) (by decide +kernel) (x_rb_of (by decide +kernel)) rfl rfl (x_wr (by decide) (x_wi la1 x_wn)) (x_wi (by decide) (x_wr (by decide) x_wn)) (by decide) rfl (c114_0 hJ  (by first | decide | omega)) (fun v1 h4 l2 q3 => ?_) (fun E6 h7 q5 => ?_)
  · obtain ⟨j8, f9, b10⟩ := q3
    have f11 := Fr.trans hF f9 (by decide)
    refine x_i2l (np := 8) (x := 0) (by decide +kernel) l2 ?_
    refine x_last (np := 9) (x := 0) (n := 1) (i := 0) (by decide +kernel) (by decide) (by decide +kernel) (by decide +kernel) (by first | decide | omega) (by first | decide | omega) (by decide) l2 ?_
    have j13 := jU (e := 0) (v := v1) 0 j8 rg_97_0_1_1 (by first | decide | omega) (by first | decide | omega) (by first | decide | omega)
    have f15 := jF (e := 0) (v := v1) 0 f11 rg_97_0_1_1 (by first | decide | omega) (by first | decide | omega) (by decide)
    generalize e14 : x_up h4 97 0 v1 = h12 at j13 f15 ⊢
    refine x_goto (np := 12) (x := 15) (by decide +kernel) ?_
    refine x_const (np := 16) (x := 9223372039002259456) (a := 2147483648) (by decide +kernel) (by decide) (by decide) ?_
    refine x_retI (np := 17) (x := 0) (by decide +kernel) (by decide) (Or.inl (by decide +kernel)) ⟨_, rfl, (by decide), ?_⟩
    exact ⟨j13, f15, (by first | decide | omega)⟩
  obtain ⟨j16, f17, e18⟩ := q5
  have f19 := Fr.trans hF f17 (by decide)
  rcases e18 with rfl
  · refine ⟨12, fun _ _ => rfl, ?_⟩
    refine x_astE (np := 13) (x := 3) (lo' := [x_r 0, iv_c a1, x_r 97, 55340232221128654850]) (by decide +kernel) (Nat.le_of_ble_eq_true rfl) rfl ?_
    refine x_const (np := 14) (x := 9223372043297226753) (a := 2147483649) (by decide +kernel) (by decide) (by decide) ?_
    refine x_retI (np := 15) (x := 0) (by decide +kernel) (by decide) (Or.inl (by decide +kernel)) ⟨_, rfl, (by decide), ?_⟩
    exact ⟨j16, f19, (by first | decide | omega)⟩
set_option maxHeartbeats 0 in
/-- LentNames.longest(I)I -/
theorem c115_0 {sc : Nat × Nat} {d a1 : Nat} {h : xh} (hJ : J h) (ba1 : 0 ≤ a1 ∧ a1 ≤ 4294967295) : X sc 115 (d + 2) (xT (fun r h' => J h' ∧ Fr 0 h h' ∧ (2147483648 ≤ r ∧ r ≤ 2147483660)) (fun E h' => J h' ∧ Fr 0 h h' ∧ (E = 2))) 0 0 0 [x_r 0, iv_c a1, 147573952589676412928, 147573952589676412928, 147573952589676412928] [] h := by
  have la1 : a1 < 4294967296 := by first | decide | omega
  have hF := Fr.refl 0 h
  refine x_aload (np := 1) (x := 0) (by decide +kernel) rfl (x_nc_le (by decide)) ?_
  refine x_iload (np := 2) (x := 1) (by decide +kernel) rfl la1 ?_
  refine x_nU (t := 6) (mj := 145) (n := 2) (rc := 11) (ml := 2) (cc := 1) (ss := 6) (nr := 0) (np := 5) (as := [x_r 0, iv_c a1]) (rest := []) (lo1 := [x_r 0, iv_c a1]) (by decide +kernel) (by decide) (by decide +kernel) (by decide +kernel) (x_rb_of (by decide +kernel)) rfl rfl (x_wr (by decide) (x_wi la1 x_wn)) x_wn (by decide) rfl ?_
  refine x_iload (np := 1) (x := 1) (by decide +kernel) rfl la1 ?_
  refine x_ifz (k := 2) (tg := 15) (np := 4) (by decide +kernel) (by decide) la1 (fun q1 => ?_) (fun q2 => ?_)
  · have q1 : a1 < 2147483648 := q1
    refine x_thr (np := 18) (x := 2) (by decide +kernel) (by decide +kernel) (Nat.le_trans x_wn (by decide)) (Or.inr ⟨_, rfl, ?_⟩)
    refine Or.inr ⟨_, rfl, ?_⟩
    exact ⟨hJ, hF, by decide⟩
  have q2 : ¬ (a1 < 2147483648) := q2
  refine x_iload (np := 5) (x := 1) (by decide +kernel) rfl la1 ?_
  refine x_aload (np := 6) (x := 0) (by decide +kernel) rfl (x_nc_le (by decide)) ?_
  have t3 : tw (h 0 8) := hJ.2.1
  refine x_getR (np := 9) (x := 648) (f := 8) (q := (h 0 8)) (by decide +kernel) (by decide) (by decide +kernel) rfl ?_
  have b4 := jB (e := 7) 0 hJ (rg_T0_7_0_1 t3) (by first | decide | omega) (by first | decide | omega)
  refine x_getC (np := 12) (x := 519) (f := 7) (q := (h (h 0 8) 7)) (by decide +kernel) (by decide) (tg_0_519_7_0 t3) rfl (fun l5 => ?_)
  refine x_icmp (k := 2) (tg := 26) (np := 15) (by decide +kernel) (by decide) la1 l5 (fun q6 => ?_) (fun q7 => ?_)
  · have q6 : a1 < (h (h 0 8) 7) := q6
    refine x_retV (np := 27) (x := 0) (by decide +kernel) (by decide +kernel) (Or.inl ⟨rfl, ?_⟩)
    refine x_aload (np := 6) (x := 0) (by decide +kernel) rfl (x_nc_le (by decide)) ?_
    have q8 : h 0 1 = 45 := by have z := jB (e := 1) 0 hJ rg_0_1_0_1 (by decide) (by decide); omega
    refine x_getR (np := 9) (x := 641) (f := 1) (q := 45) (by decide +kernel) (by decide) (by decide +kernel) q8 ?_
    refine x_iload (np := 10) (x := 1) (by decide +kernel) rfl la1 ?_
    refine x_cP (t := 6) (mj := 9) (n := 2) (rc := 2) (ml := 4) (nr := 0) (np := 13) (as := [x_r 45, iv_c a1]) (rest := []) (lo1 := [x_r 45, iv_c a1, 147573952589676412928, 147573952589676412928]) (by decide +kernel) (by decide) (by decide +kernel) (x_rb_of (by decide +kernel)) rfl rfl (x_wr (by decide) (x_wi la1 x_wn)) x_wn (by decide) rfl (c9_45 hJ  (by first | decide | omega)) (fun v9 l10 q11 => ?_)
    refine x_istore (np := 14) (x := 2) (lo' := [x_r 0, iv_c a1, iv_c v9, 147573952589676412928, 147573952589676412928]) (by decide +kernel) l10 (Nat.le_of_ble_eq_true rfl) rfl ?_
    refine x_const (np := 15) (x := 9223372039002259456) (a := 2147483648) (by decide +kernel) (by decide) (by decide) ?_
    refine x_istore (np := 16) (x := 3) (lo' := [x_r 0, iv_c a1, iv_c v9, iv_c 2147483648, 147573952589676412928]) (by decide +kernel) (by decide) (Nat.le_of_ble_eq_true rfl) rfl ?_
    refine x_const (np := 17) (x := 9223372043297226753) (a := 2147483649) (by decide +kernel) (by decide) (by decide) ?_
    refine x_istore (np := 19) (x := 4) (lo' := [x_r 0, iv_c a1, iv_c v9, iv_c 2147483648, iv_c 2147483649]) (by decide +kernel) (by decide) (Nat.le_of_ble_eq_true rfl) rfl ?_
    have p172 : ∀ (n : Nat) (v166 : Nat) (v168 : Nat) (v170 : Nat), 4294967296 - v170 < n → (0 ≤ v166 ∧ v166 ≤ 4294967295) → (2147483648 ≤ v168 ∧ v168 ≤ 2147483660) → (2147483649 ≤ v170 ∧ v170 ≤ 2147483661) → X sc 115 (d + 2) (xT (fun r h' => J h' ∧ Fr 0 h h' ∧ (2147483648 ≤ r ∧ r ≤ 2147483660)) (fun E h' => J h' ∧ Fr 0 h h' ∧ (E = 2))) 1 6 19 [x_r 0, iv_c a1, iv_c v166, iv_c v168, iv_c v170] [] h := by
      intro n
      induction n with
      | zero => intro v166 v168 v170 q173; exact absurd q173 (Nat.not_lt_zero _)
      | succ n i174 =>
        intro v166 v168 v170 q173 b167 b169 b171
        refine x_iload (np := 21) (x := 4) (by decide +kernel) rfl (by first | decide | omega) ?_
        refine x_const (np := 23) (x := 9223372090541867020) (a := 2147483660) (by decide +kernel) (by decide) (by decide) ?_
        refine x_icmp (k := 4) (tg := 44) (np := 26) (by decide +kernel) (by decide) (by first | decide | omega) (by decide) (fun q175 => ?_) (fun q176 => ?_)
        · have q175 : 2147483660 < v170 := q175
          refine x_iload (np := 45) (x := 3) (by decide +kernel) rfl (by first | decide | omega) ?_
          refine x_retI (np := 46) (x := 0) (by decide +kernel) (by first | decide | omega) (Or.inl (by decide +kernel)) (Or.inl ⟨_, rfl, (by first | decide | omega), ?_⟩)
          exact ⟨hJ, hF, (by first | decide | omega)⟩
        have q176 : ¬ (2147483660 < v170) := q176
        refine x_iload (np := 27) (x := 2) (by decide +kernel) rfl (by first | decide | omega) ?_
        refine x_ifz (k := 0) (tg := 44) (np := 30) (by decide +kernel) (by decide) (by first | decide | omega) (fun q177 => ?_) (fun q178 => ?_)
        · have q177 : v166 = 2147483648 := q177
          refine x_iload (np := 45) (x := 3) (by decide +kernel) rfl (by first | decide | omega) ?_
          refine x_retI (np := 46) (x := 0) (by decide +kernel) (by first | decide | omega) (Or.inl (by decide +kernel)) (Or.inl ⟨_, rfl, (by first | decide | omega), ?_⟩)
          exact ⟨hJ, hF, (by first | decide | omega)⟩
        have q178 : ¬ (v166 = 2147483648) := q178
        refine x_iload (np := 32) (x := 4) (by decide +kernel) rfl (by first | decide | omega) ?_
        refine x_istore (np := 33) (x := 3) (lo' := [x_r 0, iv_c a1, iv_c v166, iv_c v170, iv_c v170]) (by decide +kernel) (by first | decide | omega) (Nat.le_of_ble_eq_true rfl) rfl ?_
        refine x_iload (np := 34) (x := 2) (by decide +kernel) rfl (by first | decide | omega) ?_
        refine x_nI (t := 0) (mj := 151) (n := 1) (rc := 0) (ml := 1) (nr := 0) (np := 37) (as := [iv_c v166]) (rest := []) (lo1 := [iv_c v166]) (by decide +kernel) (by decide) (by decide +kernel) (Or.inl rfl) rfl rfl (x_wi (by first | decide | omega) x_wn) x_wn (by decide) rfl ?_
        refine x_iload (np := 1) (x := 0) (by decide +kernel) rfl (by first | decide | omega) ?_
        refine x_iload (np := 2) (x := 0) (by decide +kernel) rfl (by first | decide | omega) ?_
        refine x_const (np := 3) (x := 9223372043297226753) (a := 2147483649) (by decide +kernel) (by decide) (by decide) ?_
        refine x_any (np := 4) (k9 := 3) (by decide +kernel) (by decide) (by first | decide | omega) (by decide) (fun v179 l180 => ?_)
        refine x_any (np := 5) (k9 := 0) (by decide +kernel) (by decide) (by first | decide | omega) l180 (fun v181 l182 => ?_)
        refine x_retI (np := 6) (x := 0) (by decide +kernel) l182 (Or.inl (by decide +kernel)) ⟨_, rfl, l182, ?_⟩
        refine x_istore (np := 38) (x := 2) (lo' := [x_r 0, iv_c a1, iv_c v181, iv_c v170, iv_c v170]) (by decide +kernel) l182 (Nat.le_of_ble_eq_true rfl) rfl ?_
        refine x_iinc (np := 41) (i := 4) (j := 2147483649) (v := (1 + v170)) (lo' := [x_r 0, iv_c a1, iv_c v181, iv_c v170, iv_c (1 + v170)]) (by decide +kernel) (by decide) (by decide) rfl (by first | decide | omega) (by first | decide | omega) (by first | decide | omega) rfl ?_
        refine x_goto (np := 44) (x := 19) (by decide +kernel) ?_
        exact i174 v181 v170 (1 + v170) (by first | decide | omega) (by first | decide | omega) (by first | decide | omega) (by first | decide | omega)
    exact p172 _ v9 2147483648 2147483649 (Nat.lt_succ_self _) (by first | decide | omega) (by first | decide | omega) (by first | decide | omega)
  have q7 : ¬ (a1 < (h (h 0 8) 7)) := q7
  refine x_thr (np := 18) (x := 2) (by decide +kernel) (by decide +kernel) (Nat.le_trans x_wn (by decide)) (Or.inr ⟨_, rfl, ?_⟩)
  refine Or.inr ⟨_, rfl, ?_⟩
  exact ⟨hJ, hF, by decide⟩
set_option maxHeartbeats 0 in
/-- LentNamesLaw.longest(LLentNames;I[J)I -/
theorem c289_0_97 {sc : Nat × Nat} {d a1 : Nat} {h : xh} (hJ : J h) (ba1 : 0 ≤ a1 ∧ a1 ≤ 4294967295) : X sc 289 (d + 3) (xI fun r h' => J h' ∧ Fr 70368744177664 h h' ∧ (2147483648 ≤ r ∧ r ≤ 2147483649)) 0 0 0 [x_r 0, iv_c a1, x_r 97, 147573952589676412928] [] h := by
  have la1 : a1 < 4294967296 := by first | decide | omega
  have hF := Fr.refl 70368744177664 h
  refine x_aload (np := 1) (x := 2) (by decide +kernel) rfl (x_nc_le (by decide)) ?_
  refine x_const (np := 2) (x := 9223372039002259456) (a := 2147483648) (by decide +kernel) (by decide) (by decide) ?_
  refine x_aload (np := 3) (x := 0) (by decide +kernel) rfl (x_nc_le (by decide)) ?_
  refine x_iload (np := 4) (x := 1) (by decide +kernel) rfl la1 ?_
  refine x_cT (t := 6) (mj := 115) (n := 2) (rc := 11) (ml := 5) (cc := 1) (ss := 6) (nr := 2) (np := 7) (as := [x_r 0, iv_c a1]) (rest := [iv_c 2147483648, x_r 97]) (lo1 := [x_r 0, iv_c a1, 147573952589676412928, 147573952589676412928, 147573952589676412928]) (by decide +kernel) (by decide) (by decide +kernel) (x_rb_of (by decide +kernel)) rfl rfl (x_wr (by decide) (x_wi la1 x_wn)) (x_wi (by decide) (x_wr (by decide) x_wn)) (by decide) rfl (c115_0 hJ  (by first | decide | omega)) (fun v1 h4 l2 q3 => ?_) (fun E6 h7 q5 => ?_)
  · obtain ⟨j8, f9, b10⟩ := q3
    have f11 := Fr.trans hF f9 (by decide)
    refine x_i2l (np := 8) (x := 0) (by decide +kernel) l2 ?_
    refine x_last (np := 9) (x := 0) (n := 1) (i := 0) (by decide +kernel) (by decide) (by decide +kernel) (by decide +kernel) (by first | decide | omega) (by first | decide | omega) (by decide) l2 ?_
    have j13 := jU (e := 0) (v := v1) 0 j8 rg_97_0_1_1 (by first | decide | omega) (by first | decide | omega) (by first | decide | omega)
    have f15 := jF (e := 0) (v := v1) 0 f11 rg_97_0_1_1 (by first | decide | omega) (by first | decide | omega) (by decide)
    generalize e14 : x_up h4 97 0 v1 = h12 at j13 f15 ⊢
    refine x_goto (np := 12) (x := 15) (by decide +kernel) ?_
    refine x_const (np := 16) (x := 9223372039002259456) (a := 2147483648) (by decide +kernel) (by decide) (by decide) ?_
    refine x_retI (np := 17) (x := 0) (by decide +kernel) (by decide) (Or.inl (by decide +kernel)) ⟨_, rfl, (by decide), ?_⟩
    exact ⟨j13, f15, (by first | decide | omega)⟩
  obtain ⟨j16, f17, e18⟩ := q5
  have f19 := Fr.trans hF f17 (by decide)
  rcases e18 with rfl
  · refine ⟨12, fun _ _ => rfl, ?_⟩
    refine x_astE (np := 13) (x := 3) (lo' := [x_r 0, iv_c a1, x_r 97, 55340232221128654850]) (by decide +kernel) (Nat.le_of_ble_eq_true rfl) rfl ?_
    refine x_const (np := 14) (x := 9223372043297226753) (a := 2147483649) (by decide +kernel) (by decide) (by decide) ?_
    refine x_retI (np := 15) (x := 0) (by decide +kernel) (by decide) (Or.inl (by decide +kernel)) ⟨_, rfl, (by decide), ?_⟩
    exact ⟨j16, f19, (by first | decide | omega)⟩
set_option maxHeartbeats 0 in
/-- LentNames.lives(II)Z -/
theorem c116_0 {sc : Nat × Nat} {d a1 a2 : Nat} {h : xh} (hJ : J h) (ba1 : 0 ≤ a1 ∧ a1 ≤ 4294967295) (ba2 : 0 ≤ a2 ∧ a2 ≤ 4294967295) : X sc 116 (d + 1) (xT (fun r h' => J h' ∧ Fr 0 h h' ∧ (2147483648 ≤ r ∧ r ≤ 2147483649) ∧ h' = h ∧ ∃ u, a1 = 2147483648 + u ∧ u < 6 ∧ a1 < tv h 0 ∧ 2147483648 ≤ a2 ∧ a2 ≤ 2147483659 ∧ ((r = 2147483649 ∧ hb9 (h 46 u) a2 = 2147483649) ∨ (r = 2147483648 ∧ hb9 (h 46 u) a2 ≠ 2147483649))) (fun E h' => J h' ∧ Fr 0 h h' ∧ (E = 2) ∧ (E = 2 ∧ (a1 < 2147483648 ∨ tv h 0 ≤ a1 ∨ a2 < 2147483648 ∨ 2147483659 < a2)) ∧ h' = h)) 0 0 0 [x_r 0, iv_c a1, iv_c a2] [] h := by
  have la1 : a1 < 4294967296 := by first | decide | omega
  have la2 : a2 < 4294967296 := by first | decide | omega
  have hF := Fr.refl 0 h
  refine x_aload (np := 1) (x := 0) (by decide +kernel) rfl (x_nc_le (by decide)) ?_
  refine x_iload (np := 2) (x := 1) (by decide +kernel) rfl la1 ?_
  refine x_nU (t := 6) (mj := 145) (n := 2) (rc := 11) (ml := 2) (cc := 1) (ss := 6) (nr := 0) (np := 5) (as := [x_r 0, iv_c a1]) (rest := []) (lo1 := [x_r 0, iv_c a1]) (by decide +kernel) (by decide) (by decide +kernel) (by decide +kernel) (x_rb_of (by decide +kernel)) rfl rfl (x_wr (by decide) (x_wi la1 x_wn)) x_wn (by decide) rfl ?_
  refine x_iload (np := 1) (x := 1) (by decide +kernel) rfl la1 ?_
  refine x_ifz (k := 2) (tg := 15) (np := 4) (by decide +kernel) (by decide) la1 (fun q1 => ?_) (fun q2 => ?_)
  · have q1 : a1 < 2147483648 := q1
    have t3 : tw (h 0 8) := hJ.2.1
    have b4 := jB (e := 7) 0 hJ (rg_T0_7_0_1 t3) (by first | decide | omega) (by first | decide | omega)
    have e5 : tv h 0 = (h (h 0 8) 7) := (congrArg (fun z => svq h z 0) rfl).trans rfl
    refine x_thr (np := 18) (x := 2) (by decide +kernel) (by decide +kernel) (Nat.le_trans x_wn (by decide)) (Or.inr ⟨_, rfl, ?_⟩)
    refine Or.inr ⟨_, rfl, ?_⟩
    exact ⟨hJ, hF, by decide, ⟨rfl, by first | decide | omega⟩, rfl⟩
  have q2 : ¬ (a1 < 2147483648) := q2
  refine x_iload (np := 5) (x := 1) (by decide +kernel) rfl la1 ?_
  refine x_aload (np := 6) (x := 0) (by decide +kernel) rfl (x_nc_le (by decide)) ?_
  have t6 : tw (h 0 8) := hJ.2.1
  refine x_getR (np := 9) (x := 648) (f := 8) (q := (h 0 8)) (by decide +kernel) (by decide) (by decide +kernel) rfl ?_
  have b7 := jB (e := 7) 0 hJ (rg_T0_7_0_1 t6) (by first | decide | omega) (by first | decide | omega)
  refine x_getC (np := 12) (x := 519) (f := 7) (q := (h (h 0 8) 7)) (by decide +kernel) (by decide) (tg_0_519_7_0 t6) rfl (fun l8 => ?_)
  refine x_icmp (k := 2) (tg := 26) (np := 15) (by decide +kernel) (by decide) la1 l8 (fun q9 => ?_) (fun q10 => ?_)
  · have q9 : a1 < (h (h 0 8) 7) := q9
    refine x_retV (np := 27) (x := 0) (by decide +kernel) (by decide +kernel) (Or.inl ⟨rfl, ?_⟩)
    refine x_iload (np := 6) (x := 2) (by decide +kernel) rfl la2 ?_
    refine x_nU (t := 0) (mj := 146) (n := 1) (rc := 0) (ml := 1) (cc := 1) (ss := 6) (nr := 0) (np := 9) (as := [iv_c a2]) (rest := []) (lo1 := [iv_c a2]) (by decide +kernel) (by decide) (by decide +kernel) (by decide +kernel) (Or.inl rfl) rfl rfl (x_wi la2 x_wn) x_wn (by decide) rfl ?_
    refine x_iload (np := 1) (x := 0) (by decide +kernel) rfl la2 ?_
    refine x_ifz (k := 2) (tg := 10) (np := 4) (by decide +kernel) (by decide) la2 (fun q11 => ?_) (fun q12 => ?_)
    · have q11 : a2 < 2147483648 := q11
      have e13 : tv h 0 = (h (h 0 8) 7) := (congrArg (fun z => svq h z 0) rfl).trans rfl
      refine x_thr (np := 13) (x := 2) (by decide +kernel) (by decide +kernel) (Nat.le_trans x_wn (by decide)) (Or.inr ⟨_, rfl, ?_⟩)
      refine Or.inr ⟨_, rfl, ?_⟩
      exact ⟨hJ, hF, by decide, ⟨rfl, by first | decide | omega⟩, rfl⟩
    have q12 : ¬ (a2 < 2147483648) := q12
    refine x_iload (np := 5) (x := 0) (by decide +kernel) rfl la2 ?_
    refine x_const (np := 7) (x := 9223372090541867020) (a := 2147483660) (by decide +kernel) (by decide) (by decide) ?_
    refine x_icmp (k := 2) (tg := 21) (np := 10) (by decide +kernel) (by decide) la2 (by decide) (fun q14 => ?_) (fun q15 => ?_)
    · have q14 : a2 < 2147483660 := q14
      refine x_retV (np := 22) (x := 0) (by decide +kernel) (by decide +kernel) (Or.inl ⟨rfl, ?_⟩)
      refine x_aload (np := 10) (x := 0) (by decide +kernel) rfl (x_nc_le (by decide)) ?_
      have q16 : h 0 1 = 45 := by have z := jB (e := 1) 0 hJ rg_0_1_0_1 (by decide) (by decide); omega
      refine x_getR (np := 13) (x := 641) (f := 1) (q := 45) (by decide +kernel) (by decide) (by decide +kernel) q16 ?_
      have q17 : h 45 0 = 46 := by have z := jB (e := 0) 0 hJ rg_45_0_0_1 (by decide) (by decide); omega
      refine x_getR (np := 16) (x := 64) (f := 0) (q := 46) (by decide +kernel) (by decide) (by decide +kernel) q17 ?_
      refine x_iload (np := 17) (x := 1) (by decide +kernel) rfl la1 ?_
      obtain ⟨u18, q19⟩ : ∃ z, a1 = 2147483648 + z := ⟨a1 - 2147483648, by first | decide | omega⟩
      refine x_aldC (np := 18) (x := 0) (n := 6) (i := u18) (q := (h 46 u18)) (by decide +kernel) (by decide +kernel) (by first | decide | omega) (by first | decide | omega) (by decide) rfl (fun l20 => ?_)
      refine x_iload (np := 19) (x := 2) (by decide +kernel) rfl la2 ?_
      refine x_cP (t := 0) (mj := 148) (n := 2) (rc := 0) (ml := 2) (nr := 0) (np := 22) (as := [iv_c (h 46 u18), iv_c a2]) (rest := []) (lo1 := [iv_c (h 46 u18), iv_c a2]) (by decide +kernel) (by decide) (by decide +kernel) (Or.inl rfl) rfl rfl (x_wi l20 (x_wi la2 x_wn)) x_wn (by decide) rfl (c148 hJ (by first | decide | omega) (by first | decide | omega)) (fun v21 l22 q23 => ?_)
      obtain ⟨b25, c24⟩ := q23
      have e26 : tv h 0 = (h (h 0 8) 7) := (congrArg (fun z => svq h z 0) rfl).trans rfl
      refine x_retI (np := 23) (x := 0) (by decide +kernel) l22 (Or.inr ⟨by decide +kernel, by first | decide | omega, by first | decide | omega⟩) (Or.inl ⟨_, rfl, l22, ?_⟩)
      exact ⟨hJ, hF, (by first | decide | omega), rfl, ⟨u18, by first | decide | omega, by first | decide | omega, by first | decide | omega, by first | decide | omega, by first | decide | omega, c24⟩⟩
    have q15 : ¬ (a2 < 2147483660) := q15
    have e27 : tv h 0 = (h (h 0 8) 7) := (congrArg (fun z => svq h z 0) rfl).trans rfl
    refine x_thr (np := 13) (x := 2) (by decide +kernel) (by decide +kernel) (Nat.le_trans x_wn (by decide)) (Or.inr ⟨_, rfl, ?_⟩)
    refine Or.inr ⟨_, rfl, ?_⟩
    exact ⟨hJ, hF, by decide, ⟨rfl, by first | decide | omega⟩, rfl⟩
  have q10 : ¬ (a1 < (h (h 0 8) 7)) := q10
  have e28 : tv h 0 = (h (h 0 8) 7) := (congrArg (fun z => svq h z 0) rfl).trans rfl
  refine x_thr (np := 18) (x := 2) (by decide +kernel) (by decide +kernel) (Nat.le_trans x_wn (by decide)) (Or.inr ⟨_, rfl, ?_⟩)
  refine Or.inr ⟨_, rfl, ?_⟩
  exact ⟨hJ, hF, by decide, ⟨rfl, by first | decide | omega⟩, rfl⟩
set_option maxHeartbeats 0 in
/-- LentNamesLaw.lives(LLentNames;II[J)I -/
theorem c290_0_97 {sc : Nat × Nat} {d a1 a2 : Nat} {h : xh} (hJ : J h) (ba1 : 0 ≤ a1 ∧ a1 ≤ 4294967295) (ba2 : 0 ≤ a2 ∧ a2 ≤ 4294967295) : X sc 290 (d + 2) (xI fun r h' => J h' ∧ Fr 70368744177664 h h' ∧ (2147483648 ≤ r ∧ r ≤ 2147483649) ∧ Lc h h' a1 a2 r) 0 0 0 [x_r 0, iv_c a1, iv_c a2, x_r 97, 147573952589676412928] [] h := by
  have la1 : a1 < 4294967296 := by first | decide | omega
  have la2 : a2 < 4294967296 := by first | decide | omega
  have hF := Fr.refl 70368744177664 h
  refine x_aload (np := 1) (x := 3) (by decide +kernel) rfl (x_nc_le (by decide)) ?_
  refine x_const (np := 2) (x := 9223372039002259456) (a := 2147483648) (by decide +kernel) (by decide) (by decide) ?_
  refine x_aload (np := 3) (x := 0) (by decide +kernel) rfl (x_nc_le (by decide)) ?_
  refine x_iload (np := 4) (x := 1) (by decide +kernel) rfl la1 ?_
  refine x_iload (np := 5) (x := 2) (by decide +kernel) rfl la2 ?_
  refine x_cT (t := 6) (mj := 116) (n := 3) (rc := 11) (ml := 3) (cc := 2) (ss := 12) (nr := 2) (np := 8) (as := [x_r 0, iv_c a1, iv_c a2]) (rest := [iv_c 2147483648, x_r 97]) (lo1 := [x_r 0, iv_c a1, iv_c a2]) (by decide +kernel) (by decide) (by decide +kernel) (x_rb_of (by decide +kernel)) rfl rfl (x_wr (by decide) (x_wi la1 (x_wi la2 x_wn))) (x_wi (by decide) (x_wr (by decide) x_wn)) (by decide) rfl (c116_0 hJ  (by first | decide | omega) (by first | decide | omega)) (fun v5 h8 l6 q7 => ?_) (fun E10 h11 q9 => ?_)
  · obtain ⟨j12, f13, b14, c1, c2⟩ := q7
    have f15 := Fr.trans hF f13 (by decide)
    refine x_ifz (k := 0) (tg := 15) (np := 11) (by decide +kernel) (by decide) l6 (fun q16 => ?_) (fun q17 => ?_)
    · have q16 : v5 = 2147483648 := q16
      refine x_lconst (np := 16) (x := 0) (by decide +kernel) (by decide) ?_
      show X _ _ _ _ _ _ _ _ [(73786976294838206464 + iv_c 2147483648), iv_c 2147483648, x_r 97] _
      refine x_last (np := 17) (x := 0) (n := 1) (i := 0) (by decide +kernel) (by decide) (by decide +kernel) (by decide +kernel) (by first | decide | omega) (by first | decide | omega) (by decide) (by decide) ?_
      have j19 := jU (e := 0) (v := 2147483648) 0 j12 rg_97_0_1_1 (by first | decide | omega) (by first | decide | omega) (by first | decide | omega)
      have f21 := jF (e := 0) (v := 2147483648) 0 f15 rg_97_0_1_1 (by first | decide | omega) (by first | decide | omega) (by decide)
      generalize e20 : x_up h8 97 0 2147483648 = h18 at j19 f21 ⊢
      refine x_goto (np := 20) (x := 24) (by decide +kernel) ?_
      refine x_const (np := 25) (x := 9223372039002259456) (a := 2147483648) (by decide +kernel) (by decide) (by decide) ?_
      have q29 : h18 97 0 = 2147483648 := by rw [← e20]; exact x_up_at
      obtain ⟨z22, z23, z24, z25, z26, z27, z28⟩ := c2
      refine x_retI (np := 26) (x := 0) (by decide +kernel) (by decide) (Or.inl (by decide +kernel)) ⟨_, rfl, (by decide), ?_⟩
      exact ⟨j19, f21, (by first | decide | omega), (Or.inl ⟨by first | decide | omega, z22, z23, z24, z25, z26, z27, Or.inr ⟨by first | decide | omega, z28.elim (fun z => absurd z.1 (by first | decide | omega)) (fun z => z.2)⟩⟩)⟩
    have q17 : ¬ (v5 = 2147483648) := q17
    refine x_lconst (np := 12) (x := 1) (by decide +kernel) (by decide) ?_
    show X _ _ _ _ _ _ _ _ [(73786976294838206464 + iv_c 2147483649), iv_c 2147483648, x_r 97] _
    refine x_goto (np := 15) (x := 16) (by decide +kernel) ?_
    refine x_last (np := 17) (x := 0) (n := 1) (i := 0) (by decide +kernel) (by decide) (by decide +kernel) (by decide +kernel) (by first | decide | omega) (by first | decide | omega) (by decide) (by decide) ?_
    have j31 := jU (e := 0) (v := 2147483649) 0 j12 rg_97_0_1_1 (by first | decide | omega) (by first | decide | omega) (by first | decide | omega)
    have f33 := jF (e := 0) (v := 2147483649) 0 f15 rg_97_0_1_1 (by first | decide | omega) (by first | decide | omega) (by decide)
    generalize e32 : x_up h8 97 0 2147483649 = h30 at j31 f33 ⊢
    refine x_goto (np := 20) (x := 24) (by decide +kernel) ?_
    refine x_const (np := 25) (x := 9223372039002259456) (a := 2147483648) (by decide +kernel) (by decide) (by decide) ?_
    have q41 : h30 97 0 = 2147483649 := by rw [← e32]; exact x_up_at
    obtain ⟨z34, z35, z36, z37, z38, z39, z40⟩ := c2
    refine x_retI (np := 26) (x := 0) (by decide +kernel) (by decide) (Or.inl (by decide +kernel)) ⟨_, rfl, (by decide), ?_⟩
    exact ⟨j31, f33, (by first | decide | omega), (Or.inl ⟨by first | decide | omega, z34, z35, z36, z37, z38, z39, Or.inl ⟨by first | decide | omega, z40.elim (fun z => z.2) (fun z => absurd z.1 (by first | decide | omega))⟩⟩)⟩
  obtain ⟨j42, f43, e44, c3, c4⟩ := q9
  have f45 := Fr.trans hF f43 (by decide)
  rcases e44 with rfl
  · refine ⟨20, fun _ _ => rfl, ?_⟩
    refine x_astE (np := 22) (x := 4) (lo' := [x_r 0, iv_c a1, iv_c a2, x_r 97, 55340232221128654850]) (by decide +kernel) (Nat.le_of_ble_eq_true rfl) rfl ?_
    refine x_const (np := 23) (x := 9223372043297226753) (a := 2147483649) (by decide +kernel) (by decide) (by decide) ?_
    refine x_retI (np := 24) (x := 0) (by decide +kernel) (by decide) (Or.inl (by decide +kernel)) ⟨_, rfl, (by decide), ?_⟩
    exact ⟨j42, f45, (by first | decide | omega), (Or.inr ⟨by first | decide | omega, c3.2⟩)⟩
set_option maxHeartbeats 0 in
/-- LentNames.look(II)I -/
theorem c122_0 {sc : Nat × Nat} {d a1 a2 : Nat} {h : xh} (hJ : J h) (ba1 : 0 ≤ a1 ∧ a1 ≤ 4294967295) (ba2 : 0 ≤ a2 ∧ a2 ≤ 4294967295) : X sc 122 (d + 3) (xT (fun r h' => J h' ∧ Fr 0 h h' ∧ (0 ≤ r ∧ r ≤ 4294967295)) (fun E h' => J h' ∧ Fr 0 h h' ∧ (E = 2 ∨ E = 4))) 0 0 0 [x_r 0, iv_c a1, iv_c a2] [] h := by
  have la1 : a1 < 4294967296 := by first | decide | omega
  have la2 : a2 < 4294967296 := by first | decide | omega
  have hF := Fr.refl 0 h
  refine x_aload (np := 1) (x := 0) (by decide +kernel) rfl (x_nc_le (by decide)) ?_
  have t1 : tw (h 0 8) := hJ.2.1
  refine x_getR (np := 4) (x := 648) (f := 8) (q := (h 0 8)) (by decide +kernel) (by decide) (by decide +kernel) rfl ?_
  have q2 : h (h 0 8) 0 = ((h 0 8) + 1) := tf_0_0 hJ t1
  refine x_getR (np := 7) (x := 512) (f := 0) (q := ((h 0 8) + 1)) (by decide +kernel) (by decide) (tg_0_512_0_1 t1) q2 ?_
  refine x_iload (np := 8) (x := 1) (by decide +kernel) rfl la1 ?_
  refine x_nU (t := 0) (mj := 147) (n := 2) (rc := 0) (ml := 2) (cc := 1) (ss := 6) (nr := 0) (np := 11) (as := [x_r ((h 0 8) + 1), iv_c a1]) (rest := []) (lo1 := [x_r ((h 0 8) + 1), iv_c a1]) (by decide +kernel) (by decide) (by decide +kernel) (by decide +kernel) (Or.inl rfl) rfl rfl (x_wr (tn_1 t1) (x_wi la1 x_wn)) x_wn (by decide) rfl ?_
  refine x_iload (np := 1) (x := 1) (by decide +kernel) rfl la1 ?_
  refine x_ifz (k := 2) (tg := 12) (np := 4) (by decide +kernel) (by decide) la1 (fun q3 => ?_) (fun q4 => ?_)
  · have q3 : a1 < 2147483648 := q3
    refine x_thr (np := 15) (x := 2) (by decide +kernel) (by decide +kernel) (Nat.le_trans x_wn (by decide)) (Or.inr ⟨_, rfl, ?_⟩)
    refine Or.inr ⟨_, rfl, ?_⟩
    exact ⟨hJ, hF, by decide⟩
  have q4 : ¬ (a1 < 2147483648) := q4
  refine x_iload (np := 5) (x := 1) (by decide +kernel) rfl la1 ?_
  refine x_aload (np := 6) (x := 0) (by decide +kernel) rfl (x_nc_le (tn_1 t1)) ?_
  have b5 := jB (e := 2) 0 hJ (rg_T1_2_0_1 t1) (by first | decide | omega) (by first | decide | omega)
  refine x_getC (np := 9) (x := 386) (f := 2) (q := (h ((h 0 8) + 1) 2)) (by decide +kernel) (by decide) (tg_1_386_2_0 t1) rfl (fun l6 => ?_)
  refine x_icmp (k := 2) (tg := 23) (np := 12) (by decide +kernel) (by decide) la1 l6 (fun q7 => ?_) (fun q8 => ?_)
  · have q7 : a1 < (h ((h 0 8) + 1) 2) := q7
    refine x_retV (np := 24) (x := 0) (by decide +kernel) (by decide +kernel) (Or.inl ⟨rfl, ?_⟩)
    refine x_iload (np := 12) (x := 2) (by decide +kernel) rfl la2 ?_
    rcases (show a2 < 2147483648 ∨ 2147483655 < a2 ∨ (a2 = 2147483648 ∨ a2 = 2147483649 ∨ a2 = 2147483650 ∨ a2 = 2147483651 ∨ a2 = 2147483652 ∨ a2 = 2147483653 ∨ a2 = 2147483654 ∨ a2 = 2147483655) by first | decide | omega) with q9 | q9 | q9 | q9 | q9 | q9 | q9 | q9 | q9 | q9
    · refine x_tsw0 (np := 13) (x := 0) (by decide +kernel) la2 (lo9 := 2147483648) (hi9 := 2147483655) (tg := 157) (by decide +kernel) (Or.inl q9) ?_
      refine x_thrN (is := 229) (text := "a loan has no such number") rfl rfl (List.mem_of_getElem? (i := 8) rfl) (by rw [tb_b122]; decide +kernel) (by rw [tb_b122]; decide +kernel) (by rw [tb_b122]; decide +kernel) (by rw [tb_b122]; decide +kernel) (by rw [tb_b122]; decide +kernel) (by decide +kernel) (Nat.le_trans x_wn (by decide)) (Or.inr ⟨_, rfl, ?_⟩)
      exact ⟨hJ, hF, by decide⟩
    · refine x_tsw0 (np := 13) (x := 0) (by decide +kernel) la2 (lo9 := 2147483648) (hi9 := 2147483655) (tg := 157) (by decide +kernel) (Or.inr q9) ?_
      refine x_thrN (is := 229) (text := "a loan has no such number") rfl rfl (List.mem_of_getElem? (i := 8) rfl) (by rw [tb_b122]; decide +kernel) (by rw [tb_b122]; decide +kernel) (by rw [tb_b122]; decide +kernel) (by rw [tb_b122]; decide +kernel) (by rw [tb_b122]; decide +kernel) (by decide +kernel) (Nat.le_trans x_wn (by decide)) (Or.inr ⟨_, rfl, ?_⟩)
      exact ⟨hJ, hF, by decide⟩
    · refine x_tsw1 (np := 13) (x := 0) (by decide +kernel) la2 (i := 0) (lo9 := 2147483648) (hi9 := 2147483655) (tg := 60) (by decide +kernel) (by first | decide | omega) (by first | decide | omega) ?_
      refine x_aload (np := 61) (x := 0) (by decide +kernel) rfl (x_nc_le (by decide)) ?_
      refine x_getR (np := 64) (x := 648) (f := 8) (q := (h 0 8)) (by decide +kernel) (by decide) (by decide +kernel) rfl ?_
      have q10 : h (h 0 8) 0 = ((h 0 8) + 1) := tf_0_0 hJ t1
      refine x_getR (np := 67) (x := 512) (f := 0) (q := ((h 0 8) + 1)) (by decide +kernel) (by decide) (tg_0_512_0_1 t1) q10 ?_
      refine x_iload (np := 68) (x := 1) (by decide +kernel) rfl la1 ?_
      refine x_const (np := 69) (x := 9223372039002259456) (a := 2147483648) (by decide +kernel) (by decide) (by decide) ?_
      refine x_nI (t := 6) (mj := 68) (n := 3) (rc := 7) (ml := 4) (nr := 0) (np := 72) (as := [x_r ((h 0 8) + 1), iv_c a1, iv_c 2147483648]) (rest := []) (lo1 := [x_r ((h 0 8) + 1), iv_c a1, iv_c 2147483648, 147573952589676412928]) (by decide +kernel) (by decide) (by decide +kernel) (x_rb_of (tr_1_7 t1)) rfl rfl (x_wr (tn_1 t1) (x_wi la1 (x_wi (by decide) x_wn))) x_wn (by decide) rfl ?_
      refine x_iload (np := 1) (x := 1) (by decide +kernel) rfl la1 ?_
      refine x_ifz (k := 2) (tg := 28) (np := 4) (by decide +kernel) (by decide) la1 (fun q11 => ?_) (fun q12 => ?_)
      · have q11 : a1 < 2147483648 := q11
        exfalso; omega
      have q12 : ¬ (a1 < 2147483648) := q12
      refine x_iload (np := 5) (x := 1) (by decide +kernel) rfl la1 ?_
      refine x_aload (np := 6) (x := 0) (by decide +kernel) rfl (x_nc_le (tn_1 t1)) ?_
      refine x_getC (np := 9) (x := 386) (f := 2) (q := (h ((h 0 8) + 1) 2)) (by decide +kernel) (by decide) (tg_1_386_2_0 t1) rfl (fun l13 => ?_)
      refine x_icmp (k := 3) (tg := 28) (np := 12) (by decide +kernel) (by decide) la1 l6 (fun q14 => ?_) (fun q15 => ?_)
      · have q14 : (h ((h 0 8) + 1) 2) ≤ a1 := q14
        exfalso; omega
      have q15 : ¬ ((h ((h 0 8) + 1) 2) ≤ a1) := q15
      refine x_iload (np := 13) (x := 2) (by decide +kernel) rfl (by decide) ?_
      refine x_ifz (k := 2) (tg := 28) (np := 16) (by decide +kernel) (by decide) (by decide) (fun q16 => ?_) (fun q17 => ?_)
      · have q16 : 2147483648 < 2147483648 := q16
        exfalso; omega
      have q17 : ¬ (2147483648 < 2147483648) := q17
      refine x_iload (np := 17) (x := 2) (by decide +kernel) rfl (by decide) ?_
      refine x_aload (np := 18) (x := 0) (by decide +kernel) rfl (x_nc_le (tn_1 t1)) ?_
      have b18 := jB (e := 0) 0 hJ (rg_T1_0_0_1 t1) (by first | decide | omega) (by first | decide | omega)
      have q19 : (h ((h 0 8) + 1) 0) = 2147483655 := by first | decide | omega
      refine x_getC (np := 21) (x := 384) (f := 0) (q := 2147483655) (by decide +kernel) (by decide) (tg_1_384_0_0 t1) q19 (fun l20 => ?_)
      refine x_icmp (k := 3) (tg := 28) (np := 24) (by decide +kernel) (by decide) (by decide) (by decide) (fun q21 => ?_) (fun q22 => ?_)
      · have q21 : 2147483655 ≤ 2147483648 := q21
        exfalso; omega
      have q22 : ¬ (2147483655 ≤ 2147483648) := q22
      refine x_const (np := 25) (x := 9223372043297226753) (a := 2147483649) (by decide +kernel) (by decide) (by decide) ?_
      refine x_goto (np := 28) (x := 29) (by decide +kernel) ?_
      refine x_istore (np := 30) (x := 3) (lo' := [x_r ((h 0 8) + 1), iv_c a1, iv_c 2147483648, iv_c 2147483649]) (by decide +kernel) (by decide) (Nat.le_of_ble_eq_true rfl) rfl ?_
      refine x_iload (np := 31) (x := 3) (by decide +kernel) rfl (by decide) ?_
      refine x_ifz (k := 0) (tg := 50) (np := 34) (by decide +kernel) (by decide) (by decide) (fun q23 => ?_) (fun q24 => ?_)
      · have q23 : 2147483649 = 2147483648 := q23
        exfalso; omega
      have q24 : ¬ (2147483649 = 2147483648) := q24
      refine x_aload (np := 35) (x := 0) (by decide +kernel) rfl (x_nc_le (tn_1 t1)) ?_
      have q25 : h ((h 0 8) + 1) 1 = ((h 0 8) + 2) := tf_1_1 hJ t1
      refine x_getR (np := 38) (x := 385) (f := 1) (q := ((h 0 8) + 2)) (by decide +kernel) (by decide) (tg_1_385_1_1 t1) q25 ?_
      refine x_iload (np := 39) (x := 1) (by decide +kernel) rfl la1 ?_
      refine x_aload (np := 40) (x := 0) (by decide +kernel) rfl (x_nc_le (tn_1 t1)) ?_
      refine x_getC (np := 43) (x := 384) (f := 0) (q := 2147483655) (by decide +kernel) (by decide) (tg_1_384_0_0 t1) q19 (fun l26 => ?_)
      obtain ⟨u27, q28⟩ : ∃ z, a1 = 2147483648 + z := ⟨a1 - 2147483648, by first | decide | omega⟩
      refine x_imul (np := 44) (x := 0) (i := u27) (j := 7) (v := (2147483648 + 7 * u27)) (by decide +kernel) (by first | decide | omega) (by first | decide | omega) (by first | decide | omega) (by first | decide | omega) la1 (by decide) ?_
      refine x_iload (np := 45) (x := 2) (by decide +kernel) rfl (by decide) ?_
      refine x_iadd (np := 46) (x := 0) (v := (2147483648 + 7 * u27)) (by decide +kernel) (by first | decide | omega) (by decide) (by first | decide | omega) (by first | decide | omega) ?_
      have b30 := jB (e := (7 * u27)) u27 hJ (rg_T2_0_7_20 t1) (by first | decide | omega) (by first | decide | omega)
      refine x_aldC (np := 47) (x := 0) (n := 140) (i := (7 * u27)) (q := ((h ((h 0 8) + 2) (7 * u27)))) (by decide +kernel) (ta_2_140 t1) (by first | decide | omega) (by first | decide | omega) (by decide) rfl (fun l31 => ?_)
      refine x_goto (np := 50) (x := 51) (by decide +kernel) ?_
      refine x_retI (np := 52) (x := 0) (by decide +kernel) l31 (Or.inl (by decide +kernel)) ⟨_, rfl, l31, ?_⟩
      refine x_retI (np := 73) (x := 0) (by decide +kernel) l31 (Or.inl (by decide +kernel)) (Or.inl ⟨_, rfl, l31, ?_⟩)
      exact ⟨hJ, hF, (by first | decide | omega)⟩
    · refine x_tsw1 (np := 13) (x := 0) (by decide +kernel) la2 (i := 1) (lo9 := 2147483648) (hi9 := 2147483655) (tg := 73) (by decide +kernel) (by first | decide | omega) (by first | decide | omega) ?_
      refine x_aload (np := 74) (x := 0) (by decide +kernel) rfl (x_nc_le (by decide)) ?_
      refine x_getR (np := 77) (x := 648) (f := 8) (q := (h 0 8)) (by decide +kernel) (by decide) (by decide +kernel) rfl ?_
      have q32 : h (h 0 8) 0 = ((h 0 8) + 1) := tf_0_0 hJ t1
      refine x_getR (np := 80) (x := 512) (f := 0) (q := ((h 0 8) + 1)) (by decide +kernel) (by decide) (tg_0_512_0_1 t1) q32 ?_
      refine x_iload (np := 81) (x := 1) (by decide +kernel) rfl la1 ?_
      refine x_const (np := 82) (x := 9223372043297226753) (a := 2147483649) (by decide +kernel) (by decide) (by decide) ?_
      refine x_nI (t := 6) (mj := 68) (n := 3) (rc := 7) (ml := 4) (nr := 0) (np := 85) (as := [x_r ((h 0 8) + 1), iv_c a1, iv_c 2147483649]) (rest := []) (lo1 := [x_r ((h 0 8) + 1), iv_c a1, iv_c 2147483649, 147573952589676412928]) (by decide +kernel) (by decide) (by decide +kernel) (x_rb_of (tr_1_7 t1)) rfl rfl (x_wr (tn_1 t1) (x_wi la1 (x_wi (by decide) x_wn))) x_wn (by decide) rfl ?_
      refine x_iload (np := 1) (x := 1) (by decide +kernel) rfl la1 ?_
      refine x_ifz (k := 2) (tg := 28) (np := 4) (by decide +kernel) (by decide) la1 (fun q33 => ?_) (fun q34 => ?_)
      · have q33 : a1 < 2147483648 := q33
        exfalso; omega
      have q34 : ¬ (a1 < 2147483648) := q34
      refine x_iload (np := 5) (x := 1) (by decide +kernel) rfl la1 ?_
      refine x_aload (np := 6) (x := 0) (by decide +kernel) rfl (x_nc_le (tn_1 t1)) ?_
      refine x_getC (np := 9) (x := 386) (f := 2) (q := (h ((h 0 8) + 1) 2)) (by decide +kernel) (by decide) (tg_1_386_2_0 t1) rfl (fun l35 => ?_)
      refine x_icmp (k := 3) (tg := 28) (np := 12) (by decide +kernel) (by decide) la1 l6 (fun q36 => ?_) (fun q37 => ?_)
      · have q36 : (h ((h 0 8) + 1) 2) ≤ a1 := q36
        exfalso; omega
      have q37 : ¬ ((h ((h 0 8) + 1) 2) ≤ a1) := q37
      refine x_iload (np := 13) (x := 2) (by decide +kernel) rfl (by decide) ?_
      refine x_ifz (k := 2) (tg := 28) (np := 16) (by decide +kernel) (by decide) (by decide) (fun q38 => ?_) (fun q39 => ?_)
      · have q38 : 2147483649 < 2147483648 := q38
        exfalso; omega
      have q39 : ¬ (2147483649 < 2147483648) := q39
      refine x_iload (np := 17) (x := 2) (by decide +kernel) rfl (by decide) ?_
      refine x_aload (np := 18) (x := 0) (by decide +kernel) rfl (x_nc_le (tn_1 t1)) ?_
      have b40 := jB (e := 0) 0 hJ (rg_T1_0_0_1 t1) (by first | decide | omega) (by first | decide | omega)
      have q41 : (h ((h 0 8) + 1) 0) = 2147483655 := by first | decide | omega
      refine x_getC (np := 21) (x := 384) (f := 0) (q := 2147483655) (by decide +kernel) (by decide) (tg_1_384_0_0 t1) q41 (fun l42 => ?_)
      refine x_icmp (k := 3) (tg := 28) (np := 24) (by decide +kernel) (by decide) (by decide) (by decide) (fun q43 => ?_) (fun q44 => ?_)
      · have q43 : 2147483655 ≤ 2147483649 := q43
        exfalso; omega
      have q44 : ¬ (2147483655 ≤ 2147483649) := q44
      refine x_const (np := 25) (x := 9223372043297226753) (a := 2147483649) (by decide +kernel) (by decide) (by decide) ?_
      refine x_goto (np := 28) (x := 29) (by decide +kernel) ?_
      refine x_istore (np := 30) (x := 3) (lo' := [x_r ((h 0 8) + 1), iv_c a1, iv_c 2147483649, iv_c 2147483649]) (by decide +kernel) (by decide) (Nat.le_of_ble_eq_true rfl) rfl ?_
      refine x_iload (np := 31) (x := 3) (by decide +kernel) rfl (by decide) ?_
      refine x_ifz (k := 0) (tg := 50) (np := 34) (by decide +kernel) (by decide) (by decide) (fun q45 => ?_) (fun q46 => ?_)
      · have q45 : 2147483649 = 2147483648 := q45
        exfalso; omega
      have q46 : ¬ (2147483649 = 2147483648) := q46
      refine x_aload (np := 35) (x := 0) (by decide +kernel) rfl (x_nc_le (tn_1 t1)) ?_
      have q47 : h ((h 0 8) + 1) 1 = ((h 0 8) + 2) := tf_1_1 hJ t1
      refine x_getR (np := 38) (x := 385) (f := 1) (q := ((h 0 8) + 2)) (by decide +kernel) (by decide) (tg_1_385_1_1 t1) q47 ?_
      refine x_iload (np := 39) (x := 1) (by decide +kernel) rfl la1 ?_
      refine x_aload (np := 40) (x := 0) (by decide +kernel) rfl (x_nc_le (tn_1 t1)) ?_
      refine x_getC (np := 43) (x := 384) (f := 0) (q := 2147483655) (by decide +kernel) (by decide) (tg_1_384_0_0 t1) q41 (fun l48 => ?_)
      obtain ⟨u49, q50⟩ : ∃ z, a1 = 2147483648 + z := ⟨a1 - 2147483648, by first | decide | omega⟩
      refine x_imul (np := 44) (x := 0) (i := u49) (j := 7) (v := (2147483648 + 7 * u49)) (by decide +kernel) (by first | decide | omega) (by first | decide | omega) (by first | decide | omega) (by first | decide | omega) la1 (by decide) ?_
      refine x_iload (np := 45) (x := 2) (by decide +kernel) rfl (by decide) ?_
      refine x_iadd (np := 46) (x := 0) (v := (2147483649 + 7 * u49)) (by decide +kernel) (by first | decide | omega) (by decide) (by first | decide | omega) (by first | decide | omega) ?_
      refine x_aldC (np := 47) (x := 0) (n := 140) (i := (1 + 7 * u49)) (q := ((h ((h 0 8) + 2) (1 + 7 * u49)))) (by decide +kernel) (ta_2_140 t1) (by first | decide | omega) (by first | decide | omega) (by decide) rfl (fun l52 => ?_)
      refine x_goto (np := 50) (x := 51) (by decide +kernel) ?_
      refine x_retI (np := 52) (x := 0) (by decide +kernel) l52 (Or.inl (by decide +kernel)) ⟨_, rfl, l52, ?_⟩
      refine x_retI (np := 86) (x := 0) (by decide +kernel) l52 (Or.inl (by decide +kernel)) (Or.inl ⟨_, rfl, l52, ?_⟩)
      exact ⟨hJ, hF, (by first | decide | omega)⟩
    · refine x_tsw1 (np := 13) (x := 0) (by decide +kernel) la2 (i := 2) (lo9 := 2147483648) (hi9 := 2147483655) (tg := 86) (by decide +kernel) (by first | decide | omega) (by first | decide | omega) ?_
      refine x_aload (np := 87) (x := 0) (by decide +kernel) rfl (x_nc_le (by decide)) ?_
      refine x_getR (np := 90) (x := 648) (f := 8) (q := (h 0 8)) (by decide +kernel) (by decide) (by decide +kernel) rfl ?_
      have q53 : h (h 0 8) 0 = ((h 0 8) + 1) := tf_0_0 hJ t1
      refine x_getR (np := 93) (x := 512) (f := 0) (q := ((h 0 8) + 1)) (by decide +kernel) (by decide) (tg_0_512_0_1 t1) q53 ?_
      refine x_iload (np := 94) (x := 1) (by decide +kernel) rfl la1 ?_
      refine x_const (np := 95) (x := 9223372047592194050) (a := 2147483650) (by decide +kernel) (by decide) (by decide) ?_
      refine x_nI (t := 6) (mj := 68) (n := 3) (rc := 7) (ml := 4) (nr := 0) (np := 98) (as := [x_r ((h 0 8) + 1), iv_c a1, iv_c 2147483650]) (rest := []) (lo1 := [x_r ((h 0 8) + 1), iv_c a1, iv_c 2147483650, 147573952589676412928]) (by decide +kernel) (by decide) (by decide +kernel) (x_rb_of (tr_1_7 t1)) rfl rfl (x_wr (tn_1 t1) (x_wi la1 (x_wi (by decide) x_wn))) x_wn (by decide) rfl ?_
      refine x_iload (np := 1) (x := 1) (by decide +kernel) rfl la1 ?_
      refine x_ifz (k := 2) (tg := 28) (np := 4) (by decide +kernel) (by decide) la1 (fun q54 => ?_) (fun q55 => ?_)
      · have q54 : a1 < 2147483648 := q54
        exfalso; omega
      have q55 : ¬ (a1 < 2147483648) := q55
      refine x_iload (np := 5) (x := 1) (by decide +kernel) rfl la1 ?_
      refine x_aload (np := 6) (x := 0) (by decide +kernel) rfl (x_nc_le (tn_1 t1)) ?_
      refine x_getC (np := 9) (x := 386) (f := 2) (q := (h ((h 0 8) + 1) 2)) (by decide +kernel) (by decide) (tg_1_386_2_0 t1) rfl (fun l56 => ?_)
      refine x_icmp (k := 3) (tg := 28) (np := 12) (by decide +kernel) (by decide) la1 l6 (fun q57 => ?_) (fun q58 => ?_)
      · have q57 : (h ((h 0 8) + 1) 2) ≤ a1 := q57
        exfalso; omega
      have q58 : ¬ ((h ((h 0 8) + 1) 2) ≤ a1) := q58
      refine x_iload (np := 13) (x := 2) (by decide +kernel) rfl (by decide) ?_
      refine x_ifz (k := 2) (tg := 28) (np := 16) (by decide +kernel) (by decide) (by decide) (fun q59 => ?_) (fun q60 => ?_)
      · have q59 : 2147483650 < 2147483648 := q59
        exfalso; omega
      have q60 : ¬ (2147483650 < 2147483648) := q60
      refine x_iload (np := 17) (x := 2) (by decide +kernel) rfl (by decide) ?_
      refine x_aload (np := 18) (x := 0) (by decide +kernel) rfl (x_nc_le (tn_1 t1)) ?_
      have b61 := jB (e := 0) 0 hJ (rg_T1_0_0_1 t1) (by first | decide | omega) (by first | decide | omega)
      have q62 : (h ((h 0 8) + 1) 0) = 2147483655 := by first | decide | omega
      refine x_getC (np := 21) (x := 384) (f := 0) (q := 2147483655) (by decide +kernel) (by decide) (tg_1_384_0_0 t1) q62 (fun l63 => ?_)
      refine x_icmp (k := 3) (tg := 28) (np := 24) (by decide +kernel) (by decide) (by decide) (by decide) (fun q64 => ?_) (fun q65 => ?_)
      · have q64 : 2147483655 ≤ 2147483650 := q64
        exfalso; omega
      have q65 : ¬ (2147483655 ≤ 2147483650) := q65
      refine x_const (np := 25) (x := 9223372043297226753) (a := 2147483649) (by decide +kernel) (by decide) (by decide) ?_
      refine x_goto (np := 28) (x := 29) (by decide +kernel) ?_
      refine x_istore (np := 30) (x := 3) (lo' := [x_r ((h 0 8) + 1), iv_c a1, iv_c 2147483650, iv_c 2147483649]) (by decide +kernel) (by decide) (Nat.le_of_ble_eq_true rfl) rfl ?_
      refine x_iload (np := 31) (x := 3) (by decide +kernel) rfl (by decide) ?_
      refine x_ifz (k := 0) (tg := 50) (np := 34) (by decide +kernel) (by decide) (by decide) (fun q66 => ?_) (fun q67 => ?_)
      · have q66 : 2147483649 = 2147483648 := q66
        exfalso; omega
      have q67 : ¬ (2147483649 = 2147483648) := q67
      refine x_aload (np := 35) (x := 0) (by decide +kernel) rfl (x_nc_le (tn_1 t1)) ?_
      have q68 : h ((h 0 8) + 1) 1 = ((h 0 8) + 2) := tf_1_1 hJ t1
      refine x_getR (np := 38) (x := 385) (f := 1) (q := ((h 0 8) + 2)) (by decide +kernel) (by decide) (tg_1_385_1_1 t1) q68 ?_
      refine x_iload (np := 39) (x := 1) (by decide +kernel) rfl la1 ?_
      refine x_aload (np := 40) (x := 0) (by decide +kernel) rfl (x_nc_le (tn_1 t1)) ?_
      refine x_getC (np := 43) (x := 384) (f := 0) (q := 2147483655) (by decide +kernel) (by decide) (tg_1_384_0_0 t1) q62 (fun l69 => ?_)
      obtain ⟨u70, q71⟩ : ∃ z, a1 = 2147483648 + z := ⟨a1 - 2147483648, by first | decide | omega⟩
      refine x_imul (np := 44) (x := 0) (i := u70) (j := 7) (v := (2147483648 + 7 * u70)) (by decide +kernel) (by first | decide | omega) (by first | decide | omega) (by first | decide | omega) (by first | decide | omega) la1 (by decide) ?_
      refine x_iload (np := 45) (x := 2) (by decide +kernel) rfl (by decide) ?_
      refine x_iadd (np := 46) (x := 0) (v := (2147483650 + 7 * u70)) (by decide +kernel) (by first | decide | omega) (by decide) (by first | decide | omega) (by first | decide | omega) ?_
      refine x_aldC (np := 47) (x := 0) (n := 140) (i := (2 + 7 * u70)) (q := ((h ((h 0 8) + 2) (2 + 7 * u70)))) (by decide +kernel) (ta_2_140 t1) (by first | decide | omega) (by first | decide | omega) (by decide) rfl (fun l73 => ?_)
      refine x_goto (np := 50) (x := 51) (by decide +kernel) ?_
      refine x_retI (np := 52) (x := 0) (by decide +kernel) l73 (Or.inl (by decide +kernel)) ⟨_, rfl, l73, ?_⟩
      refine x_retI (np := 99) (x := 0) (by decide +kernel) l73 (Or.inl (by decide +kernel)) (Or.inl ⟨_, rfl, l73, ?_⟩)
      exact ⟨hJ, hF, (by first | decide | omega)⟩
    · refine x_tsw1 (np := 13) (x := 0) (by decide +kernel) la2 (i := 3) (lo9 := 2147483648) (hi9 := 2147483655) (tg := 99) (by decide +kernel) (by first | decide | omega) (by first | decide | omega) ?_
      refine x_aload (np := 100) (x := 0) (by decide +kernel) rfl (x_nc_le (by decide)) ?_
      refine x_getR (np := 103) (x := 648) (f := 8) (q := (h 0 8)) (by decide +kernel) (by decide) (by decide +kernel) rfl ?_
      refine x_iload (np := 104) (x := 1) (by decide +kernel) rfl la1 ?_
      refine x_nI (t := 6) (mj := 86) (n := 2) (rc := 9) (ml := 2) (nr := 0) (np := 107) (as := [x_r (h 0 8), iv_c a1]) (rest := []) (lo1 := [x_r (h 0 8), iv_c a1]) (by decide +kernel) (by decide) (by decide +kernel) (x_rb_of (tr_0_9 t1)) rfl rfl (x_wr (tn_0 t1) (x_wi la1 x_wn)) x_wn (by decide) rfl ?_
      refine x_aload (np := 1) (x := 0) (by decide +kernel) rfl (x_nc_le (tn_0 t1)) ?_
      refine x_iload (np := 2) (x := 1) (by decide +kernel) rfl la1 ?_
      refine x_nI (t := 6) (mj := 85) (n := 2) (rc := 9) (ml := 2) (nr := 0) (np := 5) (as := [x_r (h 0 8), iv_c a1]) (rest := []) (lo1 := [x_r (h 0 8), iv_c a1]) (by decide +kernel) (by decide) (by decide +kernel) (x_rb_of (tr_0_9 t1)) rfl rfl (x_wr (tn_0 t1) (x_wi la1 x_wn)) x_wn (by decide) rfl ?_
      refine x_aload (np := 1) (x := 0) (by decide +kernel) rfl (x_nc_le (tn_0 t1)) ?_
      have q74 : h (h 0 8) 0 = ((h 0 8) + 1) := tf_0_0 hJ t1
      refine x_getR (np := 4) (x := 512) (f := 0) (q := ((h 0 8) + 1)) (by decide +kernel) (by decide) (tg_0_512_0_1 t1) q74 ?_
      refine x_iload (np := 5) (x := 1) (by decide +kernel) rfl la1 ?_
      refine x_const (np := 6) (x := 9223372047592194050) (a := 2147483650) (by decide +kernel) (by decide) (by decide) ?_
      refine x_nI (t := 6) (mj := 68) (n := 3) (rc := 7) (ml := 4) (nr := 0) (np := 9) (as := [x_r ((h 0 8) + 1), iv_c a1, iv_c 2147483650]) (rest := []) (lo1 := [x_r ((h 0 8) + 1), iv_c a1, iv_c 2147483650, 147573952589676412928]) (by decide +kernel) (by decide) (by decide +kernel) (x_rb_of (tr_1_7 t1)) rfl rfl (x_wr (tn_1 t1) (x_wi la1 (x_wi (by decide) x_wn))) x_wn (by decide) rfl ?_
      refine x_iload (np := 1) (x := 1) (by decide +kernel) rfl la1 ?_
      refine x_ifz (k := 2) (tg := 28) (np := 4) (by decide +kernel) (by decide) la1 (fun q75 => ?_) (fun q76 => ?_)
      · have q75 : a1 < 2147483648 := q75
        exfalso; omega
      have q76 : ¬ (a1 < 2147483648) := q76
      refine x_iload (np := 5) (x := 1) (by decide +kernel) rfl la1 ?_
      refine x_aload (np := 6) (x := 0) (by decide +kernel) rfl (x_nc_le (tn_1 t1)) ?_
      refine x_getC (np := 9) (x := 386) (f := 2) (q := (h ((h 0 8) + 1) 2)) (by decide +kernel) (by decide) (tg_1_386_2_0 t1) rfl (fun l77 => ?_)
      refine x_icmp (k := 3) (tg := 28) (np := 12) (by decide +kernel) (by decide) la1 l6 (fun q78 => ?_) (fun q79 => ?_)
      · have q78 : (h ((h 0 8) + 1) 2) ≤ a1 := q78
        exfalso; omega
      have q79 : ¬ ((h ((h 0 8) + 1) 2) ≤ a1) := q79
      refine x_iload (np := 13) (x := 2) (by decide +kernel) rfl (by decide) ?_
      refine x_ifz (k := 2) (tg := 28) (np := 16) (by decide +kernel) (by decide) (by decide) (fun q80 => ?_) (fun q81 => ?_)
      · have q80 : 2147483650 < 2147483648 := q80
        exfalso; omega
      have q81 : ¬ (2147483650 < 2147483648) := q81
      refine x_iload (np := 17) (x := 2) (by decide +kernel) rfl (by decide) ?_
      refine x_aload (np := 18) (x := 0) (by decide +kernel) rfl (x_nc_le (tn_1 t1)) ?_
      have b82 := jB (e := 0) 0 hJ (rg_T1_0_0_1 t1) (by first | decide | omega) (by first | decide | omega)
      have q83 : (h ((h 0 8) + 1) 0) = 2147483655 := by first | decide | omega
      refine x_getC (np := 21) (x := 384) (f := 0) (q := 2147483655) (by decide +kernel) (by decide) (tg_1_384_0_0 t1) q83 (fun l84 => ?_)
      refine x_icmp (k := 3) (tg := 28) (np := 24) (by decide +kernel) (by decide) (by decide) (by decide) (fun q85 => ?_) (fun q86 => ?_)
      · have q85 : 2147483655 ≤ 2147483650 := q85
        exfalso; omega
      have q86 : ¬ (2147483655 ≤ 2147483650) := q86
      refine x_const (np := 25) (x := 9223372043297226753) (a := 2147483649) (by decide +kernel) (by decide) (by decide) ?_
      refine x_goto (np := 28) (x := 29) (by decide +kernel) ?_
      refine x_istore (np := 30) (x := 3) (lo' := [x_r ((h 0 8) + 1), iv_c a1, iv_c 2147483650, iv_c 2147483649]) (by decide +kernel) (by decide) (Nat.le_of_ble_eq_true rfl) rfl ?_
      refine x_iload (np := 31) (x := 3) (by decide +kernel) rfl (by decide) ?_
      refine x_ifz (k := 0) (tg := 50) (np := 34) (by decide +kernel) (by decide) (by decide) (fun q87 => ?_) (fun q88 => ?_)
      · have q87 : 2147483649 = 2147483648 := q87
        exfalso; omega
      have q88 : ¬ (2147483649 = 2147483648) := q88
      refine x_aload (np := 35) (x := 0) (by decide +kernel) rfl (x_nc_le (tn_1 t1)) ?_
      have q89 : h ((h 0 8) + 1) 1 = ((h 0 8) + 2) := tf_1_1 hJ t1
      refine x_getR (np := 38) (x := 385) (f := 1) (q := ((h 0 8) + 2)) (by decide +kernel) (by decide) (tg_1_385_1_1 t1) q89 ?_
      refine x_iload (np := 39) (x := 1) (by decide +kernel) rfl la1 ?_
      refine x_aload (np := 40) (x := 0) (by decide +kernel) rfl (x_nc_le (tn_1 t1)) ?_
      refine x_getC (np := 43) (x := 384) (f := 0) (q := 2147483655) (by decide +kernel) (by decide) (tg_1_384_0_0 t1) q83 (fun l90 => ?_)
      obtain ⟨u91, q92⟩ : ∃ z, a1 = 2147483648 + z := ⟨a1 - 2147483648, by first | decide | omega⟩
      refine x_imul (np := 44) (x := 0) (i := u91) (j := 7) (v := (2147483648 + 7 * u91)) (by decide +kernel) (by first | decide | omega) (by first | decide | omega) (by first | decide | omega) (by first | decide | omega) la1 (by decide) ?_
      refine x_iload (np := 45) (x := 2) (by decide +kernel) rfl (by decide) ?_
      refine x_iadd (np := 46) (x := 0) (v := (2147483650 + 7 * u91)) (by decide +kernel) (by first | decide | omega) (by decide) (by first | decide | omega) (by first | decide | omega) ?_
      refine x_aldC (np := 47) (x := 0) (n := 140) (i := (2 + 7 * u91)) (q := ((h ((h 0 8) + 2) (2 + 7 * u91)))) (by decide +kernel) (ta_2_140 t1) (by first | decide | omega) (by first | decide | omega) (by decide) rfl (fun l94 => ?_)
      refine x_goto (np := 50) (x := 51) (by decide +kernel) ?_
      refine x_retI (np := 52) (x := 0) (by decide +kernel) l94 (Or.inl (by decide +kernel)) ⟨_, rfl, l94, ?_⟩
      refine x_aload (np := 10) (x := 0) (by decide +kernel) rfl (x_nc_le (tn_0 t1)) ?_
      have q95 : h (h 0 8) 0 = ((h 0 8) + 1) := tf_0_0 hJ t1
      refine x_getR (np := 13) (x := 512) (f := 0) (q := ((h 0 8) + 1)) (by decide +kernel) (by decide) (tg_0_512_0_1 t1) q95 ?_
      refine x_iload (np := 14) (x := 1) (by decide +kernel) rfl la1 ?_
      refine x_const (np := 15) (x := 9223372051887161347) (a := 2147483651) (by decide +kernel) (by decide) (by decide) ?_
      refine x_nI (t := 6) (mj := 68) (n := 3) (rc := 7) (ml := 4) (nr := 1) (np := 18) (as := [x_r ((h 0 8) + 1), iv_c a1, iv_c 2147483651]) (rest := [iv_c ((h ((h 0 8) + 2) (2 + 7 * u91)))]) (lo1 := [x_r ((h 0 8) + 1), iv_c a1, iv_c 2147483651, 147573952589676412928]) (by decide +kernel) (by decide) (by decide +kernel) (x_rb_of (tr_1_7 t1)) rfl rfl (x_wr (tn_1 t1) (x_wi la1 (x_wi (by decide) x_wn))) (x_wi l94 x_wn) (by decide) rfl ?_
      refine x_iload (np := 1) (x := 1) (by decide +kernel) rfl la1 ?_
      refine x_ifz (k := 2) (tg := 28) (np := 4) (by decide +kernel) (by decide) la1 (fun q96 => ?_) (fun q97 => ?_)
      · have q96 : a1 < 2147483648 := q96
        exfalso; omega
      have q97 : ¬ (a1 < 2147483648) := q97
      refine x_iload (np := 5) (x := 1) (by decide +kernel) rfl la1 ?_
      refine x_aload (np := 6) (x := 0) (by decide +kernel) rfl (x_nc_le (tn_1 t1)) ?_
      refine x_getC (np := 9) (x := 386) (f := 2) (q := (h ((h 0 8) + 1) 2)) (by decide +kernel) (by decide) (tg_1_386_2_0 t1) rfl (fun l98 => ?_)
      refine x_icmp (k := 3) (tg := 28) (np := 12) (by decide +kernel) (by decide) la1 l6 (fun q99 => ?_) (fun q100 => ?_)
      · have q99 : (h ((h 0 8) + 1) 2) ≤ a1 := q99
        exfalso; omega
      have q100 : ¬ ((h ((h 0 8) + 1) 2) ≤ a1) := q100
      refine x_iload (np := 13) (x := 2) (by decide +kernel) rfl (by decide) ?_
      refine x_ifz (k := 2) (tg := 28) (np := 16) (by decide +kernel) (by decide) (by decide) (fun q101 => ?_) (fun q102 => ?_)
      · have q101 : 2147483651 < 2147483648 := q101
        exfalso; omega
      have q102 : ¬ (2147483651 < 2147483648) := q102
      refine x_iload (np := 17) (x := 2) (by decide +kernel) rfl (by decide) ?_
      refine x_aload (np := 18) (x := 0) (by decide +kernel) rfl (x_nc_le (tn_1 t1)) ?_
      refine x_getC (np := 21) (x := 384) (f := 0) (q := 2147483655) (by decide +kernel) (by decide) (tg_1_384_0_0 t1) q83 (fun l103 => ?_)
      refine x_icmp (k := 3) (tg := 28) (np := 24) (by decide +kernel) (by decide) (by decide) (by decide) (fun q104 => ?_) (fun q105 => ?_)
      · have q104 : 2147483655 ≤ 2147483651 := q104
        exfalso; omega
      have q105 : ¬ (2147483655 ≤ 2147483651) := q105
      refine x_const (np := 25) (x := 9223372043297226753) (a := 2147483649) (by decide +kernel) (by decide) (by decide) ?_
      refine x_goto (np := 28) (x := 29) (by decide +kernel) ?_
      refine x_istore (np := 30) (x := 3) (lo' := [x_r ((h 0 8) + 1), iv_c a1, iv_c 2147483651, iv_c 2147483649]) (by decide +kernel) (by decide) (Nat.le_of_ble_eq_true rfl) rfl ?_
      refine x_iload (np := 31) (x := 3) (by decide +kernel) rfl (by decide) ?_
      refine x_ifz (k := 0) (tg := 50) (np := 34) (by decide +kernel) (by decide) (by decide) (fun q106 => ?_) (fun q107 => ?_)
      · have q106 : 2147483649 = 2147483648 := q106
        exfalso; omega
      have q107 : ¬ (2147483649 = 2147483648) := q107
      refine x_aload (np := 35) (x := 0) (by decide +kernel) rfl (x_nc_le (tn_1 t1)) ?_
      have q108 : h ((h 0 8) + 1) 1 = ((h 0 8) + 2) := tf_1_1 hJ t1
      refine x_getR (np := 38) (x := 385) (f := 1) (q := ((h 0 8) + 2)) (by decide +kernel) (by decide) (tg_1_385_1_1 t1) q108 ?_
      refine x_iload (np := 39) (x := 1) (by decide +kernel) rfl la1 ?_
      refine x_aload (np := 40) (x := 0) (by decide +kernel) rfl (x_nc_le (tn_1 t1)) ?_
      refine x_getC (np := 43) (x := 384) (f := 0) (q := 2147483655) (by decide +kernel) (by decide) (tg_1_384_0_0 t1) q83 (fun l109 => ?_)
      refine x_imul (np := 44) (x := 0) (i := u91) (j := 7) (v := (2147483648 + 7 * u91)) (by decide +kernel) (by first | decide | omega) (by first | decide | omega) (by first | decide | omega) (by first | decide | omega) la1 (by decide) ?_
      refine x_iload (np := 45) (x := 2) (by decide +kernel) rfl (by decide) ?_
      refine x_iadd (np := 46) (x := 0) (v := (2147483651 + 7 * u91)) (by decide +kernel) (by first | decide | omega) (by decide) (by first | decide | omega) (by first | decide | omega) ?_
      refine x_aldC (np := 47) (x := 0) (n := 140) (i := (3 + 7 * u91)) (q := ((h ((h 0 8) + 2) (3 + 7 * u91)))) (by decide +kernel) (ta_2_140 t1) (by first | decide | omega) (by first | decide | omega) (by decide) rfl (fun l111 => ?_)
      refine x_goto (np := 50) (x := 51) (by decide +kernel) ?_
      refine x_retI (np := 52) (x := 0) (by decide +kernel) l111 (Or.inl (by decide +kernel)) ⟨_, rfl, l111, ?_⟩
      refine x_addA (by rw [tb_b85]; decide +kernel) l94 l111 (fun v112 l113 => ?_)
      refine x_const (np := 20) (x := 9223372043297226753) (a := 2147483649) (by decide +kernel) (by decide) (by decide) ?_
      refine x_subA (by rw [tb_b85]; decide +kernel) l113 (by decide) (fun v114 l115 => ?_)
      refine x_retI (np := 22) (x := 0) (by decide +kernel) l115 (Or.inl (by decide +kernel)) ⟨_, rfl, l115, ?_⟩
      refine x_aload (np := 6) (x := 0) (by decide +kernel) rfl (x_nc_le (tn_0 t1)) ?_
      have q116 : h (h 0 8) 0 = ((h 0 8) + 1) := tf_0_0 hJ t1
      refine x_getR (np := 9) (x := 512) (f := 0) (q := ((h 0 8) + 1)) (by decide +kernel) (by decide) (tg_0_512_0_1 t1) q116 ?_
      refine x_iload (np := 10) (x := 1) (by decide +kernel) rfl la1 ?_
      refine x_const (np := 12) (x := 9223372064772063238) (a := 2147483654) (by decide +kernel) (by decide) (by decide) ?_
      refine x_nI (t := 6) (mj := 68) (n := 3) (rc := 7) (ml := 4) (nr := 1) (np := 15) (as := [x_r ((h 0 8) + 1), iv_c a1, iv_c 2147483654]) (rest := [iv_c v114]) (lo1 := [x_r ((h 0 8) + 1), iv_c a1, iv_c 2147483654, 147573952589676412928]) (by decide +kernel) (by decide) (by decide +kernel) (x_rb_of (tr_1_7 t1)) rfl rfl (x_wr (tn_1 t1) (x_wi la1 (x_wi (by decide) x_wn))) (x_wi l115 x_wn) (by decide) rfl ?_
      refine x_iload (np := 1) (x := 1) (by decide +kernel) rfl la1 ?_
      refine x_ifz (k := 2) (tg := 28) (np := 4) (by decide +kernel) (by decide) la1 (fun q117 => ?_) (fun q118 => ?_)
      · have q117 : a1 < 2147483648 := q117
        exfalso; omega
      have q118 : ¬ (a1 < 2147483648) := q118
      refine x_iload (np := 5) (x := 1) (by decide +kernel) rfl la1 ?_
      refine x_aload (np := 6) (x := 0) (by decide +kernel) rfl (x_nc_le (tn_1 t1)) ?_
      refine x_getC (np := 9) (x := 386) (f := 2) (q := (h ((h 0 8) + 1) 2)) (by decide +kernel) (by decide) (tg_1_386_2_0 t1) rfl (fun l119 => ?_)
      refine x_icmp (k := 3) (tg := 28) (np := 12) (by decide +kernel) (by decide) la1 l6 (fun q120 => ?_) (fun q121 => ?_)
      · have q120 : (h ((h 0 8) + 1) 2) ≤ a1 := q120
        exfalso; omega
      have q121 : ¬ ((h ((h 0 8) + 1) 2) ≤ a1) := q121
      refine x_iload (np := 13) (x := 2) (by decide +kernel) rfl (by decide) ?_
      refine x_ifz (k := 2) (tg := 28) (np := 16) (by decide +kernel) (by decide) (by decide) (fun q122 => ?_) (fun q123 => ?_)
      · have q122 : 2147483654 < 2147483648 := q122
        exfalso; omega
      have q123 : ¬ (2147483654 < 2147483648) := q123
      refine x_iload (np := 17) (x := 2) (by decide +kernel) rfl (by decide) ?_
      refine x_aload (np := 18) (x := 0) (by decide +kernel) rfl (x_nc_le (tn_1 t1)) ?_
      refine x_getC (np := 21) (x := 384) (f := 0) (q := 2147483655) (by decide +kernel) (by decide) (tg_1_384_0_0 t1) q83 (fun l124 => ?_)
      refine x_icmp (k := 3) (tg := 28) (np := 24) (by decide +kernel) (by decide) (by decide) (by decide) (fun q125 => ?_) (fun q126 => ?_)
      · have q125 : 2147483655 ≤ 2147483654 := q125
        exfalso; omega
      have q126 : ¬ (2147483655 ≤ 2147483654) := q126
      refine x_const (np := 25) (x := 9223372043297226753) (a := 2147483649) (by decide +kernel) (by decide) (by decide) ?_
      refine x_goto (np := 28) (x := 29) (by decide +kernel) ?_
      refine x_istore (np := 30) (x := 3) (lo' := [x_r ((h 0 8) + 1), iv_c a1, iv_c 2147483654, iv_c 2147483649]) (by decide +kernel) (by decide) (Nat.le_of_ble_eq_true rfl) rfl ?_
      refine x_iload (np := 31) (x := 3) (by decide +kernel) rfl (by decide) ?_
      refine x_ifz (k := 0) (tg := 50) (np := 34) (by decide +kernel) (by decide) (by decide) (fun q127 => ?_) (fun q128 => ?_)
      · have q127 : 2147483649 = 2147483648 := q127
        exfalso; omega
      have q128 : ¬ (2147483649 = 2147483648) := q128
      refine x_aload (np := 35) (x := 0) (by decide +kernel) rfl (x_nc_le (tn_1 t1)) ?_
      have q129 : h ((h 0 8) + 1) 1 = ((h 0 8) + 2) := tf_1_1 hJ t1
      refine x_getR (np := 38) (x := 385) (f := 1) (q := ((h 0 8) + 2)) (by decide +kernel) (by decide) (tg_1_385_1_1 t1) q129 ?_
      refine x_iload (np := 39) (x := 1) (by decide +kernel) rfl la1 ?_
      refine x_aload (np := 40) (x := 0) (by decide +kernel) rfl (x_nc_le (tn_1 t1)) ?_
      refine x_getC (np := 43) (x := 384) (f := 0) (q := 2147483655) (by decide +kernel) (by decide) (tg_1_384_0_0 t1) q83 (fun l130 => ?_)
      refine x_imul (np := 44) (x := 0) (i := u91) (j := 7) (v := (2147483648 + 7 * u91)) (by decide +kernel) (by first | decide | omega) (by first | decide | omega) (by first | decide | omega) (by first | decide | omega) la1 (by decide) ?_
      refine x_iload (np := 45) (x := 2) (by decide +kernel) rfl (by decide) ?_
      refine x_iadd (np := 46) (x := 0) (v := (2147483654 + 7 * u91)) (by decide +kernel) (by first | decide | omega) (by decide) (by first | decide | omega) (by first | decide | omega) ?_
      refine x_aldC (np := 47) (x := 0) (n := 140) (i := (6 + 7 * u91)) (q := ((h ((h 0 8) + 2) (6 + 7 * u91)))) (by decide +kernel) (ta_2_140 t1) (by first | decide | omega) (by first | decide | omega) (by decide) rfl (fun l132 => ?_)
      refine x_goto (np := 50) (x := 51) (by decide +kernel) ?_
      refine x_retI (np := 52) (x := 0) (by decide +kernel) l132 (Or.inl (by decide +kernel)) ⟨_, rfl, l132, ?_⟩
      refine x_addA (by rw [tb_b86]; decide +kernel) l115 l132 (fun v133 l134 => ?_)
      refine x_retI (np := 17) (x := 0) (by decide +kernel) l134 (Or.inl (by decide +kernel)) ⟨_, rfl, l134, ?_⟩
      refine x_retI (np := 108) (x := 0) (by decide +kernel) l134 (Or.inl (by decide +kernel)) (Or.inl ⟨_, rfl, l134, ?_⟩)
      exact ⟨hJ, hF, (by first | decide | omega)⟩
    · refine x_tsw1 (np := 13) (x := 0) (by decide +kernel) la2 (i := 4) (lo9 := 2147483648) (hi9 := 2147483655) (tg := 108) (by decide +kernel) (by first | decide | omega) (by first | decide | omega) ?_
      refine x_aload (np := 109) (x := 0) (by decide +kernel) rfl (x_nc_le (by decide)) ?_
      have q135 : h 0 1 = 45 := by have z := jB (e := 1) 0 hJ rg_0_1_0_1 (by decide) (by decide); omega
      refine x_getR (np := 112) (x := 641) (f := 1) (q := 45) (by decide +kernel) (by decide) (by decide +kernel) q135 ?_
      have q136 : h 45 2 = 48 := by have z := jB (e := 2) 0 hJ rg_45_2_0_1 (by decide) (by decide); omega
      refine x_getR (np := 115) (x := 66) (f := 2) (q := 48) (by decide +kernel) (by decide) (by decide +kernel) q136 ?_
      refine x_iload (np := 116) (x := 1) (by decide +kernel) rfl la1 ?_
      obtain ⟨u137, q138⟩ : ∃ z, a1 = 2147483648 + z := ⟨a1 - 2147483648, by first | decide | omega⟩
      refine x_aldC (np := 117) (x := 0) (n := 20) (i := u137) (q := (h 48 u137)) (by decide +kernel) (by decide +kernel) (by first | decide | omega) (by first | decide | omega) (by decide) rfl (fun l139 => ?_)
      refine x_const (np := 118) (x := 9223372034707292159) (a := 2147483647) (by decide +kernel) (by decide) (by decide) ?_
      refine x_icmp (k := 1) (tg := 125) (np := 121) (by decide +kernel) (by decide) l139 (by decide) (fun q140 => ?_) (fun q141 => ?_)
      · have q140 : (h 48 u137) ≠ 2147483647 := q140
        refine x_const (np := 126) (x := 9223372039002259456) (a := 2147483648) (by decide +kernel) (by decide) (by decide) ?_
        refine x_retI (np := 127) (x := 0) (by decide +kernel) (by decide) (Or.inl (by decide +kernel)) (Or.inl ⟨_, rfl, (by decide), ?_⟩)
        exact ⟨hJ, hF, (by first | decide | omega)⟩
      have q141 : ¬ ((h 48 u137) ≠ 2147483647) := q141
      refine x_const (np := 122) (x := 9223372043297226753) (a := 2147483649) (by decide +kernel) (by decide) (by decide) ?_
      refine x_goto (np := 125) (x := 126) (by decide +kernel) ?_
      refine x_retI (np := 127) (x := 0) (by decide +kernel) (by decide) (Or.inl (by decide +kernel)) (Or.inl ⟨_, rfl, (by decide), ?_⟩)
      exact ⟨hJ, hF, (by first | decide | omega)⟩
    · refine x_tsw1 (np := 13) (x := 0) (by decide +kernel) la2 (i := 5) (lo9 := 2147483648) (hi9 := 2147483655) (tg := 127) (by decide +kernel) (by first | decide | omega) (by first | decide | omega) ?_
      refine x_aload (np := 128) (x := 0) (by decide +kernel) rfl (x_nc_le (by decide)) ?_
      have q142 : h 0 1 = 45 := by have z := jB (e := 1) 0 hJ rg_0_1_0_1 (by decide) (by decide); omega
      refine x_getR (np := 131) (x := 641) (f := 1) (q := 45) (by decide +kernel) (by decide) (by decide +kernel) q142 ?_
      have q143 : h 45 2 = 48 := by have z := jB (e := 2) 0 hJ rg_45_2_0_1 (by decide) (by decide); omega
      refine x_getR (np := 134) (x := 66) (f := 2) (q := 48) (by decide +kernel) (by decide) (by decide +kernel) q143 ?_
      refine x_iload (np := 135) (x := 1) (by decide +kernel) rfl la1 ?_
      obtain ⟨u144, q145⟩ : ∃ z, a1 = 2147483648 + z := ⟨a1 - 2147483648, by first | decide | omega⟩
      refine x_aldC (np := 136) (x := 0) (n := 20) (i := u144) (q := (h 48 u144)) (by decide +kernel) (by decide +kernel) (by first | decide | omega) (by first | decide | omega) (by decide) rfl (fun l146 => ?_)
      refine x_retI (np := 137) (x := 0) (by decide +kernel) l146 (Or.inl (by decide +kernel)) (Or.inl ⟨_, rfl, l146, ?_⟩)
      exact ⟨hJ, hF, (by first | decide | omega)⟩
    · refine x_tsw1 (np := 13) (x := 0) (by decide +kernel) la2 (i := 6) (lo9 := 2147483648) (hi9 := 2147483655) (tg := 137) (by decide +kernel) (by first | decide | omega) (by first | decide | omega) ?_
      refine x_aload (np := 138) (x := 0) (by decide +kernel) rfl (x_nc_le (by decide)) ?_
      have q147 : h 0 1 = 45 := by have z := jB (e := 1) 0 hJ rg_0_1_0_1 (by decide) (by decide); omega
      refine x_getR (np := 141) (x := 641) (f := 1) (q := 45) (by decide +kernel) (by decide) (by decide +kernel) q147 ?_
      have q148 : h 45 3 = 49 := by have z := jB (e := 3) 0 hJ rg_45_3_0_1 (by decide) (by decide); omega
      refine x_getR (np := 144) (x := 67) (f := 3) (q := 49) (by decide +kernel) (by decide) (by decide +kernel) q148 ?_
      refine x_iload (np := 145) (x := 1) (by decide +kernel) rfl la1 ?_
      obtain ⟨u149, q150⟩ : ∃ z, a1 = 2147483648 + z := ⟨a1 - 2147483648, by first | decide | omega⟩
      refine x_aldC (np := 146) (x := 0) (n := 20) (i := u149) (q := (h 49 u149)) (by decide +kernel) (by decide +kernel) (by first | decide | omega) (by first | decide | omega) (by decide) rfl (fun l151 => ?_)
      refine x_retI (np := 147) (x := 0) (by decide +kernel) l151 (Or.inl (by decide +kernel)) (Or.inl ⟨_, rfl, l151, ?_⟩)
      exact ⟨hJ, hF, (by first | decide | omega)⟩
    · refine x_tsw1 (np := 13) (x := 0) (by decide +kernel) la2 (i := 7) (lo9 := 2147483648) (hi9 := 2147483655) (tg := 147) (by decide +kernel) (by first | decide | omega) (by first | decide | omega) ?_
      refine x_aload (np := 148) (x := 0) (by decide +kernel) rfl (x_nc_le (by decide)) ?_
      have q152 : h 0 1 = 45 := by have z := jB (e := 1) 0 hJ rg_0_1_0_1 (by decide) (by decide); omega
      refine x_getR (np := 151) (x := 641) (f := 1) (q := 45) (by decide +kernel) (by decide) (by decide +kernel) q152 ?_
      have q153 : h 45 4 = 50 := by have z := jB (e := 4) 0 hJ rg_45_4_0_1 (by decide) (by decide); omega
      refine x_getR (np := 154) (x := 68) (f := 4) (q := 50) (by decide +kernel) (by decide) (by decide +kernel) q153 ?_
      refine x_iload (np := 155) (x := 1) (by decide +kernel) rfl la1 ?_
      obtain ⟨u154, q155⟩ : ∃ z, a1 = 2147483648 + z := ⟨a1 - 2147483648, by first | decide | omega⟩
      refine x_aldC (np := 156) (x := 0) (n := 20) (i := u154) (q := (h 50 u154)) (by decide +kernel) (by decide +kernel) (by first | decide | omega) (by first | decide | omega) (by decide) rfl (fun l156 => ?_)
      refine x_retI (np := 157) (x := 0) (by decide +kernel) l156 (Or.inl (by decide +kernel)) (Or.inl ⟨_, rfl, l156, ?_⟩)
      exact ⟨hJ, hF, (by first | decide | omega)⟩
  have q8 : ¬ (a1 < (h ((h 0 8) + 1) 2)) := q8
  refine x_thr (np := 15) (x := 2) (by decide +kernel) (by decide +kernel) (Nat.le_trans x_wn (by decide)) (Or.inr ⟨_, rfl, ?_⟩)
  refine Or.inr ⟨_, rfl, ?_⟩
  exact ⟨hJ, hF, by decide⟩
