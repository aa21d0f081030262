/-! ===== methods ===== -/
set_option maxHeartbeats 0 in
/-- LentNames.image()V -/
theorem c138_0 {sc : Nat × Nat} {d  : Nat} {h : xh} (hJ : J h) : X sc 138 (d + 2) (xV fun h' => J h' ∧ Fr 4503599627370757 h h' ∧ (h' 0 10 = 2147483649) ∧ (∀ i, svq h' 3 i = tv h i) ∧ (∀ i, tv h' i = tv h i) ∧ h' 0 8 = h 0 8 ∧ h' 0 9 = h 0 9) 0 0 0 [x_r 0] [] h := by
  have hF := Fr.refl 4503599627370757 h
  refine x_aload (np := 1) (x := 0) (by decide +kernel) rfl (x_nc_le (by decide)) ?_
  have q1 : h 0 7 = 3 := by have z := jB (e := 7) 0 hJ rg_0_7_0_1 (by decide) (by decide); omega
  refine x_getR (np := 4) (x := 647) (f := 7) (q := 3) (by decide +kernel) (by decide) (by decide +kernel) q1 ?_
  refine x_aload (np := 5) (x := 0) (by decide +kernel) rfl (x_nc_le (by decide)) ?_
  have t2 : tw (h 0 8) := hJ.2.1
  refine x_getR (np := 8) (x := 648) (f := 8) (q := (h 0 8)) (by decide +kernel) (by decide) (by decide +kernel) rfl ?_
  refine x_cV (t := 6) (mj := 84) (n := 2) (rc := 9) (ml := 2) (nr := 0) (np := 11) (as := [x_r 3, x_r (h 0 8)]) (rest := []) (lo1 := [x_r 3, x_r (h 0 8)]) (by decide +kernel) (by decide) (by decide +kernel) (x_rb_of (by decide +kernel)) rfl rfl (x_wr (by decide) (x_wr (tn_0 t2) x_wn)) x_wn (by decide) rfl (c84_3_T0 hJ  t2) (fun h6 q5 => ?_)
  obtain ⟨j7, f8, c11, c12, c13, c14, c15, c16⟩ := q5
  have f17 := Fr.trans hF f8 (by decide)
  have b18 := jB (e := 7) 0 hJ (rg_T0_7_0_1 t2) (by first | decide | omega) (by first | decide | omega)
  have b19 := jB (e := 7) 0 j7 rg_3_7_0_1 (by first | decide | omega) (by first | decide | omega)
  have b20 := jB (e := 2) 0 hJ (rg_T1_2_0_1 t2) (by first | decide | omega) (by first | decide | omega)
  have b21 := jB (e := 2) 0 j7 rg_4_2_0_1 (by first | decide | omega) (by first | decide | omega)
  have b22 := jB (e := 2) 0 hJ (rg_T3_2_0_1 t2) (by first | decide | omega) (by first | decide | omega)
  have b23 := jB (e := 2) 0 j7 rg_6_2_0_1 (by first | decide | omega) (by first | decide | omega)
  have b24 := jB (e := 2) 0 hJ (rg_T5_2_0_1 t2) (by first | decide | omega) (by first | decide | omega)
  have b25 := jB (e := 2) 0 j7 rg_8_2_0_1 (by first | decide | omega) (by first | decide | omega)
  have b26 := jB (e := 2) 0 hJ (rg_T7_2_0_1 t2) (by first | decide | omega) (by first | decide | omega)
  have b27 := jB (e := 2) 0 j7 rg_10_2_0_1 (by first | decide | omega) (by first | decide | omega)
  refine x_aload (np := 12) (x := 0) (by decide +kernel) rfl (x_nc_le (by decide)) ?_
  refine x_const (np := 13) (x := 9223372043297226753) (a := 2147483649) (by decide +kernel) (by decide) (by decide) ?_
  refine x_putI (np := 16) (x := 4746) (f := 10) (by decide +kernel) (by decide +kernel) (by decide) (Or.inr ⟨by decide, by first | decide | omega, by first | decide | omega⟩) ?_
  have j29 := jU (e := 10) (v := 2147483649) 0 j7 rg_0_10_0_1 (by first | decide | omega) (by first | decide | omega) (by first | decide | omega)
  have f31 := jF (e := 10) (v := 2147483649) 0 f17 rg_0_10_0_1 (by first | decide | omega) (by first | decide | omega) (by decide)
  generalize e30 : x_up h6 0 10 2147483649 = h28 at j29 f31 ⊢
  have q32 : h28 0 10 = 2147483649 := by rw [← e30]; exact x_up_at
  have q33 : h28 0 8 = h6 0 8 := by rw [← e30]; exact x_up_i (by first | decide | omega)
  have q34 : h6 0 8 = h 0 8 := f8 0 8 (by decide +kernel)
  have q35 : h28 0 9 = h6 0 9 := by rw [← e30]; exact x_up_i (by first | decide | omega)
  have q36 : h6 0 9 = h 0 9 := f8 0 9 (by decide +kernel)
  have t37 : tw (h 0 9) := hJ.2.2.1
  have e40 : tv h 0 = (h (h 0 8) 7) := (congrArg (fun z => svq h z 0) rfl).trans rfl
  have q41 : h28 0 8 = h6 0 8 := by rw [← e30]; exact x_up_i (by first | decide | omega)
  have q42 : h6 0 8 = h 0 8 := f8 0 8 (by decide +kernel)
  have q43 : h28 (h 0 8) 7 = h6 (h 0 8) 7 := by rw [← e30]; exact x_up_k (tne_0_0 t2)
  have q44 : h6 (h 0 8) 7 = h (h 0 8) 7 := jK 0 f8 (rg_T0_7_0_1 t2) (by first | decide | omega) (by first | decide | omega) (by decide)
  have e45 : tv h28 0 = (h (h 0 8) 7) := (congrArg (fun z => svq h28 z 0) (q41.trans q42)).trans (q43.trans q44)
  have q46 : h28 3 7 = h6 3 7 := by rw [← e30]; exact x_up_k (by decide)
  have e47 : tv h 1 = (h (h 0 8) 8) := (congrArg (fun z => svq h z 1) rfl).trans rfl
  have q48 : h28 0 8 = h6 0 8 := by rw [← e30]; exact x_up_i (by first | decide | omega)
  have q49 : h6 0 8 = h 0 8 := f8 0 8 (by decide +kernel)
  have q50 : h28 (h 0 8) 8 = h6 (h 0 8) 8 := by rw [← e30]; exact x_up_k (tne_0_0 t2)
  have q51 : h6 (h 0 8) 8 = h (h 0 8) 8 := jK 0 f8 (rg_T0_8_0_1 t2) (by first | decide | omega) (by first | decide | omega) (by decide)
  have e52 : tv h28 1 = (h (h 0 8) 8) := (congrArg (fun z => svq h28 z 1) (q48.trans q49)).trans (q50.trans q51)
  have q53 : h28 3 8 = h6 3 8 := by rw [← e30]; exact x_up_k (by decide)
  have e54 : tv h 2 = (h ((h 0 8) + 1) 2) := (congrArg (fun z => svq h z 2) rfl).trans rfl
  have q55 : h28 0 8 = h6 0 8 := by rw [← e30]; exact x_up_i (by first | decide | omega)
  have q56 : h6 0 8 = h 0 8 := f8 0 8 (by decide +kernel)
  have q57 : h28 ((h 0 8) + 1) 2 = h6 ((h 0 8) + 1) 2 := by rw [← e30]; exact x_up_k (tne_1_0 t2)
  have q58 : h6 ((h 0 8) + 1) 2 = h ((h 0 8) + 1) 2 := jK 0 f8 (rg_T1_2_0_1 t2) (by first | decide | omega) (by first | decide | omega) (by decide)
  have e59 : tv h28 2 = (h ((h 0 8) + 1) 2) := (congrArg (fun z => svq h28 z 2) (q55.trans q56)).trans (q57.trans q58)
  have q60 : h28 4 2 = h6 4 2 := by rw [← e30]; exact x_up_k (by decide)
  have e61 : tv h 3 = (h ((h 0 8) + 3) 2) := (congrArg (fun z => svq h z 3) rfl).trans rfl
  have q62 : h28 0 8 = h6 0 8 := by rw [← e30]; exact x_up_i (by first | decide | omega)
  have q63 : h6 0 8 = h 0 8 := f8 0 8 (by decide +kernel)
  have q64 : h28 ((h 0 8) + 3) 2 = h6 ((h 0 8) + 3) 2 := by rw [← e30]; exact x_up_k (tne_3_0 t2)
  have q65 : h6 ((h 0 8) + 3) 2 = h ((h 0 8) + 3) 2 := jK 0 f8 (rg_T3_2_0_1 t2) (by first | decide | omega) (by first | decide | omega) (by decide)
  have e66 : tv h28 3 = (h ((h 0 8) + 3) 2) := (congrArg (fun z => svq h28 z 3) (q62.trans q63)).trans (q64.trans q65)
  have q67 : h28 6 2 = h6 6 2 := by rw [← e30]; exact x_up_k (by decide)
  have e68 : tv h 4 = (h ((h 0 8) + 5) 2) := (congrArg (fun z => svq h z 4) rfl).trans rfl
  have q69 : h28 0 8 = h6 0 8 := by rw [← e30]; exact x_up_i (by first | decide | omega)
  have q70 : h6 0 8 = h 0 8 := f8 0 8 (by decide +kernel)
  have q71 : h28 ((h 0 8) + 5) 2 = h6 ((h 0 8) + 5) 2 := by rw [← e30]; exact x_up_k (tne_5_0 t2)
  have q72 : h6 ((h 0 8) + 5) 2 = h ((h 0 8) + 5) 2 := jK 0 f8 (rg_T5_2_0_1 t2) (by first | decide | omega) (by first | decide | omega) (by decide)
  have e73 : tv h28 4 = (h ((h 0 8) + 5) 2) := (congrArg (fun z => svq h28 z 4) (q69.trans q70)).trans (q71.trans q72)
  have q74 : h28 8 2 = h6 8 2 := by rw [← e30]; exact x_up_k (by decide)
  have e75 : tv h 5 = (h ((h 0 8) + 7) 2) := (congrArg (fun z => svq h z 5) rfl).trans rfl
  have q76 : h28 0 8 = h6 0 8 := by rw [← e30]; exact x_up_i (by first | decide | omega)
  have q77 : h6 0 8 = h 0 8 := f8 0 8 (by decide +kernel)
  have q78 : h28 ((h 0 8) + 7) 2 = h6 ((h 0 8) + 7) 2 := by rw [← e30]; exact x_up_k (tne_7_0 t2)
  have q79 : h6 ((h 0 8) + 7) 2 = h ((h 0 8) + 7) 2 := jK 0 f8 (rg_T7_2_0_1 t2) (by first | decide | omega) (by first | decide | omega) (by decide)
  have e80 : tv h28 5 = (h ((h 0 8) + 7) 2) := (congrArg (fun z => svq h28 z 5) (q76.trans q77)).trans (q78.trans q79)
  have q81 : h28 10 2 = h6 10 2 := by rw [← e30]; exact x_up_k (by decide)
  have m38 : ∀ i, svq h28 3 i = tv h i := fun i => match i with | 0 => (show h28 3 7 = _ by first | decide | omega) | 1 => (show h28 3 8 = _ by first | decide | omega) | 2 => (show h28 4 2 = _ by first | decide | omega) | 3 => (show h28 6 2 = _ by first | decide | omega) | 4 => (show h28 8 2 = _ by first | decide | omega) | _ + 5 => (show h28 10 2 = tv h 5 by first | decide | omega)
  have m39 : ∀ i, tv h28 i = tv h i := fun i => match i with | 0 => by omega | 1 => by omega | 2 => by omega | 3 => by omega | 4 => by omega | _ + 5 => (show tv h28 5 = tv h 5 by first | decide | omega)
  refine x_retV (np := 17) (x := 0) (by decide +kernel) (by decide +kernel) ⟨rfl, ?_⟩
  exact ⟨j29, f31, (by first | decide | omega), m38, m39, (q33.trans q34), (q35.trans q36)⟩
set_option maxHeartbeats 0 in
/-- LentNames$Town.copy(LLentNames$Town;)V -/
theorem c84_T0_3 {sc : Nat × Nat} {d ra0 : Nat} {h : xh} (hJ : J h) (ta0 : tw ra0) : X sc 84 (d + 1) (xV fun h' => J h' ∧ Fr 1407374883553409 h h' ∧ (h' ra0 7 = h 3 7) ∧ (h' ra0 8 = h 3 8) ∧ (h' (ra0 + 1) 2 = h 4 2) ∧ (h' (ra0 + 3) 2 = h 6 2) ∧ (h' (ra0 + 5) 2 = h 8 2) ∧ (h' (ra0 + 7) 2 = h 10 2) ∧ Ot ra0 h h') 0 0 0 [x_r ra0, x_r 3] [] h := by
  have hF := Fr.refl 1407374883553409 h
  refine x_aload (np := 1) (x := 0) (by decide +kernel) rfl (x_nc_le (tn_0 ta0)) ?_
  have q1 : h ra0 0 = (ra0 + 1) := tf_0_0 hJ ta0
  refine x_getR (np := 4) (x := 512) (f := 0) (q := (ra0 + 1)) (by decide +kernel) (by decide) (tg_0_512_0_1 ta0) q1 ?_
  refine x_aload (np := 5) (x := 1) (by decide +kernel) rfl (x_nc_le (by decide)) ?_
  have q2 : h 3 0 = 4 := by have z := jB (e := 0) 0 hJ rg_3_0_0_1 (by decide) (by decide); omega
  refine x_getR (np := 8) (x := 512) (f := 0) (q := 4) (by decide +kernel) (by decide) (by decide +kernel) q2 ?_
  refine x_nV (t := 6) (mj := 70) (n := 2) (rc := 7) (ml := 2) (nr := 0) (np := 11) (as := [x_r (ra0 + 1), x_r 4]) (rest := []) (lo1 := [x_r (ra0 + 1), x_r 4]) (by decide +kernel) (by decide) (by decide +kernel) (x_rb_of (tr_1_7 ta0)) rfl rfl (x_wr (tn_1 ta0) (x_wr (by decide) x_wn)) x_wn (by decide) rfl ?_
  refine x_aload (np := 1) (x := 0) (by decide +kernel) rfl (x_nc_le (tn_1 ta0)) ?_
  refine x_aload (np := 2) (x := 1) (by decide +kernel) rfl (x_nc_le (by decide)) ?_
  have b3 := jB (e := 2) 0 hJ rg_4_2_0_1 (by first | decide | omega) (by first | decide | omega)
  refine x_getC (np := 5) (x := 386) (f := 2) (q := (h 4 2)) (by decide +kernel) (by decide) (by decide +kernel) rfl (fun l4 => ?_)
  refine x_putI (np := 8) (x := 386) (f := 2) (by decide +kernel) (tg_1_386_2_0 ta0) l4 (Or.inl (by decide)) ?_
  have j6 := jU (e := 2) (v := (h 4 2)) 0 hJ (rg_T1_2_0_1 ta0) (by first | decide | omega) (by first | decide | omega) (by first | decide | omega)
  have f8 := jF (e := 2) (v := (h 4 2)) 0 hF (rg_T1_2_0_1 ta0) (by first | decide | omega) (by first | decide | omega) (by decide)
  generalize e7 : x_up h (ra0 + 1) 2 (h 4 2) = h5 at j6 f8 ⊢
  refine x_aload (np := 9) (x := 1) (by decide +kernel) rfl (x_nc_le (by decide)) ?_
  have q9 : h5 4 1 = 5 := by have z := jB (e := 1) 0 j6 rg_4_1_0_1 (by decide) (by decide); omega
  refine x_getR (np := 12) (x := 385) (f := 1) (q := 5) (by decide +kernel) (by decide) (by decide +kernel) q9 ?_
  refine x_const (np := 13) (x := 9223372039002259456) (a := 2147483648) (by decide +kernel) (by decide) (by decide) ?_
  refine x_aload (np := 14) (x := 0) (by decide +kernel) rfl (x_nc_le (tn_1 ta0)) ?_
  have q10 : h5 (ra0 + 1) 1 = (ra0 + 2) := tf_1_1 j6 ta0
  refine x_getR (np := 17) (x := 385) (f := 1) (q := (ra0 + 2)) (by decide +kernel) (by decide) (tg_1_385_1_1 ta0) q10 ?_
  refine x_const (np := 18) (x := 9223372039002259456) (a := 2147483648) (by decide +kernel) (by decide) (by decide) ?_
  refine x_aload (np := 19) (x := 0) (by decide +kernel) rfl (x_nc_le (tn_1 ta0)) ?_
  have q11 : h5 (ra0 + 1) 1 = (ra0 + 2) := tf_1_1 j6 ta0
  refine x_getR (np := 22) (x := 385) (f := 1) (q := (ra0 + 2)) (by decide +kernel) (by decide) (tg_1_385_1_1 ta0) q11 ?_
  refine x_alen (np := 23) (x := 0) (n := 140) (by decide +kernel) (tn_2 ta0) (tl_2 ta0).1 (tl_2 ta0).2 (by decide) ?_
  show X _ _ _ _ _ _ _ _ [iv_c 2147483788, iv_c 2147483648, x_r (ra0 + 2), iv_c 2147483648, x_r 5] _
  refine x_aload (np := 24) (x := 1) (by decide +kernel) rfl (x_nc_le (by decide)) ?_
  have q12 : h5 4 1 = 5 := by have z := jB (e := 1) 0 j6 rg_4_1_0_1 (by decide) (by decide); omega
  refine x_getR (np := 27) (x := 385) (f := 1) (q := 5) (by decide +kernel) (by decide) (by decide +kernel) q12 ?_
  refine x_alen (np := 28) (x := 0) (n := 140) (by decide +kernel) (by decide) (by decide +kernel) (by decide +kernel) (by decide) ?_
  show X _ _ _ _ _ _ _ _ [iv_c 2147483788, iv_c 2147483788, iv_c 2147483648, x_r (ra0 + 2), iv_c 2147483648, x_r 5] _
  refine x_min (np := 31) (by decide +kernel) (by decide) (by decide) (Nat.le_trans (x_wi (by decide) (x_wi (by decide) (x_wi (by decide) (x_wr (tn_2 ta0) (x_wi (by decide) (x_wr (by decide) x_wn)))))) (by decide)) ?_
  rw [show min 2147483788 2147483788 = 2147483788 by decide]
  refine x_copy (np := 34) (q := (ra0 + 2)) (r := 5) (N := 140) (nq := 140) (nr := 140) (n8 := 0) (by decide +kernel) (by decide +kernel) (ta_2_140 ta0) (by decide) (by decide) (by decide) (by decide) x_wn (by decide) ?_
  have j16 := J_cp (q := (ra0 + 2)) (r := 5) (N := 140) j6 (by decide) (ctb_T2_5_140 ta0).1 (ctb_T2_5_140 ta0).2.1 (ctb_T2_5_140 ta0).2.2
  have f17 := Fr_cp (q := (ra0 + 2)) (r := 5) (N := 140) (Fr.refl 128 h5) (fun i _ => by rw [tgr_2 ta0]; decide)
  generalize e18 : x_cp h5 (ra0 + 2) 5 140 = h15 at j16 f17 ⊢
  have f19 := Fr.trans f8 f17 (by decide)
  refine x_retV (np := 35) (x := 0) (by decide +kernel) (by decide +kernel) ⟨rfl, ?_⟩
  refine x_aload (np := 12) (x := 0) (by decide +kernel) rfl (x_nc_le (tn_0 ta0)) ?_
  have q20 : h15 ra0 1 = (ra0 + 3) := tf_0_1 j16 ta0
  refine x_getR (np := 15) (x := 513) (f := 1) (q := (ra0 + 3)) (by decide +kernel) (by decide) (tg_0_513_1_1 ta0) q20 ?_
  refine x_aload (np := 16) (x := 1) (by decide +kernel) rfl (x_nc_le (by decide)) ?_
  have q21 : h15 3 1 = 6 := by have z := jB (e := 1) 0 j16 rg_3_1_0_1 (by decide) (by decide); omega
  refine x_getR (np := 19) (x := 513) (f := 1) (q := 6) (by decide +kernel) (by decide) (by decide +kernel) q21 ?_
  refine x_nV (t := 6) (mj := 70) (n := 2) (rc := 7) (ml := 2) (nr := 0) (np := 22) (as := [x_r (ra0 + 3), x_r 6]) (rest := []) (lo1 := [x_r (ra0 + 3), x_r 6]) (by decide +kernel) (by decide) (by decide +kernel) (x_rb_of (tr_3_7 ta0)) rfl rfl (x_wr (tn_3 ta0) (x_wr (by decide) x_wn)) x_wn (by decide) rfl ?_
  refine x_aload (np := 1) (x := 0) (by decide +kernel) rfl (x_nc_le (tn_3 ta0)) ?_
  refine x_aload (np := 2) (x := 1) (by decide +kernel) rfl (x_nc_le (by decide)) ?_
  have q22 : h15 6 2 = h5 6 2 := jK 0 f17 rg_6_2_0_1 (by first | decide | omega) (by first | decide | omega) (by decide)
  have q23 : h5 6 2 = h 6 2 := by rw [← e7]; exact x_up_k (Ne.symm (tne_1_6 ta0))
  have b24 := jB (e := 2) 0 hJ rg_6_2_0_1 (by first | decide | omega) (by first | decide | omega)
  refine x_getC (np := 5) (x := 386) (f := 2) (q := (h 6 2)) (by decide +kernel) (by decide) (by decide +kernel) (q22.trans q23) (fun l25 => ?_)
  refine x_putI (np := 8) (x := 386) (f := 2) (by decide +kernel) (tg_3_386_2_0 ta0) l25 (Or.inl (by decide)) ?_
  have j27 := jU (e := 2) (v := (h 6 2)) 0 j16 (rg_T3_2_0_1 ta0) (by first | decide | omega) (by first | decide | omega) (by first | decide | omega)
  have f29 := jF (e := 2) (v := (h 6 2)) 0 f19 (rg_T3_2_0_1 ta0) (by first | decide | omega) (by first | decide | omega) (by decide)
  generalize e28 : x_up h15 (ra0 + 3) 2 (h 6 2) = h26 at j27 f29 ⊢
  refine x_aload (np := 9) (x := 1) (by decide +kernel) rfl (x_nc_le (by decide)) ?_
  have q30 : h26 6 1 = 7 := by have z := jB (e := 1) 0 j27 rg_6_1_0_1 (by decide) (by decide); omega
  refine x_getR (np := 12) (x := 385) (f := 1) (q := 7) (by decide +kernel) (by decide) (by decide +kernel) q30 ?_
  refine x_const (np := 13) (x := 9223372039002259456) (a := 2147483648) (by decide +kernel) (by decide) (by decide) ?_
  refine x_aload (np := 14) (x := 0) (by decide +kernel) rfl (x_nc_le (tn_3 ta0)) ?_
  have q31 : h26 (ra0 + 3) 1 = (ra0 + 4) := tf_3_1 j27 ta0
  refine x_getR (np := 17) (x := 385) (f := 1) (q := (ra0 + 4)) (by decide +kernel) (by decide) (tg_3_385_1_1 ta0) q31 ?_
  refine x_const (np := 18) (x := 9223372039002259456) (a := 2147483648) (by decide +kernel) (by decide) (by decide) ?_
  refine x_aload (np := 19) (x := 0) (by decide +kernel) rfl (x_nc_le (tn_3 ta0)) ?_
  have q32 : h26 (ra0 + 3) 1 = (ra0 + 4) := tf_3_1 j27 ta0
  refine x_getR (np := 22) (x := 385) (f := 1) (q := (ra0 + 4)) (by decide +kernel) (by decide) (tg_3_385_1_1 ta0) q32 ?_
  refine x_alen (np := 23) (x := 0) (n := 40) (by decide +kernel) (tn_4 ta0) (tl_4 ta0).1 (tl_4 ta0).2 (by decide) ?_
  show X _ _ _ _ _ _ _ _ [iv_c 2147483688, iv_c 2147483648, x_r (ra0 + 4), iv_c 2147483648, x_r 7] _
  refine x_aload (np := 24) (x := 1) (by decide +kernel) rfl (x_nc_le (by decide)) ?_
  have q33 : h26 6 1 = 7 := by have z := jB (e := 1) 0 j27 rg_6_1_0_1 (by decide) (by decide); omega
  refine x_getR (np := 27) (x := 385) (f := 1) (q := 7) (by decide +kernel) (by decide) (by decide +kernel) q33 ?_
  refine x_alen (np := 28) (x := 0) (n := 40) (by decide +kernel) (by decide) (by decide +kernel) (by decide +kernel) (by decide) ?_
  show X _ _ _ _ _ _ _ _ [iv_c 2147483688, iv_c 2147483688, iv_c 2147483648, x_r (ra0 + 4), iv_c 2147483648, x_r 7] _
  refine x_min (np := 31) (by decide +kernel) (by decide) (by decide) (Nat.le_trans (x_wi (by decide) (x_wi (by decide) (x_wi (by decide) (x_wr (tn_4 ta0) (x_wi (by decide) (x_wr (by decide) x_wn)))))) (by decide)) ?_
  rw [show min 2147483688 2147483688 = 2147483688 by decide]
  refine x_copy (np := 34) (q := (ra0 + 4)) (r := 7) (N := 40) (nq := 40) (nr := 40) (n8 := 0) (by decide +kernel) (by decide +kernel) (ta_4_40 ta0) (by decide) (by decide) (by decide) (by decide) x_wn (by decide) ?_
  have j37 := J_cp (q := (ra0 + 4)) (r := 7) (N := 40) j27 (by decide) (ctb_T4_7_40 ta0).1 (ctb_T4_7_40 ta0).2.1 (ctb_T4_7_40 ta0).2.2
  have f38 := Fr_cp (q := (ra0 + 4)) (r := 7) (N := 40) (Fr.refl 128 h26) (fun i _ => by rw [tgr_4 ta0]; decide)
  generalize e39 : x_cp h26 (ra0 + 4) 7 40 = h36 at j37 f38 ⊢
  have f40 := Fr.trans f29 f38 (by decide)
  refine x_retV (np := 35) (x := 0) (by decide +kernel) (by decide +kernel) ⟨rfl, ?_⟩
  refine x_aload (np := 23) (x := 0) (by decide +kernel) rfl (x_nc_le (tn_0 ta0)) ?_
  have q41 : h36 ra0 2 = (ra0 + 5) := tf_0_2 j37 ta0
  refine x_getR (np := 26) (x := 514) (f := 2) (q := (ra0 + 5)) (by decide +kernel) (by decide) (tg_0_514_2_1 ta0) q41 ?_
  refine x_aload (np := 27) (x := 1) (by decide +kernel) rfl (x_nc_le (by decide)) ?_
  have q42 : h36 3 2 = 8 := by have z := jB (e := 2) 0 j37 rg_3_2_0_1 (by decide) (by decide); omega
  refine x_getR (np := 30) (x := 514) (f := 2) (q := 8) (by decide +kernel) (by decide) (by decide +kernel) q42 ?_
  refine x_nV (t := 6) (mj := 70) (n := 2) (rc := 7) (ml := 2) (nr := 0) (np := 33) (as := [x_r (ra0 + 5), x_r 8]) (rest := []) (lo1 := [x_r (ra0 + 5), x_r 8]) (by decide +kernel) (by decide) (by decide +kernel) (x_rb_of (tr_5_7 ta0)) rfl rfl (x_wr (tn_5 ta0) (x_wr (by decide) x_wn)) x_wn (by decide) rfl ?_
  refine x_aload (np := 1) (x := 0) (by decide +kernel) rfl (x_nc_le (tn_5 ta0)) ?_
  refine x_aload (np := 2) (x := 1) (by decide +kernel) rfl (x_nc_le (by decide)) ?_
  have q43 : h36 8 2 = h26 8 2 := jK 0 f38 rg_8_2_0_1 (by first | decide | omega) (by first | decide | omega) (by decide)
  have q44 : h26 8 2 = h15 8 2 := by rw [← e28]; exact x_up_k (Ne.symm (tne_3_8 ta0))
  have q45 : h15 8 2 = h5 8 2 := jK 0 f17 rg_8_2_0_1 (by first | decide | omega) (by first | decide | omega) (by decide)
  have q46 : h5 8 2 = h 8 2 := by rw [← e7]; exact x_up_k (Ne.symm (tne_1_8 ta0))
  have b47 := jB (e := 2) 0 hJ rg_8_2_0_1 (by first | decide | omega) (by first | decide | omega)
  refine x_getC (np := 5) (x := 386) (f := 2) (q := (h 8 2)) (by decide +kernel) (by decide) (by decide +kernel) (((q43.trans q44).trans q45).trans q46) (fun l48 => ?_)
  refine x_putI (np := 8) (x := 386) (f := 2) (by decide +kernel) (tg_5_386_2_0 ta0) l48 (Or.inl (by decide)) ?_
  have j50 := jU (e := 2) (v := (h 8 2)) 0 j37 (rg_T5_2_0_1 ta0) (by first | decide | omega) (by first | decide | omega) (by first | decide | omega)
  have f52 := jF (e := 2) (v := (h 8 2)) 0 f40 (rg_T5_2_0_1 ta0) (by first | decide | omega) (by first | decide | omega) (by decide)
  generalize e51 : x_up h36 (ra0 + 5) 2 (h 8 2) = h49 at j50 f52 ⊢
  refine x_aload (np := 9) (x := 1) (by decide +kernel) rfl (x_nc_le (by decide)) ?_
  have q53 : h49 8 1 = 9 := by have z := jB (e := 1) 0 j50 rg_8_1_0_1 (by decide) (by decide); omega
  refine x_getR (np := 12) (x := 385) (f := 1) (q := 9) (by decide +kernel) (by decide) (by decide +kernel) q53 ?_
  refine x_const (np := 13) (x := 9223372039002259456) (a := 2147483648) (by decide +kernel) (by decide) (by decide) ?_
  refine x_aload (np := 14) (x := 0) (by decide +kernel) rfl (x_nc_le (tn_5 ta0)) ?_
  have q54 : h49 (ra0 + 5) 1 = (ra0 + 6) := tf_5_1 j50 ta0
  refine x_getR (np := 17) (x := 385) (f := 1) (q := (ra0 + 6)) (by decide +kernel) (by decide) (tg_5_385_1_1 ta0) q54 ?_
  refine x_const (np := 18) (x := 9223372039002259456) (a := 2147483648) (by decide +kernel) (by decide) (by decide) ?_
  refine x_aload (np := 19) (x := 0) (by decide +kernel) rfl (x_nc_le (tn_5 ta0)) ?_
  have q55 : h49 (ra0 + 5) 1 = (ra0 + 6) := tf_5_1 j50 ta0
  refine x_getR (np := 22) (x := 385) (f := 1) (q := (ra0 + 6)) (by decide +kernel) (by decide) (tg_5_385_1_1 ta0) q55 ?_
  refine x_alen (np := 23) (x := 0) (n := 40) (by decide +kernel) (tn_6 ta0) (tl_6 ta0).1 (tl_6 ta0).2 (by decide) ?_
  show X _ _ _ _ _ _ _ _ [iv_c 2147483688, iv_c 2147483648, x_r (ra0 + 6), iv_c 2147483648, x_r 9] _
  refine x_aload (np := 24) (x := 1) (by decide +kernel) rfl (x_nc_le (by decide)) ?_
  have q56 : h49 8 1 = 9 := by have z := jB (e := 1) 0 j50 rg_8_1_0_1 (by decide) (by decide); omega
  refine x_getR (np := 27) (x := 385) (f := 1) (q := 9) (by decide +kernel) (by decide) (by decide +kernel) q56 ?_
  refine x_alen (np := 28) (x := 0) (n := 40) (by decide +kernel) (by decide) (by decide +kernel) (by decide +kernel) (by decide) ?_
  show X _ _ _ _ _ _ _ _ [iv_c 2147483688, iv_c 2147483688, iv_c 2147483648, x_r (ra0 + 6), iv_c 2147483648, x_r 9] _
  refine x_min (np := 31) (by decide +kernel) (by decide) (by decide) (Nat.le_trans (x_wi (by decide) (x_wi (by decide) (x_wi (by decide) (x_wr (tn_6 ta0) (x_wi (by decide) (x_wr (by decide) x_wn)))))) (by decide)) ?_
  rw [show min 2147483688 2147483688 = 2147483688 by decide]
  refine x_copy (np := 34) (q := (ra0 + 6)) (r := 9) (N := 40) (nq := 40) (nr := 40) (n8 := 0) (by decide +kernel) (by decide +kernel) (ta_6_40 ta0) (by decide) (by decide) (by decide) (by decide) x_wn (by decide) ?_
  have j60 := J_cp (q := (ra0 + 6)) (r := 9) (N := 40) j50 (by decide) (ctb_T6_9_40 ta0).1 (ctb_T6_9_40 ta0).2.1 (ctb_T6_9_40 ta0).2.2
  have f61 := Fr_cp (q := (ra0 + 6)) (r := 9) (N := 40) (Fr.refl 128 h49) (fun i _ => by rw [tgr_6 ta0]; decide)
  generalize e62 : x_cp h49 (ra0 + 6) 9 40 = h59 at j60 f61 ⊢
  have f63 := Fr.trans f52 f61 (by decide)
  refine x_retV (np := 35) (x := 0) (by decide +kernel) (by decide +kernel) ⟨rfl, ?_⟩
  refine x_aload (np := 34) (x := 0) (by decide +kernel) rfl (x_nc_le (tn_0 ta0)) ?_
  have q64 : h59 ra0 3 = (ra0 + 7) := tf_0_3 j60 ta0
  refine x_getR (np := 37) (x := 515) (f := 3) (q := (ra0 + 7)) (by decide +kernel) (by decide) (tg_0_515_3_1 ta0) q64 ?_
  refine x_aload (np := 38) (x := 1) (by decide +kernel) rfl (x_nc_le (by decide)) ?_
  have q65 : h59 3 3 = 10 := by have z := jB (e := 3) 0 j60 rg_3_3_0_1 (by decide) (by decide); omega
  refine x_getR (np := 41) (x := 515) (f := 3) (q := 10) (by decide +kernel) (by decide) (by decide +kernel) q65 ?_
  refine x_nV (t := 6) (mj := 70) (n := 2) (rc := 7) (ml := 2) (nr := 0) (np := 44) (as := [x_r (ra0 + 7), x_r 10]) (rest := []) (lo1 := [x_r (ra0 + 7), x_r 10]) (by decide +kernel) (by decide) (by decide +kernel) (x_rb_of (tr_7_7 ta0)) rfl rfl (x_wr (tn_7 ta0) (x_wr (by decide) x_wn)) x_wn (by decide) rfl ?_
  refine x_aload (np := 1) (x := 0) (by decide +kernel) rfl (x_nc_le (tn_7 ta0)) ?_
  refine x_aload (np := 2) (x := 1) (by decide +kernel) rfl (x_nc_le (by decide)) ?_
  have q66 : h59 10 2 = h49 10 2 := jK 0 f61 rg_10_2_0_1 (by first | decide | omega) (by first | decide | omega) (by decide)
  have q67 : h49 10 2 = h36 10 2 := by rw [← e51]; exact x_up_k (Ne.symm (tne_5_10 ta0))
  have q68 : h36 10 2 = h26 10 2 := jK 0 f38 rg_10_2_0_1 (by first | decide | omega) (by first | decide | omega) (by decide)
  have q69 : h26 10 2 = h15 10 2 := by rw [← e28]; exact x_up_k (Ne.symm (tne_3_10 ta0))
  have q70 : h15 10 2 = h5 10 2 := jK 0 f17 rg_10_2_0_1 (by first | decide | omega) (by first | decide | omega) (by decide)
  have q71 : h5 10 2 = h 10 2 := by rw [← e7]; exact x_up_k (Ne.symm (tne_1_10 ta0))
  have b72 := jB (e := 2) 0 hJ rg_10_2_0_1 (by first | decide | omega) (by first | decide | omega)
  refine x_getC (np := 5) (x := 386) (f := 2) (q := (h 10 2)) (by decide +kernel) (by decide) (by decide +kernel) (((((q66.trans q67).trans q68).trans q69).trans q70).trans q71) (fun l73 => ?_)
  refine x_putI (np := 8) (x := 386) (f := 2) (by decide +kernel) (tg_7_386_2_0 ta0) l73 (Or.inl (by decide)) ?_
  have j75 := jU (e := 2) (v := (h 10 2)) 0 j60 (rg_T7_2_0_1 ta0) (by first | decide | omega) (by first | decide | omega) (by first | decide | omega)
  have f77 := jF (e := 2) (v := (h 10 2)) 0 f63 (rg_T7_2_0_1 ta0) (by first | decide | omega) (by first | decide | omega) (by decide)
  generalize e76 : x_up h59 (ra0 + 7) 2 (h 10 2) = h74 at j75 f77 ⊢
  refine x_aload (np := 9) (x := 1) (by decide +kernel) rfl (x_nc_le (by decide)) ?_
  have q78 : h74 10 1 = 11 := by have z := jB (e := 1) 0 j75 rg_10_1_0_1 (by decide) (by decide); omega
  refine x_getR (np := 12) (x := 385) (f := 1) (q := 11) (by decide +kernel) (by decide) (by decide +kernel) q78 ?_
  refine x_const (np := 13) (x := 9223372039002259456) (a := 2147483648) (by decide +kernel) (by decide) (by decide) ?_
  refine x_aload (np := 14) (x := 0) (by decide +kernel) rfl (x_nc_le (tn_7 ta0)) ?_
  have q79 : h74 (ra0 + 7) 1 = (ra0 + 8) := tf_7_1 j75 ta0
  refine x_getR (np := 17) (x := 385) (f := 1) (q := (ra0 + 8)) (by decide +kernel) (by decide) (tg_7_385_1_1 ta0) q79 ?_
  refine x_const (np := 18) (x := 9223372039002259456) (a := 2147483648) (by decide +kernel) (by decide) (by decide) ?_
  refine x_aload (np := 19) (x := 0) (by decide +kernel) rfl (x_nc_le (tn_7 ta0)) ?_
  have q80 : h74 (ra0 + 7) 1 = (ra0 + 8) := tf_7_1 j75 ta0
  refine x_getR (np := 22) (x := 385) (f := 1) (q := (ra0 + 8)) (by decide +kernel) (by decide) (tg_7_385_1_1 ta0) q80 ?_
  refine x_alen (np := 23) (x := 0) (n := 40) (by decide +kernel) (tn_8 ta0) (tl_8 ta0).1 (tl_8 ta0).2 (by decide) ?_
  show X _ _ _ _ _ _ _ _ [iv_c 2147483688, iv_c 2147483648, x_r (ra0 + 8), iv_c 2147483648, x_r 11] _
  refine x_aload (np := 24) (x := 1) (by decide +kernel) rfl (x_nc_le (by decide)) ?_
  have q81 : h74 10 1 = 11 := by have z := jB (e := 1) 0 j75 rg_10_1_0_1 (by decide) (by decide); omega
  refine x_getR (np := 27) (x := 385) (f := 1) (q := 11) (by decide +kernel) (by decide) (by decide +kernel) q81 ?_
  refine x_alen (np := 28) (x := 0) (n := 40) (by decide +kernel) (by decide) (by decide +kernel) (by decide +kernel) (by decide) ?_
  show X _ _ _ _ _ _ _ _ [iv_c 2147483688, iv_c 2147483688, iv_c 2147483648, x_r (ra0 + 8), iv_c 2147483648, x_r 11] _
  refine x_min (np := 31) (by decide +kernel) (by decide) (by decide) (Nat.le_trans (x_wi (by decide) (x_wi (by decide) (x_wi (by decide) (x_wr (tn_8 ta0) (x_wi (by decide) (x_wr (by decide) x_wn)))))) (by decide)) ?_
  rw [show min 2147483688 2147483688 = 2147483688 by decide]
  refine x_copy (np := 34) (q := (ra0 + 8)) (r := 11) (N := 40) (nq := 40) (nr := 40) (n8 := 0) (by decide +kernel) (by decide +kernel) (ta_8_40 ta0) (by decide) (by decide) (by decide) (by decide) x_wn (by decide) ?_
  have j85 := J_cp (q := (ra0 + 8)) (r := 11) (N := 40) j75 (by decide) (ctb_T8_11_40 ta0).1 (ctb_T8_11_40 ta0).2.1 (ctb_T8_11_40 ta0).2.2
  have f86 := Fr_cp (q := (ra0 + 8)) (r := 11) (N := 40) (Fr.refl 128 h74) (fun i _ => by rw [tgr_8 ta0]; decide)
  generalize e87 : x_cp h74 (ra0 + 8) 11 40 = h84 at j85 f86 ⊢
  have f88 := Fr.trans f77 f86 (by decide)
  refine x_retV (np := 35) (x := 0) (by decide +kernel) (by decide +kernel) ⟨rfl, ?_⟩
  refine x_aload (np := 45) (x := 1) (by decide +kernel) rfl (x_nc_le (by decide)) ?_
  have q89 : h84 3 4 = 12 := by have z := jB (e := 4) 0 j85 rg_3_4_0_1 (by decide) (by decide); omega
  refine x_getR (np := 48) (x := 516) (f := 4) (q := 12) (by decide +kernel) (by decide) (by decide +kernel) q89 ?_
  refine x_const (np := 49) (x := 9223372039002259456) (a := 2147483648) (by decide +kernel) (by decide) (by decide) ?_
  refine x_aload (np := 50) (x := 0) (by decide +kernel) rfl (x_nc_le (tn_0 ta0)) ?_
  have q90 : h84 ra0 4 = (ra0 + 9) := tf_0_4 j85 ta0
  refine x_getR (np := 53) (x := 516) (f := 4) (q := (ra0 + 9)) (by decide +kernel) (by decide) (tg_0_516_4_1 ta0) q90 ?_
  refine x_const (np := 54) (x := 9223372039002259456) (a := 2147483648) (by decide +kernel) (by decide) (by decide) ?_
  refine x_const (np := 56) (x := 9223372064772063238) (a := 2147483654) (by decide +kernel) (by decide) (by decide) ?_
  refine x_copy (np := 59) (q := (ra0 + 9)) (r := 12) (N := 6) (nq := 6) (nr := 6) (n8 := 0) (by decide +kernel) (by decide +kernel) (ta_9_6 ta0) (by decide) (by decide) (by decide) (by decide) x_wn (by decide) ?_
  have j92 := J_cp (q := (ra0 + 9)) (r := 12) (N := 6) j85 (by decide) (ctb_T9_12_6 ta0).1 (ctb_T9_12_6 ta0).2.1 (ctb_T9_12_6 ta0).2.2
  have f93 := Fr_cp (q := (ra0 + 9)) (r := 12) (N := 6) (Fr.refl 128 h84) (fun i _ => by rw [tgr_9 ta0]; decide)
  generalize e94 : x_cp h84 (ra0 + 9) 12 6 = h91 at j92 f93 ⊢
  have f95 := Fr.trans f88 f93 (by decide)
  refine x_aload (np := 60) (x := 1) (by decide +kernel) rfl (x_nc_le (by decide)) ?_
  have q96 : h91 3 5 = 13 := by have z := jB (e := 5) 0 j92 rg_3_5_0_1 (by decide) (by decide); omega
  refine x_getR (np := 63) (x := 517) (f := 5) (q := 13) (by decide +kernel) (by decide) (by decide +kernel) q96 ?_
  refine x_const (np := 64) (x := 9223372039002259456) (a := 2147483648) (by decide +kernel) (by decide) (by decide) ?_
  refine x_aload (np := 65) (x := 0) (by decide +kernel) rfl (x_nc_le (tn_0 ta0)) ?_
  have q97 : h91 ra0 5 = (ra0 + 10) := tf_0_5 j92 ta0
  refine x_getR (np := 68) (x := 517) (f := 5) (q := (ra0 + 10)) (by decide +kernel) (by decide) (tg_0_517_5_1 ta0) q97 ?_
  refine x_const (np := 69) (x := 9223372039002259456) (a := 2147483648) (by decide +kernel) (by decide) (by decide) ?_
  refine x_const (np := 71) (x := 9223372064772063238) (a := 2147483654) (by decide +kernel) (by decide) (by decide) ?_
  refine x_copy (np := 74) (q := (ra0 + 10)) (r := 13) (N := 6) (nq := 6) (nr := 6) (n8 := 0) (by decide +kernel) (by decide +kernel) (ta_10_6 ta0) (by decide) (by decide) (by decide) (by decide) x_wn (by decide) ?_
  have j99 := J_cp (q := (ra0 + 10)) (r := 13) (N := 6) j92 (by decide) (ctb_T10_13_6 ta0).1 (ctb_T10_13_6 ta0).2.1 (ctb_T10_13_6 ta0).2.2
  have f100 := Fr_cp (q := (ra0 + 10)) (r := 13) (N := 6) (Fr.refl 1125899906842624 h91) (fun i _ => by rw [tgr_10 ta0]; decide)
  generalize e101 : x_cp h91 (ra0 + 10) 13 6 = h98 at j99 f100 ⊢
  have f102 := Fr.trans f95 f100 (by decide)
  refine x_aload (np := 75) (x := 0) (by decide +kernel) rfl (x_nc_le (tn_0 ta0)) ?_
  have q103 : h98 ra0 6 = (ra0 + 11) := tf_0_6 j99 ta0
  refine x_getR (np := 78) (x := 518) (f := 6) (q := (ra0 + 11)) (by decide +kernel) (by decide) (tg_0_518_6_1 ta0) q103 ?_
  refine x_aload (np := 79) (x := 1) (by decide +kernel) rfl (x_nc_le (by decide)) ?_
  have q104 : h98 3 6 = 14 := by have z := jB (e := 6) 0 j99 rg_3_6_0_1 (by decide) (by decide); omega
  refine x_getR (np := 82) (x := 518) (f := 6) (q := 14) (by decide +kernel) (by decide) (by decide +kernel) q104 ?_
  refine x_nV (t := 6) (mj := 37) (n := 2) (rc := 3) (ml := 2) (nr := 0) (np := 85) (as := [x_r (ra0 + 11), x_r 14]) (rest := []) (lo1 := [x_r (ra0 + 11), x_r 14]) (by decide +kernel) (by decide) (by decide +kernel) (x_rb_of (tr_11_3 ta0)) rfl rfl (x_wr (tn_11 ta0) (x_wr (by decide) x_wn)) x_wn (by decide) rfl ?_
  refine x_aload (np := 1) (x := 0) (by decide +kernel) rfl (x_nc_le (tn_11 ta0)) ?_
  refine x_aload (np := 2) (x := 1) (by decide +kernel) rfl (x_nc_le (by decide)) ?_
  have q105 : h98 14 2 = h91 14 2 := jK 0 f100 rg_14_2_0_1 (by first | decide | omega) (by first | decide | omega) (by decide)
  have q106 : h91 14 2 = h84 14 2 := jK 0 f93 rg_14_2_0_1 (by first | decide | omega) (by first | decide | omega) (by decide)
  have q107 : h84 14 2 = h74 14 2 := jK 0 f86 rg_14_2_0_1 (by first | decide | omega) (by first | decide | omega) (by decide)
  have q108 : h74 14 2 = h59 14 2 := by rw [← e76]; exact x_up_k (Ne.symm (tne_7_14 ta0))
  have q109 : h59 14 2 = h49 14 2 := jK 0 f61 rg_14_2_0_1 (by first | decide | omega) (by first | decide | omega) (by decide)
  have q110 : h49 14 2 = h36 14 2 := by rw [← e51]; exact x_up_k (Ne.symm (tne_5_14 ta0))
  have q111 : h36 14 2 = h26 14 2 := jK 0 f38 rg_14_2_0_1 (by first | decide | omega) (by first | decide | omega) (by decide)
  have q112 : h26 14 2 = h15 14 2 := by rw [← e28]; exact x_up_k (Ne.symm (tne_3_14 ta0))
  have q113 : h15 14 2 = h5 14 2 := jK 0 f17 rg_14_2_0_1 (by first | decide | omega) (by first | decide | omega) (by decide)
  have q114 : h5 14 2 = h 14 2 := by rw [← e7]; exact x_up_k (Ne.symm (tne_1_14 ta0))
  have b115 := jB (e := 2) 0 hJ rg_14_2_0_1 (by first | decide | omega) (by first | decide | omega)
  refine x_getC (np := 5) (x := 130) (f := 2) (q := (h 14 2)) (by decide +kernel) (by decide) (by decide +kernel) (((((((((q105.trans q106).trans q107).trans q108).trans q109).trans q110).trans q111).trans q112).trans q113).trans q114) (fun l116 => ?_)
  refine x_putI (np := 8) (x := 130) (f := 2) (by decide +kernel) (tg_11_130_2_0 ta0) l116 (Or.inl (by decide)) ?_
  have j118 := jU (e := 2) (v := (h 14 2)) 0 j99 (rg_T11_2_0_1 ta0) (by first | decide | omega) (by first | decide | omega) (by first | decide | omega)
  have f120 := jF (e := 2) (v := (h 14 2)) 0 f102 (rg_T11_2_0_1 ta0) (by first | decide | omega) (by first | decide | omega) (by decide)
  generalize e119 : x_up h98 (ra0 + 11) 2 (h 14 2) = h117 at j118 f120 ⊢
  refine x_aload (np := 9) (x := 0) (by decide +kernel) rfl (x_nc_le (tn_11 ta0)) ?_
  refine x_aload (np := 10) (x := 1) (by decide +kernel) rfl (x_nc_le (by decide)) ?_
  have q121 : h117 14 3 = h98 14 3 := by rw [← e119]; exact x_up_k (Ne.symm (tne_11_14 ta0))
  have q122 : h98 14 3 = h91 14 3 := jK 0 f100 rg_14_3_0_1 (by first | decide | omega) (by first | decide | omega) (by decide)
  have q123 : h91 14 3 = h84 14 3 := jK 0 f93 rg_14_3_0_1 (by first | decide | omega) (by first | decide | omega) (by decide)
  have q124 : h84 14 3 = h74 14 3 := jK 0 f86 rg_14_3_0_1 (by first | decide | omega) (by first | decide | omega) (by decide)
  have q125 : h74 14 3 = h59 14 3 := by rw [← e76]; exact x_up_k (Ne.symm (tne_7_14 ta0))
  have q126 : h59 14 3 = h49 14 3 := jK 0 f61 rg_14_3_0_1 (by first | decide | omega) (by first | decide | omega) (by decide)
  have q127 : h49 14 3 = h36 14 3 := by rw [← e51]; exact x_up_k (Ne.symm (tne_5_14 ta0))
  have q128 : h36 14 3 = h26 14 3 := jK 0 f38 rg_14_3_0_1 (by first | decide | omega) (by first | decide | omega) (by decide)
  have q129 : h26 14 3 = h15 14 3 := by rw [← e28]; exact x_up_k (Ne.symm (tne_3_14 ta0))
  have q130 : h15 14 3 = h5 14 3 := jK 0 f17 rg_14_3_0_1 (by first | decide | omega) (by first | decide | omega) (by decide)
  have q131 : h5 14 3 = h 14 3 := by rw [← e7]; exact x_up_k (Ne.symm (tne_1_14 ta0))
  refine x_getC (np := 13) (x := 131) (f := 3) (q := (h 14 3)) (by decide +kernel) (by decide) (by decide +kernel) ((((((((((q121.trans q122).trans q123).trans q124).trans q125).trans q126).trans q127).trans q128).trans q129).trans q130).trans q131) (fun l132 => ?_)
  refine x_putI (np := 16) (x := 131) (f := 3) (by decide +kernel) (tg_11_131_3_0 ta0) l132 (Or.inl (by decide)) ?_
  have j134 := jU (e := 3) (v := (h 14 3)) 0 j118 (rg_T11_3_0_1 ta0) (by first | decide | omega) (by first | decide | omega) (by first | decide | omega)
  have f136 := jF (e := 3) (v := (h 14 3)) 0 f120 (rg_T11_3_0_1 ta0) (by first | decide | omega) (by first | decide | omega) (by decide)
  generalize e135 : x_up h117 (ra0 + 11) 3 (h 14 3) = h133 at j134 f136 ⊢
  refine x_aload (np := 17) (x := 1) (by decide +kernel) rfl (x_nc_le (by decide)) ?_
  have q137 : h133 14 0 = 15 := by have z := jB (e := 0) 0 j134 rg_14_0_0_1 (by decide) (by decide); omega
  refine x_getR (np := 20) (x := 128) (f := 0) (q := 15) (by decide +kernel) (by decide) (by decide +kernel) q137 ?_
  refine x_const (np := 21) (x := 9223372039002259456) (a := 2147483648) (by decide +kernel) (by decide) (by decide) ?_
  refine x_aload (np := 22) (x := 0) (by decide +kernel) rfl (x_nc_le (tn_11 ta0)) ?_
  have q138 : h133 (ra0 + 11) 0 = (ra0 + 12) := tf_11_0 j134 ta0
  refine x_getR (np := 25) (x := 128) (f := 0) (q := (ra0 + 12)) (by decide +kernel) (by decide) (tg_11_128_0_1 ta0) q138 ?_
  refine x_const (np := 26) (x := 9223372039002259456) (a := 2147483648) (by decide +kernel) (by decide) (by decide) ?_
  refine x_const (np := 29) (x := 9223373756989178256) (a := 2147484048) (by decide +kernel) (by decide) (by decide) ?_
  refine x_copy (np := 32) (q := (ra0 + 12)) (r := 15) (N := 400) (nq := 400) (nr := 400) (n8 := 0) (by decide +kernel) (by decide +kernel) (ta_12_400 ta0) (by decide) (by decide) (by decide) (by decide) x_wn (by decide) ?_
  have j140 := J_cp (q := (ra0 + 12)) (r := 15) (N := 400) j134 (by decide) (ctb_T12_15_400 ta0).1 (ctb_T12_15_400 ta0).2.1 (ctb_T12_15_400 ta0).2.2
  have f141 := Fr_cp (q := (ra0 + 12)) (r := 15) (N := 400) (Fr.refl 128 h133) (fun i _ => by rw [tgr_12 ta0]; decide)
  generalize e142 : x_cp h133 (ra0 + 12) 15 400 = h139 at j140 f141 ⊢
  have f143 := Fr.trans f136 f141 (by decide)
  refine x_retV (np := 33) (x := 0) (by decide +kernel) (by decide +kernel) ⟨rfl, ?_⟩
  refine x_aload (np := 86) (x := 0) (by decide +kernel) rfl (x_nc_le (tn_0 ta0)) ?_
  refine x_aload (np := 87) (x := 1) (by decide +kernel) rfl (x_nc_le (by decide)) ?_
  have q144 : h139 3 7 = h133 3 7 := jK 0 f141 rg_3_7_0_1 (by first | decide | omega) (by first | decide | omega) (by decide)
  have q145 : h133 3 7 = h117 3 7 := by rw [← e135]; exact x_up_k (Ne.symm (tne_11_3 ta0))
  have q146 : h117 3 7 = h98 3 7 := by rw [← e119]; exact x_up_k (Ne.symm (tne_11_3 ta0))
  have q147 : h98 3 7 = h91 3 7 := jK 0 f100 rg_3_7_0_1 (by first | decide | omega) (by first | decide | omega) (by decide)
  have q148 : h91 3 7 = h84 3 7 := jK 0 f93 rg_3_7_0_1 (by first | decide | omega) (by first | decide | omega) (by decide)
  have q149 : h84 3 7 = h74 3 7 := jK 0 f86 rg_3_7_0_1 (by first | decide | omega) (by first | decide | omega) (by decide)
  have q150 : h74 3 7 = h59 3 7 := by rw [← e76]; exact x_up_k (Ne.symm (tne_7_3 ta0))
  have q151 : h59 3 7 = h49 3 7 := jK 0 f61 rg_3_7_0_1 (by first | decide | omega) (by first | decide | omega) (by decide)
  have q152 : h49 3 7 = h36 3 7 := by rw [← e51]; exact x_up_k (Ne.symm (tne_5_3 ta0))
  have q153 : h36 3 7 = h26 3 7 := jK 0 f38 rg_3_7_0_1 (by first | decide | omega) (by first | decide | omega) (by decide)
  have q154 : h26 3 7 = h15 3 7 := by rw [← e28]; exact x_up_k (Ne.symm (tne_3_3 ta0))
  have q155 : h15 3 7 = h5 3 7 := jK 0 f17 rg_3_7_0_1 (by first | decide | omega) (by first | decide | omega) (by decide)
  have q156 : h5 3 7 = h 3 7 := by rw [← e7]; exact x_up_k (Ne.symm (tne_1_3 ta0))
  have b157 := jB (e := 7) 0 hJ rg_3_7_0_1 (by first | decide | omega) (by first | decide | omega)
  refine x_getC (np := 90) (x := 519) (f := 7) (q := (h 3 7)) (by decide +kernel) (by decide) (by decide +kernel) ((((((((((((q144.trans q145).trans q146).trans q147).trans q148).trans q149).trans q150).trans q151).trans q152).trans q153).trans q154).trans q155).trans q156) (fun l158 => ?_)
  refine x_putI (np := 93) (x := 519) (f := 7) (by decide +kernel) (tg_0_519_7_0 ta0) l158 (Or.inl (by decide)) ?_
  have j160 := jU (e := 7) (v := (h 3 7)) 0 j140 (rg_T0_7_0_1 ta0) (by first | decide | omega) (by first | decide | omega) (by first | decide | omega)
  have f162 := jF (e := 7) (v := (h 3 7)) 0 f143 (rg_T0_7_0_1 ta0) (by first | decide | omega) (by first | decide | omega) (by decide)
  generalize e161 : x_up h139 ra0 7 (h 3 7) = h159 at j160 f162 ⊢
  refine x_aload (np := 94) (x := 0) (by decide +kernel) rfl (x_nc_le (tn_0 ta0)) ?_
  refine x_aload (np := 95) (x := 1) (by decide +kernel) rfl (x_nc_le (by decide)) ?_
  have q163 : h159 3 8 = h139 3 8 := by rw [← e161]; exact x_up_k (Ne.symm (tne_0_3 ta0))
  have q164 : h139 3 8 = h133 3 8 := jK 0 f141 rg_3_8_0_1 (by first | decide | omega) (by first | decide | omega) (by decide)
  have q165 : h133 3 8 = h117 3 8 := by rw [← e135]; exact x_up_k (Ne.symm (tne_11_3 ta0))
  have q166 : h117 3 8 = h98 3 8 := by rw [← e119]; exact x_up_k (Ne.symm (tne_11_3 ta0))
  have q167 : h98 3 8 = h91 3 8 := jK 0 f100 rg_3_8_0_1 (by first | decide | omega) (by first | decide | omega) (by decide)
  have q168 : h91 3 8 = h84 3 8 := jK 0 f93 rg_3_8_0_1 (by first | decide | omega) (by first | decide | omega) (by decide)
  have q169 : h84 3 8 = h74 3 8 := jK 0 f86 rg_3_8_0_1 (by first | decide | omega) (by first | decide | omega) (by decide)
  have q170 : h74 3 8 = h59 3 8 := by rw [← e76]; exact x_up_k (Ne.symm (tne_7_3 ta0))
  have q171 : h59 3 8 = h49 3 8 := jK 0 f61 rg_3_8_0_1 (by first | decide | omega) (by first | decide | omega) (by decide)
  have q172 : h49 3 8 = h36 3 8 := by rw [← e51]; exact x_up_k (Ne.symm (tne_5_3 ta0))
  have q173 : h36 3 8 = h26 3 8 := jK 0 f38 rg_3_8_0_1 (by first | decide | omega) (by first | decide | omega) (by decide)
  have q174 : h26 3 8 = h15 3 8 := by rw [← e28]; exact x_up_k (Ne.symm (tne_3_3 ta0))
  have q175 : h15 3 8 = h5 3 8 := jK 0 f17 rg_3_8_0_1 (by first | decide | omega) (by first | decide | omega) (by decide)
  have q176 : h5 3 8 = h 3 8 := by rw [← e7]; exact x_up_k (Ne.symm (tne_1_3 ta0))
  refine x_getC (np := 98) (x := 520) (f := 8) (q := (h 3 8)) (by decide +kernel) (by decide) (by decide +kernel) (((((((((((((q163.trans q164).trans q165).trans q166).trans q167).trans q168).trans q169).trans q170).trans q171).trans q172).trans q173).trans q174).trans q175).trans q176) (fun l177 => ?_)
  refine x_putI (np := 101) (x := 520) (f := 8) (by decide +kernel) (tg_0_520_8_0 ta0) l177 (Or.inl (by decide)) ?_
  have j179 := jU (e := 8) (v := (h 3 8)) 0 j160 (rg_T0_8_0_1 ta0) (by first | decide | omega) (by first | decide | omega) (by first | decide | omega)
  have f181 := jF (e := 8) (v := (h 3 8)) 0 f162 (rg_T0_8_0_1 ta0) (by first | decide | omega) (by first | decide | omega) (by decide)
  generalize e180 : x_up h159 ra0 8 (h 3 8) = h178 at j179 f181 ⊢
  refine x_aload (np := 102) (x := 0) (by decide +kernel) rfl (x_nc_le (tn_0 ta0)) ?_
  refine x_aload (np := 103) (x := 1) (by decide +kernel) rfl (x_nc_le (by decide)) ?_
  have q182 : h178 3 9 = h159 3 9 := by rw [← e180]; exact x_up_k (Ne.symm (tne_0_3 ta0))
  have q183 : h159 3 9 = h139 3 9 := by rw [← e161]; exact x_up_k (Ne.symm (tne_0_3 ta0))
  have q184 : h139 3 9 = h133 3 9 := jK 0 f141 rg_3_9_0_1 (by first | decide | omega) (by first | decide | omega) (by decide)
  have q185 : h133 3 9 = h117 3 9 := by rw [← e135]; exact x_up_k (Ne.symm (tne_11_3 ta0))
  have q186 : h117 3 9 = h98 3 9 := by rw [← e119]; exact x_up_k (Ne.symm (tne_11_3 ta0))
  have q187 : h98 3 9 = h91 3 9 := jK 0 f100 rg_3_9_0_1 (by first | decide | omega) (by first | decide | omega) (by decide)
  have q188 : h91 3 9 = h84 3 9 := jK 0 f93 rg_3_9_0_1 (by first | decide | omega) (by first | decide | omega) (by decide)
  have q189 : h84 3 9 = h74 3 9 := jK 0 f86 rg_3_9_0_1 (by first | decide | omega) (by first | decide | omega) (by decide)
  have q190 : h74 3 9 = h59 3 9 := by rw [← e76]; exact x_up_k (Ne.symm (tne_7_3 ta0))
  have q191 : h59 3 9 = h49 3 9 := jK 0 f61 rg_3_9_0_1 (by first | decide | omega) (by first | decide | omega) (by decide)
  have q192 : h49 3 9 = h36 3 9 := by rw [← e51]; exact x_up_k (Ne.symm (tne_5_3 ta0))
  have q193 : h36 3 9 = h26 3 9 := jK 0 f38 rg_3_9_0_1 (by first | decide | omega) (by first | decide | omega) (by decide)
  have q194 : h26 3 9 = h15 3 9 := by rw [← e28]; exact x_up_k (Ne.symm (tne_3_3 ta0))
  have q195 : h15 3 9 = h5 3 9 := jK 0 f17 rg_3_9_0_1 (by first | decide | omega) (by first | decide | omega) (by decide)
  have q196 : h5 3 9 = h 3 9 := by rw [← e7]; exact x_up_k (Ne.symm (tne_1_3 ta0))
  refine x_getC (np := 106) (x := 521) (f := 9) (q := (h 3 9)) (by decide +kernel) (by decide) (by decide +kernel) ((((((((((((((q182.trans q183).trans q184).trans q185).trans q186).trans q187).trans q188).trans q189).trans q190).trans q191).trans q192).trans q193).trans q194).trans q195).trans q196) (fun l197 => ?_)
  refine x_putI (np := 109) (x := 521) (f := 9) (by decide +kernel) (tg_0_521_9_0 ta0) l197 (Or.inl (by decide)) ?_
  have j199 := jU (e := 9) (v := (h 3 9)) 0 j179 (rg_T0_9_0_1 ta0) (by first | decide | omega) (by first | decide | omega) (by first | decide | omega)
  have f201 := jF (e := 9) (v := (h 3 9)) 0 f181 (rg_T0_9_0_1 ta0) (by first | decide | omega) (by first | decide | omega) (by decide)
  generalize e200 : x_up h178 ra0 9 (h 3 9) = h198 at j199 f201 ⊢
  have q202 : h198 ra0 7 = h178 ra0 7 := by rw [← e200]; exact x_up_i (by first | decide | omega)
  have q203 : h178 ra0 7 = h159 ra0 7 := by rw [← e180]; exact x_up_i (by first | decide | omega)
  have q204 : h159 ra0 7 = (h 3 7) := by rw [← e161]; exact x_up_at
  have q205 : h198 ra0 8 = h178 ra0 8 := by rw [← e200]; exact x_up_i (by first | decide | omega)
  have q206 : h178 ra0 8 = (h 3 8) := by rw [← e180]; exact x_up_at
  have q207 : h198 (ra0 + 1) 2 = h178 (ra0 + 1) 2 := by rw [← e200]; exact x_up_k tof_1_0
  have q208 : h178 (ra0 + 1) 2 = h159 (ra0 + 1) 2 := by rw [← e180]; exact x_up_k tof_1_0
  have q209 : h159 (ra0 + 1) 2 = h139 (ra0 + 1) 2 := by rw [← e161]; exact x_up_k tof_1_0
  have q210 : h139 (ra0 + 1) 2 = h133 (ra0 + 1) 2 := jK 0 f141 (rg_T1_2_0_1 ta0) (by first | decide | omega) (by first | decide | omega) (by decide)
  have q211 : h133 (ra0 + 1) 2 = h117 (ra0 + 1) 2 := by rw [← e135]; exact x_up_k tof_1_11
  have q212 : h117 (ra0 + 1) 2 = h98 (ra0 + 1) 2 := by rw [← e119]; exact x_up_k tof_1_11
  have q213 : h98 (ra0 + 1) 2 = h91 (ra0 + 1) 2 := jK 0 f100 (rg_T1_2_0_1 ta0) (by first | decide | omega) (by first | decide | omega) (by decide)
  have q214 : h91 (ra0 + 1) 2 = h84 (ra0 + 1) 2 := jK 0 f93 (rg_T1_2_0_1 ta0) (by first | decide | omega) (by first | decide | omega) (by decide)
  have q215 : h84 (ra0 + 1) 2 = h74 (ra0 + 1) 2 := jK 0 f86 (rg_T1_2_0_1 ta0) (by first | decide | omega) (by first | decide | omega) (by decide)
  have q216 : h74 (ra0 + 1) 2 = h59 (ra0 + 1) 2 := by rw [← e76]; exact x_up_k tof_1_7
  have q217 : h59 (ra0 + 1) 2 = h49 (ra0 + 1) 2 := jK 0 f61 (rg_T1_2_0_1 ta0) (by first | decide | omega) (by first | decide | omega) (by decide)
  have q218 : h49 (ra0 + 1) 2 = h36 (ra0 + 1) 2 := by rw [← e51]; exact x_up_k tof_1_5
  have q219 : h36 (ra0 + 1) 2 = h26 (ra0 + 1) 2 := jK 0 f38 (rg_T1_2_0_1 ta0) (by first | decide | omega) (by first | decide | omega) (by decide)
  have q220 : h26 (ra0 + 1) 2 = h15 (ra0 + 1) 2 := by rw [← e28]; exact x_up_k tof_1_3
  have q221 : h15 (ra0 + 1) 2 = h5 (ra0 + 1) 2 := jK 0 f17 (rg_T1_2_0_1 ta0) (by first | decide | omega) (by first | decide | omega) (by decide)
  have q222 : h5 (ra0 + 1) 2 = (h 4 2) := by rw [← e7]; exact x_up_at
  have q223 : h198 (ra0 + 3) 2 = h178 (ra0 + 3) 2 := by rw [← e200]; exact x_up_k tof_3_0
  have q224 : h178 (ra0 + 3) 2 = h159 (ra0 + 3) 2 := by rw [← e180]; exact x_up_k tof_3_0
  have q225 : h159 (ra0 + 3) 2 = h139 (ra0 + 3) 2 := by rw [← e161]; exact x_up_k tof_3_0
  have q226 : h139 (ra0 + 3) 2 = h133 (ra0 + 3) 2 := jK 0 f141 (rg_T3_2_0_1 ta0) (by first | decide | omega) (by first | decide | omega) (by decide)
  have q227 : h133 (ra0 + 3) 2 = h117 (ra0 + 3) 2 := by rw [← e135]; exact x_up_k tof_3_11
  have q228 : h117 (ra0 + 3) 2 = h98 (ra0 + 3) 2 := by rw [← e119]; exact x_up_k tof_3_11
  have q229 : h98 (ra0 + 3) 2 = h91 (ra0 + 3) 2 := jK 0 f100 (rg_T3_2_0_1 ta0) (by first | decide | omega) (by first | decide | omega) (by decide)
  have q230 : h91 (ra0 + 3) 2 = h84 (ra0 + 3) 2 := jK 0 f93 (rg_T3_2_0_1 ta0) (by first | decide | omega) (by first | decide | omega) (by decide)
  have q231 : h84 (ra0 + 3) 2 = h74 (ra0 + 3) 2 := jK 0 f86 (rg_T3_2_0_1 ta0) (by first | decide | omega) (by first | decide | omega) (by decide)
  have q232 : h74 (ra0 + 3) 2 = h59 (ra0 + 3) 2 := by rw [← e76]; exact x_up_k tof_3_7
  have q233 : h59 (ra0 + 3) 2 = h49 (ra0 + 3) 2 := jK 0 f61 (rg_T3_2_0_1 ta0) (by first | decide | omega) (by first | decide | omega) (by decide)
  have q234 : h49 (ra0 + 3) 2 = h36 (ra0 + 3) 2 := by rw [← e51]; exact x_up_k tof_3_5
  have q235 : h36 (ra0 + 3) 2 = h26 (ra0 + 3) 2 := jK 0 f38 (rg_T3_2_0_1 ta0) (by first | decide | omega) (by first | decide | omega) (by decide)
  have q236 : h26 (ra0 + 3) 2 = (h 6 2) := by rw [← e28]; exact x_up_at
  have q237 : h198 (ra0 + 5) 2 = h178 (ra0 + 5) 2 := by rw [← e200]; exact x_up_k tof_5_0
  have q238 : h178 (ra0 + 5) 2 = h159 (ra0 + 5) 2 := by rw [← e180]; exact x_up_k tof_5_0
  have q239 : h159 (ra0 + 5) 2 = h139 (ra0 + 5) 2 := by rw [← e161]; exact x_up_k tof_5_0
  have q240 : h139 (ra0 + 5) 2 = h133 (ra0 + 5) 2 := jK 0 f141 (rg_T5_2_0_1 ta0) (by first | decide | omega) (by first | decide | omega) (by decide)
  have q241 : h133 (ra0 + 5) 2 = h117 (ra0 + 5) 2 := by rw [← e135]; exact x_up_k tof_5_11
  have q242 : h117 (ra0 + 5) 2 = h98 (ra0 + 5) 2 := by rw [← e119]; exact x_up_k tof_5_11
  have q243 : h98 (ra0 + 5) 2 = h91 (ra0 + 5) 2 := jK 0 f100 (rg_T5_2_0_1 ta0) (by first | decide | omega) (by first | decide | omega) (by decide)
  have q244 : h91 (ra0 + 5) 2 = h84 (ra0 + 5) 2 := jK 0 f93 (rg_T5_2_0_1 ta0) (by first | decide | omega) (by first | decide | omega) (by decide)
  have q245 : h84 (ra0 + 5) 2 = h74 (ra0 + 5) 2 := jK 0 f86 (rg_T5_2_0_1 ta0) (by first | decide | omega) (by first | decide | omega) (by decide)
  have q246 : h74 (ra0 + 5) 2 = h59 (ra0 + 5) 2 := by rw [← e76]; exact x_up_k tof_5_7
  have q247 : h59 (ra0 + 5) 2 = h49 (ra0 + 5) 2 := jK 0 f61 (rg_T5_2_0_1 ta0) (by first | decide | omega) (by first | decide | omega) (by decide)
  have q248 : h49 (ra0 + 5) 2 = (h 8 2) := by rw [← e51]; exact x_up_at
  have q249 : h198 (ra0 + 7) 2 = h178 (ra0 + 7) 2 := by rw [← e200]; exact x_up_k tof_7_0
  have q250 : h178 (ra0 + 7) 2 = h159 (ra0 + 7) 2 := by rw [← e180]; exact x_up_k tof_7_0
  have q251 : h159 (ra0 + 7) 2 = h139 (ra0 + 7) 2 := by rw [← e161]; exact x_up_k tof_7_0
  have q252 : h139 (ra0 + 7) 2 = h133 (ra0 + 7) 2 := jK 0 f141 (rg_T7_2_0_1 ta0) (by first | decide | omega) (by first | decide | omega) (by decide)
  have q253 : h133 (ra0 + 7) 2 = h117 (ra0 + 7) 2 := by rw [← e135]; exact x_up_k tof_7_11
  have q254 : h117 (ra0 + 7) 2 = h98 (ra0 + 7) 2 := by rw [← e119]; exact x_up_k tof_7_11
  have q255 : h98 (ra0 + 7) 2 = h91 (ra0 + 7) 2 := jK 0 f100 (rg_T7_2_0_1 ta0) (by first | decide | omega) (by first | decide | omega) (by decide)
  have q256 : h91 (ra0 + 7) 2 = h84 (ra0 + 7) 2 := jK 0 f93 (rg_T7_2_0_1 ta0) (by first | decide | omega) (by first | decide | omega) (by decide)
  have q257 : h84 (ra0 + 7) 2 = h74 (ra0 + 7) 2 := jK 0 f86 (rg_T7_2_0_1 ta0) (by first | decide | omega) (by first | decide | omega) (by decide)
  have q258 : h74 (ra0 + 7) 2 = (h 10 2) := by rw [← e76]; exact x_up_at
  have m259 : Ot ra0 h h5 := by rw [← e7]; exact Ot.up (o := 1) Ot.refl ta0 (by decide) rfl
  have m260 : Ot ra0 h h15 := by rw [← e18]; exact Ot.cp (o := 2) m259 ta0 (by decide) rfl
  have m261 : Ot ra0 h h26 := by rw [← e28]; exact Ot.up (o := 3) m260 ta0 (by decide) rfl
  have m262 : Ot ra0 h h36 := by rw [← e39]; exact Ot.cp (o := 4) m261 ta0 (by decide) rfl
  have m263 : Ot ra0 h h49 := by rw [← e51]; exact Ot.up (o := 5) m262 ta0 (by decide) rfl
  have m264 : Ot ra0 h h59 := by rw [← e62]; exact Ot.cp (o := 6) m263 ta0 (by decide) rfl
  have m265 : Ot ra0 h h74 := by rw [← e76]; exact Ot.up (o := 7) m264 ta0 (by decide) rfl
  have m266 : Ot ra0 h h84 := by rw [← e87]; exact Ot.cp (o := 8) m265 ta0 (by decide) rfl
  have m267 : Ot ra0 h h91 := by rw [← e94]; exact Ot.cp (o := 9) m266 ta0 (by decide) rfl
  have m268 : Ot ra0 h h98 := by rw [← e101]; exact Ot.cp (o := 10) m267 ta0 (by decide) rfl
  have m269 : Ot ra0 h h117 := by rw [← e119]; exact Ot.up (o := 11) m268 ta0 (by decide) rfl
  have m270 : Ot ra0 h h133 := by rw [← e135]; exact Ot.up (o := 11) m269 ta0 (by decide) rfl
  have m271 : Ot ra0 h h139 := by rw [← e142]; exact Ot.cp (o := 12) m270 ta0 (by decide) rfl
  have m272 : Ot ra0 h h159 := by rw [← e161]; exact Ot.up (o := 0) m271 ta0 (by decide) rfl
  have m273 : Ot ra0 h h178 := by rw [← e180]; exact Ot.up (o := 0) m272 ta0 (by decide) rfl
  have m274 : Ot ra0 h h198 := by rw [← e200]; exact Ot.up (o := 0) m273 ta0 (by decide) rfl
  refine x_retV (np := 110) (x := 0) (by decide +kernel) (by decide +kernel) ⟨rfl, ?_⟩
  exact ⟨j199, f201, (by first | decide | omega), (by first | decide | omega), (by first | decide | omega), (by first | decide | omega), (by first | decide | omega), (by first | decide | omega), m274⟩
set_option maxHeartbeats 0 in
/-- LentNames$Table.at(II)I -/
theorem c68_T1_c2 {sc : Nat × Nat} {d ra0 a1 : Nat} {h : xh} (hJ : J h) (ta0 : tw ra0) (ba1 : 2147483648 ≤ a1 ∧ a1 ≤ 2147483667) : X sc 68 d (xI fun r h' => h' = h ∧ (0 ≤ r ∧ r ≤ 4294967295)) 0 0 0 [x_r (ra0 + 1), iv_c a1, iv_c 2147483650, 147573952589676412928] [] h := by
  have la1 : a1 < 4294967296 := by first | decide | omega
  refine x_iload (np := 1) (x := 1) (by decide +kernel) rfl la1 ?_
  refine x_ifz (k := 2) (tg := 28) (np := 4) (by decide +kernel) (by decide) la1 (fun q1 => ?_) (fun q2 => ?_)
  · have q1 : a1 < 2147483648 := q1
    exfalso; omega
  have q2 : ¬ (a1 < 2147483648) := q2
  refine x_iload (np := 5) (x := 1) (by decide +kernel) rfl la1 ?_
  refine x_aload (np := 6) (x := 0) (by decide +kernel) rfl (x_nc_le (tn_1 ta0)) ?_
  have b3 := jB (e := 2) 0 hJ (rg_T1_2_0_1 ta0) (by first | decide | omega) (by first | decide | omega)
  refine x_getC (np := 9) (x := 386) (f := 2) (q := (h (ra0 + 1) 2)) (by decide +kernel) (by decide) (tg_1_386_2_0 ta0) rfl (fun l4 => ?_)
  refine x_icmp (k := 3) (tg := 28) (np := 12) (by decide +kernel) (by decide) la1 l4 (fun q5 => ?_) (fun q6 => ?_)
  · have q5 : (h (ra0 + 1) 2) ≤ a1 := q5
    refine x_const (np := 29) (x := 9223372039002259456) (a := 2147483648) (by decide +kernel) (by decide) (by decide) ?_
    refine x_istore (np := 30) (x := 3) (lo' := [x_r (ra0 + 1), iv_c a1, iv_c 2147483650, iv_c 2147483648]) (by decide +kernel) (by decide) (Nat.le_of_ble_eq_true rfl) rfl ?_
    refine x_iload (np := 31) (x := 3) (by decide +kernel) rfl (by decide) ?_
    refine x_ifz (k := 0) (tg := 50) (np := 34) (by decide +kernel) (by decide) (by decide) (fun q7 => ?_) (fun q8 => ?_)
    · have q7 : 2147483648 = 2147483648 := q7
      refine x_const (np := 51) (x := 9223372034707292159) (a := 2147483647) (by decide +kernel) (by decide) (by decide) ?_
      refine x_retI (np := 52) (x := 0) (by decide +kernel) (by decide) (Or.inl (by decide +kernel)) ⟨_, rfl, (by decide), ?_⟩
      exact ⟨rfl, (by first | decide | omega)⟩
    have q8 : ¬ (2147483648 = 2147483648) := q8
    exfalso; omega
  have q6 : ¬ ((h (ra0 + 1) 2) ≤ a1) := q6
  refine x_iload (np := 13) (x := 2) (by decide +kernel) rfl (by decide) ?_
  refine x_ifz (k := 2) (tg := 28) (np := 16) (by decide +kernel) (by decide) (by decide) (fun q9 => ?_) (fun q10 => ?_)
  · have q9 : 2147483650 < 2147483648 := q9
    exfalso; omega
  have q10 : ¬ (2147483650 < 2147483648) := q10
  refine x_iload (np := 17) (x := 2) (by decide +kernel) rfl (by decide) ?_
  refine x_aload (np := 18) (x := 0) (by decide +kernel) rfl (x_nc_le (tn_1 ta0)) ?_
  have b11 := jB (e := 0) 0 hJ (rg_T1_0_0_1 ta0) (by first | decide | omega) (by first | decide | omega)
  have q12 : (h (ra0 + 1) 0) = 2147483655 := by first | decide | omega
  refine x_getC (np := 21) (x := 384) (f := 0) (q := 2147483655) (by decide +kernel) (by decide) (tg_1_384_0_0 ta0) q12 (fun l13 => ?_)
  refine x_icmp (k := 3) (tg := 28) (np := 24) (by decide +kernel) (by decide) (by decide) (by decide) (fun q14 => ?_) (fun q15 => ?_)
  · have q14 : 2147483655 ≤ 2147483650 := q14
    exfalso; omega
  have q15 : ¬ (2147483655 ≤ 2147483650) := q15
  refine x_const (np := 25) (x := 9223372043297226753) (a := 2147483649) (by decide +kernel) (by decide) (by decide) ?_
  refine x_goto (np := 28) (x := 29) (by decide +kernel) ?_
  refine x_istore (np := 30) (x := 3) (lo' := [x_r (ra0 + 1), iv_c a1, iv_c 2147483650, iv_c 2147483649]) (by decide +kernel) (by decide) (Nat.le_of_ble_eq_true rfl) rfl ?_
  refine x_iload (np := 31) (x := 3) (by decide +kernel) rfl (by decide) ?_
  refine x_ifz (k := 0) (tg := 50) (np := 34) (by decide +kernel) (by decide) (by decide) (fun q16 => ?_) (fun q17 => ?_)
  · have q16 : 2147483649 = 2147483648 := q16
    exfalso; omega
  have q17 : ¬ (2147483649 = 2147483648) := q17
  refine x_aload (np := 35) (x := 0) (by decide +kernel) rfl (x_nc_le (tn_1 ta0)) ?_
  have q18 : h (ra0 + 1) 1 = (ra0 + 2) := tf_1_1 hJ ta0
  refine x_getR (np := 38) (x := 385) (f := 1) (q := (ra0 + 2)) (by decide +kernel) (by decide) (tg_1_385_1_1 ta0) q18 ?_
  refine x_iload (np := 39) (x := 1) (by decide +kernel) rfl la1 ?_
  refine x_aload (np := 40) (x := 0) (by decide +kernel) rfl (x_nc_le (tn_1 ta0)) ?_
  refine x_getC (np := 43) (x := 384) (f := 0) (q := 2147483655) (by decide +kernel) (by decide) (tg_1_384_0_0 ta0) q12 (fun l19 => ?_)
  obtain ⟨u20, q21⟩ : ∃ z, a1 = 2147483648 + z := ⟨a1 - 2147483648, by first | decide | omega⟩
  refine x_imul (np := 44) (x := 0) (i := u20) (j := 7) (v := (2147483648 + 7 * u20)) (by decide +kernel) (by first | decide | omega) (by first | decide | omega) (by first | decide | omega) (by first | decide | omega) la1 (by decide) ?_
  refine x_iload (np := 45) (x := 2) (by decide +kernel) rfl (by decide) ?_
  refine x_iadd (np := 46) (x := 0) (v := (2147483650 + 7 * u20)) (by decide +kernel) (by first | decide | omega) (by decide) (by first | decide | omega) (by first | decide | omega) ?_
  refine x_aldC (np := 47) (x := 0) (n := 140) (i := (2 + 7 * u20)) (q := ((h (ra0 + 2) (2 + 7 * u20)))) (by decide +kernel) (ta_2_140 ta0) (by first | decide | omega) (by first | decide | omega) (by decide) rfl (fun l23 => ?_)
  refine x_goto (np := 50) (x := 51) (by decide +kernel) ?_
  refine x_retI (np := 52) (x := 0) (by decide +kernel) l23 (Or.inl (by decide +kernel)) ⟨_, rfl, l23, ?_⟩
  exact ⟨rfl, (by first | decide | omega)⟩
set_option maxHeartbeats 0 in
/-- LentNames$Table.at(II)I -/
theorem c68_T1_c3 {sc : Nat × Nat} {d ra0 a1 : Nat} {h : xh} (hJ : J h) (ta0 : tw ra0) (ba1 : 2147483648 ≤ a1 ∧ a1 ≤ 2147483667) : X sc 68 d (xI fun r h' => h' = h ∧ (0 ≤ r ∧ r ≤ 4294967295)) 0 0 0 [x_r (ra0 + 1), iv_c a1, iv_c 2147483651, 147573952589676412928] [] h := by
  have la1 : a1 < 4294967296 := by first | decide | omega
  refine x_iload (np := 1) (x := 1) (by decide +kernel) rfl la1 ?_
  refine x_ifz (k := 2) (tg := 28) (np := 4) (by decide +kernel) (by decide) la1 (fun q1 => ?_) (fun q2 => ?_)
  · have q1 : a1 < 2147483648 := q1
    exfalso; omega
  have q2 : ¬ (a1 < 2147483648) := q2
  refine x_iload (np := 5) (x := 1) (by decide +kernel) rfl la1 ?_
  refine x_aload (np := 6) (x := 0) (by decide +kernel) rfl (x_nc_le (tn_1 ta0)) ?_
  have b3 := jB (e := 2) 0 hJ (rg_T1_2_0_1 ta0) (by first | decide | omega) (by first | decide | omega)
  refine x_getC (np := 9) (x := 386) (f := 2) (q := (h (ra0 + 1) 2)) (by decide +kernel) (by decide) (tg_1_386_2_0 ta0) rfl (fun l4 => ?_)
  refine x_icmp (k := 3) (tg := 28) (np := 12) (by decide +kernel) (by decide) la1 l4 (fun q5 => ?_) (fun q6 => ?_)
  · have q5 : (h (ra0 + 1) 2) ≤ a1 := q5
    refine x_const (np := 29) (x := 9223372039002259456) (a := 2147483648) (by decide +kernel) (by decide) (by decide) ?_
    refine x_istore (np := 30) (x := 3) (lo' := [x_r (ra0 + 1), iv_c a1, iv_c 2147483651, iv_c 2147483648]) (by decide +kernel) (by decide) (Nat.le_of_ble_eq_true rfl) rfl ?_
    refine x_iload (np := 31) (x := 3) (by decide +kernel) rfl (by decide) ?_
    refine x_ifz (k := 0) (tg := 50) (np := 34) (by decide +kernel) (by decide) (by decide) (fun q7 => ?_) (fun q8 => ?_)
    · have q7 : 2147483648 = 2147483648 := q7
      refine x_const (np := 51) (x := 9223372034707292159) (a := 2147483647) (by decide +kernel) (by decide) (by decide) ?_
      refine x_retI (np := 52) (x := 0) (by decide +kernel) (by decide) (Or.inl (by decide +kernel)) ⟨_, rfl, (by decide), ?_⟩
      exact ⟨rfl, (by first | decide | omega)⟩
    have q8 : ¬ (2147483648 = 2147483648) := q8
    exfalso; omega
  have q6 : ¬ ((h (ra0 + 1) 2) ≤ a1) := q6
  refine x_iload (np := 13) (x := 2) (by decide +kernel) rfl (by decide) ?_
  refine x_ifz (k := 2) (tg := 28) (np := 16) (by decide +kernel) (by decide) (by decide) (fun q9 => ?_) (fun q10 => ?_)
  · have q9 : 2147483651 < 2147483648 := q9
    exfalso; omega
  have q10 : ¬ (2147483651 < 2147483648) := q10
  refine x_iload (np := 17) (x := 2) (by decide +kernel) rfl (by decide) ?_
  refine x_aload (np := 18) (x := 0) (by decide +kernel) rfl (x_nc_le (tn_1 ta0)) ?_
  have b11 := jB (e := 0) 0 hJ (rg_T1_0_0_1 ta0) (by first | decide | omega) (by first | decide | omega)
  have q12 : (h (ra0 + 1) 0) = 2147483655 := by first | decide | omega
  refine x_getC (np := 21) (x := 384) (f := 0) (q := 2147483655) (by decide +kernel) (by decide) (tg_1_384_0_0 ta0) q12 (fun l13 => ?_)
  refine x_icmp (k := 3) (tg := 28) (np := 24) (by decide +kernel) (by decide) (by decide) (by decide) (fun q14 => ?_) (fun q15 => ?_)
  · have q14 : 2147483655 ≤ 2147483651 := q14
    exfalso; omega
  have q15 : ¬ (2147483655 ≤ 2147483651) := q15
  refine x_const (np := 25) (x := 9223372043297226753) (a := 2147483649) (by decide +kernel) (by decide) (by decide) ?_
  refine x_goto (np := 28) (x := 29) (by decide +kernel) ?_
  refine x_istore (np := 30) (x := 3) (lo' := [x_r (ra0 + 1), iv_c a1, iv_c 2147483651, iv_c 2147483649]) (by decide +kernel) (by decide) (Nat.le_of_ble_eq_true rfl) rfl ?_
  refine x_iload (np := 31) (x := 3) (by decide +kernel) rfl (by decide) ?_
  refine x_ifz (k := 0) (tg := 50) (np := 34) (by decide +kernel) (by decide) (by decide) (fun q16 => ?_) (fun q17 => ?_)
  · have q16 : 2147483649 = 2147483648 := q16
    exfalso; omega
  have q17 : ¬ (2147483649 = 2147483648) := q17
  refine x_aload (np := 35) (x := 0) (by decide +kernel) rfl (x_nc_le (tn_1 ta0)) ?_
  have q18 : h (ra0 + 1) 1 = (ra0 + 2) := tf_1_1 hJ ta0
  refine x_getR (np := 38) (x := 385) (f := 1) (q := (ra0 + 2)) (by decide +kernel) (by decide) (tg_1_385_1_1 ta0) q18 ?_
  refine x_iload (np := 39) (x := 1) (by decide +kernel) rfl la1 ?_
  refine x_aload (np := 40) (x := 0) (by decide +kernel) rfl (x_nc_le (tn_1 ta0)) ?_
  refine x_getC (np := 43) (x := 384) (f := 0) (q := 2147483655) (by decide +kernel) (by decide) (tg_1_384_0_0 ta0) q12 (fun l19 => ?_)
  obtain ⟨u20, q21⟩ : ∃ z, a1 = 2147483648 + z := ⟨a1 - 2147483648, by first | decide | omega⟩
  refine x_imul (np := 44) (x := 0) (i := u20) (j := 7) (v := (2147483648 + 7 * u20)) (by decide +kernel) (by first | decide | omega) (by first | decide | omega) (by first | decide | omega) (by first | decide | omega) la1 (by decide) ?_
  refine x_iload (np := 45) (x := 2) (by decide +kernel) rfl (by decide) ?_
  refine x_iadd (np := 46) (x := 0) (v := (2147483651 + 7 * u20)) (by decide +kernel) (by first | decide | omega) (by decide) (by first | decide | omega) (by first | decide | omega) ?_
  refine x_aldC (np := 47) (x := 0) (n := 140) (i := (3 + 7 * u20)) (q := ((h (ra0 + 2) (3 + 7 * u20)))) (by decide +kernel) (ta_2_140 ta0) (by first | decide | omega) (by first | decide | omega) (by decide) rfl (fun l23 => ?_)
  refine x_goto (np := 50) (x := 51) (by decide +kernel) ?_
  refine x_retI (np := 52) (x := 0) (by decide +kernel) l23 (Or.inl (by decide +kernel)) ⟨_, rfl, l23, ?_⟩
  exact ⟨rfl, (by first | decide | omega)⟩
set_option maxHeartbeats 0 in
/-- LentNames$Table.at(II)I -/
theorem c68_T1_c6 {sc : Nat × Nat} {d ra0 a1 : Nat} {h : xh} (hJ : J h) (ta0 : tw ra0) (ba1 : 2147483648 ≤ a1 ∧ a1 ≤ 2147483667) : X sc 68 d (xI fun r h' => h' = h ∧ (0 ≤ r ∧ r ≤ 4294967295)) 0 0 0 [x_r (ra0 + 1), iv_c a1, iv_c 2147483654, 147573952589676412928] [] h := by
  have la1 : a1 < 4294967296 := by first | decide | omega
  refine x_iload (np := 1) (x := 1) (by decide +kernel) rfl la1 ?_
  refine x_ifz (k := 2) (tg := 28) (np := 4) (by decide +kernel) (by decide) la1 (fun q1 => ?_) (fun q2 => ?_)
  · have q1 : a1 < 2147483648 := q1
    exfalso; omega
  have q2 : ¬ (a1 < 2147483648) := q2
  refine x_iload (np := 5) (x := 1) (by decide +kernel) rfl la1 ?_
  refine x_aload (np := 6) (x := 0) (by decide +kernel) rfl (x_nc_le (tn_1 ta0)) ?_
  have b3 := jB (e := 2) 0 hJ (rg_T1_2_0_1 ta0) (by first | decide | omega) (by first | decide | omega)
  refine x_getC (np := 9) (x := 386) (f := 2) (q := (h (ra0 + 1) 2)) (by decide +kernel) (by decide) (tg_1_386_2_0 ta0) rfl (fun l4 => ?_)
  refine x_icmp (k := 3) (tg := 28) (np := 12) (by decide +kernel) (by decide) la1 l4 (fun q5 => ?_) (fun q6 => ?_)
  · have q5 : (h (ra0 + 1) 2) ≤ a1 := q5
    refine x_const (np := 29) (x := 9223372039002259456) (a := 2147483648) (by decide +kernel) (by decide) (by decide) ?_
    refine x_istore (np := 30) (x := 3) (lo' := [x_r (ra0 + 1), iv_c a1, iv_c 2147483654, iv_c 2147483648]) (by decide +kernel) (by decide) (Nat.le_of_ble_eq_true rfl) rfl ?_
    refine x_iload (np := 31) (x := 3) (by decide +kernel) rfl (by decide) ?_
    refine x_ifz (k := 0) (tg := 50) (np := 34) (by decide +kernel) (by decide) (by decide) (fun q7 => ?_) (fun q8 => ?_)
    · have q7 : 2147483648 = 2147483648 := q7
      refine x_const (np := 51) (x := 9223372034707292159) (a := 2147483647) (by decide +kernel) (by decide) (by decide) ?_
      refine x_retI (np := 52) (x := 0) (by decide +kernel) (by decide) (Or.inl (by decide +kernel)) ⟨_, rfl, (by decide), ?_⟩
      exact ⟨rfl, (by first | decide | omega)⟩
    have q8 : ¬ (2147483648 = 2147483648) := q8
    exfalso; omega
  have q6 : ¬ ((h (ra0 + 1) 2) ≤ a1) := q6
  refine x_iload (np := 13) (x := 2) (by decide +kernel) rfl (by decide) ?_
  refine x_ifz (k := 2) (tg := 28) (np := 16) (by decide +kernel) (by decide) (by decide) (fun q9 => ?_) (fun q10 => ?_)
  · have q9 : 2147483654 < 2147483648 := q9
    exfalso; omega
  have q10 : ¬ (2147483654 < 2147483648) := q10
  refine x_iload (np := 17) (x := 2) (by decide +kernel) rfl (by decide) ?_
  refine x_aload (np := 18) (x := 0) (by decide +kernel) rfl (x_nc_le (tn_1 ta0)) ?_
  have b11 := jB (e := 0) 0 hJ (rg_T1_0_0_1 ta0) (by first | decide | omega) (by first | decide | omega)
  have q12 : (h (ra0 + 1) 0) = 2147483655 := by first | decide | omega
  refine x_getC (np := 21) (x := 384) (f := 0) (q := 2147483655) (by decide +kernel) (by decide) (tg_1_384_0_0 ta0) q12 (fun l13 => ?_)
  refine x_icmp (k := 3) (tg := 28) (np := 24) (by decide +kernel) (by decide) (by decide) (by decide) (fun q14 => ?_) (fun q15 => ?_)
  · have q14 : 2147483655 ≤ 2147483654 := q14
    exfalso; omega
  have q15 : ¬ (2147483655 ≤ 2147483654) := q15
  refine x_const (np := 25) (x := 9223372043297226753) (a := 2147483649) (by decide +kernel) (by decide) (by decide) ?_
  refine x_goto (np := 28) (x := 29) (by decide +kernel) ?_
  refine x_istore (np := 30) (x := 3) (lo' := [x_r (ra0 + 1), iv_c a1, iv_c 2147483654, iv_c 2147483649]) (by decide +kernel) (by decide) (Nat.le_of_ble_eq_true rfl) rfl ?_
  refine x_iload (np := 31) (x := 3) (by decide +kernel) rfl (by decide) ?_
  refine x_ifz (k := 0) (tg := 50) (np := 34) (by decide +kernel) (by decide) (by decide) (fun q16 => ?_) (fun q17 => ?_)
  · have q16 : 2147483649 = 2147483648 := q16
    exfalso; omega
  have q17 : ¬ (2147483649 = 2147483648) := q17
  refine x_aload (np := 35) (x := 0) (by decide +kernel) rfl (x_nc_le (tn_1 ta0)) ?_
  have q18 : h (ra0 + 1) 1 = (ra0 + 2) := tf_1_1 hJ ta0
  refine x_getR (np := 38) (x := 385) (f := 1) (q := (ra0 + 2)) (by decide +kernel) (by decide) (tg_1_385_1_1 ta0) q18 ?_
  refine x_iload (np := 39) (x := 1) (by decide +kernel) rfl la1 ?_
  refine x_aload (np := 40) (x := 0) (by decide +kernel) rfl (x_nc_le (tn_1 ta0)) ?_
  refine x_getC (np := 43) (x := 384) (f := 0) (q := 2147483655) (by decide +kernel) (by decide) (tg_1_384_0_0 ta0) q12 (fun l19 => ?_)
  obtain ⟨u20, q21⟩ : ∃ z, a1 = 2147483648 + z := ⟨a1 - 2147483648, by first | decide | omega⟩
  refine x_imul (np := 44) (x := 0) (i := u20) (j := 7) (v := (2147483648 + 7 * u20)) (by decide +kernel) (by first | decide | omega) (by first | decide | omega) (by first | decide | omega) (by first | decide | omega) la1 (by decide) ?_
  refine x_iload (np := 45) (x := 2) (by decide +kernel) rfl (by decide) ?_
  refine x_iadd (np := 46) (x := 0) (v := (2147483654 + 7 * u20)) (by decide +kernel) (by first | decide | omega) (by decide) (by first | decide | omega) (by first | decide | omega) ?_
  refine x_aldC (np := 47) (x := 0) (n := 140) (i := (6 + 7 * u20)) (q := ((h (ra0 + 2) (6 + 7 * u20)))) (by decide +kernel) (ta_2_140 ta0) (by first | decide | omega) (by first | decide | omega) (by decide) rfl (fun l23 => ?_)
  refine x_goto (np := 50) (x := 51) (by decide +kernel) ?_
  refine x_retI (np := 52) (x := 0) (by decide +kernel) l23 (Or.inl (by decide +kernel)) ⟨_, rfl, l23, ?_⟩
  exact ⟨rfl, (by first | decide | omega)⟩
set_option maxHeartbeats 0 in
/-- LentNames$Calendar.begin()V -/
theorem c16_45 {sc : Nat × Nat} {d  : Nat} {h : xh} (hJ : J h) : X sc 16 (d + 3) (xV fun h' => J h' ∧ Fr 5121 h h') 0 0 0 [x_r 45, 147573952589676412928] [] h := by
  have hF := Fr.refl 5121 h
  refine x_const (np := 1) (x := 9223372039002259456) (a := 2147483648) (by decide +kernel) (by decide) (by decide) ?_
  refine x_istore (np := 2) (x := 1) (lo' := [x_r 45, iv_c 2147483648]) (by decide +kernel) (by decide) (Nat.le_of_ble_eq_true rfl) rfl ?_
  have p1601 : ∀ (n : Nat) (v1596 : Nat) (h1598 : xh), 4294967296 - v1596 < n → (2147483648 ≤ v1596 ∧ v1596 ≤ 2147483668) → J h1598 → Fr 1024 h h1598 → X sc 16 (d + 3) (xV fun h' => J h' ∧ Fr 5121 h h') 0 0 2 [x_r 45, iv_c v1596] [] h1598 := by
    intro n
    induction n with
    | zero => intro v1596 h1598 q1602; exact absurd q1602 (Nat.not_lt_zero _)
    | succ n i1603 =>
      intro v1596 h1598 q1602 b1597 j1600 f1599
      have f1604 := Fr.trans hF f1599 (by decide)
      refine x_iload (np := 3) (x := 1) (by decide +kernel) rfl (by first | decide | omega) ?_
      refine x_const (np := 5) (x := 9223372124901605396) (a := 2147483668) (by decide +kernel) (by decide) (by decide) ?_
      refine x_icmp (k := 3) (tg := 63) (np := 8) (by decide +kernel) (by decide) (by first | decide | omega) (by decide) (fun q1605 => ?_) (fun q1606 => ?_)
      · have q1605 : 2147483668 ≤ v1596 := q1605
        refine x_const (np := 64) (x := 9223372039002259456) (a := 2147483648) (by decide +kernel) (by decide) (by decide) ?_
        refine x_istore (np := 65) (x := 1) (lo' := [x_r 45, iv_c 2147483648]) (by decide +kernel) (by decide) (Nat.le_of_ble_eq_true rfl) rfl ?_
        have p1811 : ∀ (n : Nat) (v1806 : Nat) (h1808 : xh), 4294967296 - v1806 < n → (2147483648 ≤ v1806 ∧ v1806 ≤ 2147483654) → J h1808 → Fr 5120 h1598 h1808 → X sc 16 (d + 3) (xV fun h' => J h' ∧ Fr 5121 h h') 0 0 65 [x_r 45, iv_c v1806] [] h1808 := by
          intro n
          induction n with
          | zero => intro v1806 h1808 q1812; exact absurd q1812 (Nat.not_lt_zero _)
          | succ n i1813 =>
            intro v1806 h1808 q1812 b1807 j1810 f1809
            have f1814 := Fr.trans f1604 f1809 (by decide)
            refine x_iload (np := 66) (x := 1) (by decide +kernel) rfl (by first | decide | omega) ?_
            refine x_const (np := 68) (x := 9223372064772063238) (a := 2147483654) (by decide +kernel) (by decide) (by decide) ?_
            refine x_icmp (k := 3) (tg := 107) (np := 71) (by decide +kernel) (by decide) (by first | decide | omega) (by decide) (fun q1815 => ?_) (fun q1816 => ?_)
            · have q1815 : 2147483654 ≤ v1806 := q1815
              refine x_const (np := 108) (x := 9223372039002259456) (a := 2147483648) (by decide +kernel) (by decide) (by decide) ?_
              refine x_istore (np := 109) (x := 1) (lo' := [x_r 45, iv_c 2147483648]) (by decide +kernel) (by decide) (Nat.le_of_ble_eq_true rfl) rfl ?_
              have p2107 : ∀ (n : Nat) (v2102 : Nat) (h2104 : xh), 4294967296 - v2102 < n → (2147483648 ≤ v2102 ∧ v2102 ≤ 2147483719) → J h2104 → Fr 1024 h1808 h2104 → X sc 16 (d + 3) (xV fun h' => J h' ∧ Fr 5121 h h') 0 0 109 [x_r 45, iv_c v2102] [] h2104 := by
                intro n
                induction n with
                | zero => intro v2102 h2104 q2108; exact absurd q2108 (Nat.not_lt_zero _)
                | succ n i2109 =>
                  intro v2102 h2104 q2108 b2103 j2106 f2105
                  have f2110 := Fr.trans f1814 f2105 (by decide)
                  refine x_iload (np := 110) (x := 1) (by decide +kernel) rfl (by first | decide | omega) ?_
                  refine x_aload (np := 111) (x := 0) (by decide +kernel) rfl (x_nc_le (by decide)) ?_
                  have q2111 : h2104 45 1 = 47 := by have z := jB (e := 1) 0 j2106 rg_45_1_0_1 (by decide) (by decide); omega
                  refine x_getR (np := 114) (x := 65) (f := 1) (q := 47) (by decide +kernel) (by decide) (by decide +kernel) q2111 ?_
                  refine x_alen (np := 115) (x := 0) (n := 36) (by decide +kernel) (by decide) (by decide +kernel) (by decide +kernel) (by decide) ?_
                  show X _ _ _ _ _ _ _ _ [iv_c 2147483684, iv_c v2102] _
                  refine x_icmp (k := 3) (tg := 131) (np := 118) (by decide +kernel) (by decide) (by first | decide | omega) (by decide) (fun q2112 => ?_) (fun q2113 => ?_)
                  · have q2112 : 2147483684 ≤ v2102 := q2112
                    refine x_retV (np := 132) (x := 0) (by decide +kernel) (by decide +kernel) ⟨rfl, ?_⟩
                    exact ⟨j2106, f2110⟩
                  have q2113 : ¬ (2147483684 ≤ v2102) := q2113
                  refine x_aload (np := 119) (x := 0) (by decide +kernel) rfl (x_nc_le (by decide)) ?_
                  have q2114 : h2104 45 1 = 47 := by have z := jB (e := 1) 0 j2106 rg_45_1_0_1 (by decide) (by decide); omega
                  refine x_getR (np := 122) (x := 65) (f := 1) (q := 47) (by decide +kernel) (by decide) (by decide +kernel) q2114 ?_
                  refine x_iload (np := 123) (x := 1) (by decide +kernel) rfl (by first | decide | omega) ?_
                  refine x_const (np := 124) (x := 9223372039002259456) (a := 2147483648) (by decide +kernel) (by decide) (by decide) ?_
                  obtain ⟨u2115, q2116⟩ : ∃ z, v2102 = 2147483648 + z := ⟨v2102 - 2147483648, by first | decide | omega⟩
                  refine x_ast (np := 125) (x := 0) (kd := 1) (n := 36) (i := u2115) (by decide +kernel) (Or.inl rfl) (by decide +kernel) (by first | decide | omega) (by first | decide | omega) (by decide) (by decide) (fun z => absurd z (by decide)) ?_
                  have j2118 := jU (e := u2115) (v := 2147483648) u2115 j2106 rg_47_0_1_36 (by first | decide | omega) (by first | decide | omega) (by first | decide | omega)
                  have f2120 := jF (e := u2115) (v := 2147483648) u2115 f2110 rg_47_0_1_36 (by first | decide | omega) (by first | decide | omega) (by decide)
                  have f2121 := jF (e := u2115) (v := 2147483648) u2115 f2105 rg_47_0_1_36 (by first | decide | omega) (by first | decide | omega) (by decide)
                  generalize e2119 : x_up h2104 47 u2115 2147483648 = h2117 at j2118 f2120 f2121 ⊢
                  refine x_iinc (np := 128) (i := 1) (j := 2147483649) (v := (1 + v2102)) (lo' := [x_r 45, iv_c (1 + v2102)]) (by decide +kernel) (by decide) (by decide) rfl (by first | decide | omega) (by first | decide | omega) (by first | decide | omega) rfl ?_
                  refine x_goto (np := 131) (x := 109) (by decide +kernel) ?_
                  exact i2109 (1 + v2102) h2117 (by first | decide | omega) (by first | decide | omega) j2118 f2121
              exact p2107 _ 2147483648 h1808 (Nat.lt_succ_self _) (by first | decide | omega) j1810 (Fr.refl _ _)
            have q1816 : ¬ (2147483654 ≤ v1806) := q1816
            refine x_aload (np := 72) (x := 0) (by decide +kernel) rfl (x_nc_le (by decide)) ?_
            have q2122 : h1808 45 0 = 46 := by have z := jB (e := 0) 0 j1810 rg_45_0_0_1 (by decide) (by decide); omega
            refine x_getR (np := 75) (x := 64) (f := 0) (q := 46) (by decide +kernel) (by decide) (by decide +kernel) q2122 ?_
            refine x_iload (np := 76) (x := 1) (by decide +kernel) rfl (by first | decide | omega) ?_
            refine x_const (np := 79) (x := 9223389626893340671) (a := 2147487743) (by decide +kernel) (by decide) (by decide) ?_
            refine x_const (np := 80) (x := 9223372043297226753) (a := 2147483649) (by decide +kernel) (by decide) (by decide) ?_
            refine x_aload (np := 81) (x := 0) (by decide +kernel) rfl (x_nc_le (by decide)) ?_
            have q2123 : h1808 45 5 = h1598 45 5 := f1809 45 5 (by decide +kernel)
            have q2124 : h1598 45 5 = h 45 5 := f1599 45 5 (by decide +kernel)
            have t2125 : tw (h 45 5) := hJ.2.2.2.1
            refine x_getR (np := 84) (x := 69) (f := 5) (q := (h 45 5)) (by decide +kernel) (by decide) (by decide +kernel) (q2123.trans q2124) ?_
            have q2126 : h1808 (h 45 5) 4 = ((h 45 5) + 9) := tf_0_4 j1810 t2125
            refine x_getR (np := 87) (x := 516) (f := 4) (q := ((h 45 5) + 9)) (by decide +kernel) (by decide) (tg_0_516_4_1 t2125) q2126 ?_
            refine x_iload (np := 88) (x := 1) (by decide +kernel) rfl (by first | decide | omega) ?_
            obtain ⟨u2127, q2128⟩ : ∃ z, v1806 = 2147483648 + z := ⟨v1806 - 2147483648, by first | decide | omega⟩
            have q2129 : h1808 ((h 45 5) + 9) u2127 = h1598 ((h 45 5) + 9) u2127 := jK u2127 f1809 (rg_T9_0_1_6 t2125) (by first | decide | omega) (by first | decide | omega) (by decide)
            have q2130 : h1598 ((h 45 5) + 9) u2127 = h ((h 45 5) + 9) u2127 := jK u2127 f1599 (rg_T9_0_1_6 t2125) (by first | decide | omega) (by first | decide | omega) (by decide)
            refine x_aldC (np := 89) (x := 0) (n := 6) (i := u2127) (q := (h ((h 45 5) + 9) u2127)) (by decide +kernel) (ta_9_6 t2125) (by first | decide | omega) (by first | decide | omega) (by decide) (q2129.trans q2130) (fun l2131 => ?_)
            refine x_any (np := 90) (k9 := 3) (by decide +kernel) (by decide) (by decide) l2131 (fun v2132 l2133 => ?_)
            refine x_const (np := 91) (x := 9223372043297226753) (a := 2147483649) (by decide +kernel) (by decide) (by decide) ?_
            refine x_subA (by rw [tb_b16]; decide +kernel) l2133 (by decide) (fun v2134 l2135 => ?_)
            refine x_any (np := 93) (k9 := 0) (by decide +kernel) (by decide) (by decide) l2135 (fun v2136 l2137 => ?_)
            refine x_ast (np := 94) (x := 0) (kd := 1) (n := 6) (i := u2127) (by decide +kernel) (Or.inl rfl) (by decide +kernel) (by first | decide | omega) (by first | decide | omega) (by decide) l2137 (fun z => absurd z (by decide)) ?_
            have j2139 := jU (e := u2127) (v := v2136) u2127 j1810 rg_46_0_1_6 (by first | decide | omega) (by first | decide | omega) (by first | decide | omega)
            have f2141 := jF (e := u2127) (v := v2136) u2127 f1814 rg_46_0_1_6 (by first | decide | omega) (by first | decide | omega) (by decide)
            have f2142 := jF (e := u2127) (v := v2136) u2127 f1809 rg_46_0_1_6 (by first | decide | omega) (by first | decide | omega) (by decide)
            generalize e2140 : x_up h1808 46 u2127 v2136 = h2138 at j2139 f2141 f2142 ⊢
            refine x_aload (np := 95) (x := 0) (by decide +kernel) rfl (x_nc_le (by decide)) ?_
            have q2143 : h2138 45 12 = 57 := by have z := jB (e := 12) 0 j2139 rg_45_12_0_1 (by decide) (by decide); omega
            refine x_getR (np := 98) (x := 76) (f := 12) (q := 57) (by decide +kernel) (by decide) (by decide +kernel) q2143 ?_
            refine x_iload (np := 99) (x := 1) (by decide +kernel) rfl (by first | decide | omega) ?_
            refine x_const (np := 100) (x := 9223372039002259456) (a := 2147483648) (by decide +kernel) (by decide) (by decide) ?_
            refine x_ast (np := 101) (x := 0) (kd := 1) (n := 6) (i := u2127) (by decide +kernel) (Or.inl rfl) (by decide +kernel) (by first | decide | omega) (by first | decide | omega) (by decide) (by decide) (fun z => absurd z (by decide)) ?_
            have j2145 := jU (e := u2127) (v := 2147483648) u2127 j2139 rg_57_0_1_6 (by first | decide | omega) (by first | decide | omega) (by first | decide | omega)
            have f2147 := jF (e := u2127) (v := 2147483648) u2127 f2141 rg_57_0_1_6 (by first | decide | omega) (by first | decide | omega) (by decide)
            have f2148 := jF (e := u2127) (v := 2147483648) u2127 f2142 rg_57_0_1_6 (by first | decide | omega) (by first | decide | omega) (by decide)
            generalize e2146 : x_up h2138 57 u2127 2147483648 = h2144 at j2145 f2147 f2148 ⊢
            refine x_iinc (np := 104) (i := 1) (j := 2147483649) (v := (1 + v1806)) (lo' := [x_r 45, iv_c (1 + v1806)]) (by decide +kernel) (by decide) (by decide) rfl (by first | decide | omega) (by first | decide | omega) (by first | decide | omega) rfl ?_
            refine x_goto (np := 107) (x := 65) (by decide +kernel) ?_
            exact i1813 (1 + v1806) h2144 (by first | decide | omega) (by first | decide | omega) j2145 f2148
        exact p1811 _ 2147483648 h1598 (Nat.lt_succ_self _) (by first | decide | omega) j1600 (Fr.refl _ _)
      have q1606 : ¬ (2147483668 ≤ v1596) := q1606
      refine x_aload (np := 9) (x := 0) (by decide +kernel) rfl (x_nc_le (by decide)) ?_
      have q2149 : h1598 45 2 = 48 := by have z := jB (e := 2) 0 j1600 rg_45_2_0_1 (by decide) (by decide); omega
      refine x_getR (np := 12) (x := 66) (f := 2) (q := 48) (by decide +kernel) (by decide) (by decide +kernel) q2149 ?_
      refine x_iload (np := 13) (x := 1) (by decide +kernel) rfl (by first | decide | omega) ?_
      refine x_const (np := 14) (x := 9223372034707292159) (a := 2147483647) (by decide +kernel) (by decide) (by decide) ?_
      obtain ⟨u2150, q2151⟩ : ∃ z, v1596 = 2147483648 + z := ⟨v1596 - 2147483648, by first | decide | omega⟩
      refine x_ast (np := 15) (x := 0) (kd := 1) (n := 20) (i := u2150) (by decide +kernel) (Or.inl rfl) (by decide +kernel) (by first | decide | omega) (by first | decide | omega) (by decide) (by decide) (fun z => absurd z (by decide)) ?_
      have j2153 := jU (e := u2150) (v := 2147483647) u2150 j1600 rg_48_0_1_20 (by first | decide | omega) (by first | decide | omega) (by first | decide | omega)
      have f2155 := jF (e := u2150) (v := 2147483647) u2150 f1604 rg_48_0_1_20 (by first | decide | omega) (by first | decide | omega) (by decide)
      have f2156 := jF (e := u2150) (v := 2147483647) u2150 f1599 rg_48_0_1_20 (by first | decide | omega) (by first | decide | omega) (by decide)
      generalize e2154 : x_up h1598 48 u2150 2147483647 = h2152 at j2153 f2155 f2156 ⊢
      refine x_aload (np := 16) (x := 0) (by decide +kernel) rfl (x_nc_le (by decide)) ?_
      have q2157 : h2152 45 3 = 49 := by have z := jB (e := 3) 0 j2153 rg_45_3_0_1 (by decide) (by decide); omega
      refine x_getR (np := 19) (x := 67) (f := 3) (q := 49) (by decide +kernel) (by decide) (by decide +kernel) q2157 ?_
      refine x_iload (np := 20) (x := 1) (by decide +kernel) rfl (by first | decide | omega) ?_
      refine x_const (np := 21) (x := 9223372034707292159) (a := 2147483647) (by decide +kernel) (by decide) (by decide) ?_
      refine x_ast (np := 22) (x := 0) (kd := 1) (n := 20) (i := u2150) (by decide +kernel) (Or.inl rfl) (by decide +kernel) (by first | decide | omega) (by first | decide | omega) (by decide) (by decide) (fun z => absurd z (by decide)) ?_
      have j2159 := jU (e := u2150) (v := 2147483647) u2150 j2153 rg_49_0_1_20 (by first | decide | omega) (by first | decide | omega) (by first | decide | omega)
      have f2161 := jF (e := u2150) (v := 2147483647) u2150 f2155 rg_49_0_1_20 (by first | decide | omega) (by first | decide | omega) (by decide)
      have f2162 := jF (e := u2150) (v := 2147483647) u2150 f2156 rg_49_0_1_20 (by first | decide | omega) (by first | decide | omega) (by decide)
      generalize e2160 : x_up h2152 49 u2150 2147483647 = h2158 at j2159 f2161 f2162 ⊢
      refine x_aload (np := 23) (x := 0) (by decide +kernel) rfl (x_nc_le (by decide)) ?_
      have q2163 : h2158 45 4 = 50 := by have z := jB (e := 4) 0 j2159 rg_45_4_0_1 (by decide) (by decide); omega
      refine x_getR (np := 26) (x := 68) (f := 4) (q := 50) (by decide +kernel) (by decide) (by decide +kernel) q2163 ?_
      refine x_iload (np := 27) (x := 1) (by decide +kernel) rfl (by first | decide | omega) ?_
      refine x_const (np := 28) (x := 9223372039002259456) (a := 2147483648) (by decide +kernel) (by decide) (by decide) ?_
      refine x_ast (np := 29) (x := 0) (kd := 1) (n := 20) (i := u2150) (by decide +kernel) (Or.inl rfl) (by decide +kernel) (by first | decide | omega) (by first | decide | omega) (by decide) (by decide) (fun z => absurd z (by decide)) ?_
      have j2165 := jU (e := u2150) (v := 2147483648) u2150 j2159 rg_50_0_1_20 (by first | decide | omega) (by first | decide | omega) (by first | decide | omega)
      have f2167 := jF (e := u2150) (v := 2147483648) u2150 f2161 rg_50_0_1_20 (by first | decide | omega) (by first | decide | omega) (by decide)
      have f2168 := jF (e := u2150) (v := 2147483648) u2150 f2162 rg_50_0_1_20 (by first | decide | omega) (by first | decide | omega) (by decide)
      generalize e2166 : x_up h2158 50 u2150 2147483648 = h2164 at j2165 f2167 f2168 ⊢
      refine x_aload (np := 30) (x := 0) (by decide +kernel) rfl (x_nc_le (by decide)) ?_
      have q2169 : h2164 45 9 = 54 := by have z := jB (e := 9) 0 j2165 rg_45_9_0_1 (by decide) (by decide); omega
      refine x_getR (np := 33) (x := 73) (f := 9) (q := 54) (by decide +kernel) (by decide) (by decide +kernel) q2169 ?_
      refine x_iload (np := 34) (x := 1) (by decide +kernel) rfl (by first | decide | omega) ?_
      refine x_aload (np := 35) (x := 0) (by decide +kernel) rfl (x_nc_le (by decide)) ?_
      have q2170 : h2164 45 5 = h2158 45 5 := by rw [← e2166]; exact x_up_k (by decide)
      have q2171 : h2158 45 5 = h2152 45 5 := by rw [← e2160]; exact x_up_k (by decide)
      have q2172 : h2152 45 5 = h1598 45 5 := by rw [← e2154]; exact x_up_k (by decide)
      have q2173 : h1598 45 5 = h 45 5 := f1599 45 5 (by decide +kernel)
      have t2174 : tw (h 45 5) := hJ.2.2.2.1
      refine x_getR (np := 38) (x := 69) (f := 5) (q := (h 45 5)) (by decide +kernel) (by decide) (by decide +kernel) (((q2170.trans q2171).trans q2172).trans q2173) ?_
      refine x_iload (np := 39) (x := 1) (by decide +kernel) rfl (by first | decide | omega) ?_
      refine x_nI (t := 6) (mj := 85) (n := 2) (rc := 9) (ml := 2) (nr := 2) (np := 42) (as := [x_r (h 45 5), iv_c v1596]) (rest := [iv_c v1596, x_r 54]) (lo1 := [x_r (h 45 5), iv_c v1596]) (by decide +kernel) (by decide) (by decide +kernel) (x_rb_of (tr_0_9 t2174)) rfl rfl (x_wr (tn_0 t2174) (x_wi (by first | decide | omega) x_wn)) (x_wi (by first | decide | omega) (x_wr (by decide) x_wn)) (by decide) rfl ?_
      refine x_aload (np := 1) (x := 0) (by decide +kernel) rfl (x_nc_le (tn_0 t2174)) ?_
      have q2175 : h2164 (h 45 5) 0 = ((h 45 5) + 1) := tf_0_0 j2165 t2174
      refine x_getR (np := 4) (x := 512) (f := 0) (q := ((h 45 5) + 1)) (by decide +kernel) (by decide) (tg_0_512_0_1 t2174) q2175 ?_
      refine x_iload (np := 5) (x := 1) (by decide +kernel) rfl (by first | decide | omega) ?_
      refine x_const (np := 6) (x := 9223372047592194050) (a := 2147483650) (by decide +kernel) (by decide) (by decide) ?_
      refine x_cP (t := 6) (mj := 68) (n := 3) (rc := 7) (ml := 4) (nr := 0) (np := 9) (as := [x_r ((h 45 5) + 1), iv_c v1596, iv_c 2147483650]) (rest := []) (lo1 := [x_r ((h 45 5) + 1), iv_c v1596, iv_c 2147483650, 147573952589676412928]) (by decide +kernel) (by decide) (by decide +kernel) (x_rb_of (tr_1_7 t2174)) rfl rfl (x_wr (tn_1 t2174) (x_wi (by first | decide | omega) (x_wi (by decide) x_wn))) x_wn (by decide) rfl (c68_T1_c2 j2165 t2174 (by first | decide | omega) ) (fun v2181 l2182 q2183 => ?_)
      refine x_aload (np := 10) (x := 0) (by decide +kernel) rfl (x_nc_le (tn_0 t2174)) ?_
      have q2184 : h2164 (h 45 5) 0 = ((h 45 5) + 1) := tf_0_0 j2165 t2174
      refine x_getR (np := 13) (x := 512) (f := 0) (q := ((h 45 5) + 1)) (by decide +kernel) (by decide) (tg_0_512_0_1 t2174) q2184 ?_
      refine x_iload (np := 14) (x := 1) (by decide +kernel) rfl (by first | decide | omega) ?_
      refine x_const (np := 15) (x := 9223372051887161347) (a := 2147483651) (by decide +kernel) (by decide) (by decide) ?_
      refine x_cP (t := 6) (mj := 68) (n := 3) (rc := 7) (ml := 4) (nr := 1) (np := 18) (as := [x_r ((h 45 5) + 1), iv_c v1596, iv_c 2147483651]) (rest := [iv_c v2181]) (lo1 := [x_r ((h 45 5) + 1), iv_c v1596, iv_c 2147483651, 147573952589676412928]) (by decide +kernel) (by decide) (by decide +kernel) (x_rb_of (tr_1_7 t2174)) rfl rfl (x_wr (tn_1 t2174) (x_wi (by first | decide | omega) (x_wi (by decide) x_wn))) (x_wi l2182 x_wn) (by decide) rfl (c68_T1_c3 j2165 t2174 (by first | decide | omega) ) (fun v2190 l2191 q2192 => ?_)
      refine x_addA (by rw [tb_b85]; decide +kernel) l2182 l2191 (fun v2193 l2194 => ?_)
      refine x_const (np := 20) (x := 9223372043297226753) (a := 2147483649) (by decide +kernel) (by decide) (by decide) ?_
      refine x_subA (by rw [tb_b85]; decide +kernel) l2194 (by decide) (fun v2195 l2196 => ?_)
      refine x_retI (np := 22) (x := 0) (by decide +kernel) l2196 (Or.inl (by decide +kernel)) ⟨_, rfl, l2196, ?_⟩
      refine x_ast (np := 43) (x := 0) (kd := 1) (n := 20) (i := u2150) (by decide +kernel) (Or.inl rfl) (by decide +kernel) (by first | decide | omega) (by first | decide | omega) (by decide) l2196 (fun z => absurd z (by decide)) ?_
      have j2198 := jU (e := u2150) (v := v2195) u2150 j2165 rg_54_0_1_20 (by first | decide | omega) (by first | decide | omega) (by first | decide | omega)
      have f2200 := jF (e := u2150) (v := v2195) u2150 f2167 rg_54_0_1_20 (by first | decide | omega) (by first | decide | omega) (by decide)
      have f2201 := jF (e := u2150) (v := v2195) u2150 f2168 rg_54_0_1_20 (by first | decide | omega) (by first | decide | omega) (by decide)
      generalize e2199 : x_up h2164 54 u2150 v2195 = h2197 at j2198 f2200 f2201 ⊢
      refine x_aload (np := 44) (x := 0) (by decide +kernel) rfl (x_nc_le (by decide)) ?_
      have q2202 : h2197 45 10 = 55 := by have z := jB (e := 10) 0 j2198 rg_45_10_0_1 (by decide) (by decide); omega
      refine x_getR (np := 47) (x := 74) (f := 10) (q := 55) (by decide +kernel) (by decide) (by decide +kernel) q2202 ?_
      refine x_iload (np := 48) (x := 1) (by decide +kernel) rfl (by first | decide | omega) ?_
      refine x_aload (np := 49) (x := 0) (by decide +kernel) rfl (x_nc_le (by decide)) ?_
      have q2203 : h2197 45 5 = h2164 45 5 := by rw [← e2199]; exact x_up_k (by decide)
      have q2204 : h2164 45 5 = h2158 45 5 := by rw [← e2166]; exact x_up_k (by decide)
      have q2205 : h2158 45 5 = h2152 45 5 := by rw [← e2160]; exact x_up_k (by decide)
      have q2206 : h2152 45 5 = h1598 45 5 := by rw [← e2154]; exact x_up_k (by decide)
      have q2207 : h1598 45 5 = h 45 5 := f1599 45 5 (by decide +kernel)
      refine x_getR (np := 52) (x := 69) (f := 5) (q := (h 45 5)) (by decide +kernel) (by decide) (by decide +kernel) ((((q2203.trans q2204).trans q2205).trans q2206).trans q2207) ?_
      refine x_iload (np := 53) (x := 1) (by decide +kernel) rfl (by first | decide | omega) ?_
      refine x_nI (t := 6) (mj := 86) (n := 2) (rc := 9) (ml := 2) (nr := 2) (np := 56) (as := [x_r (h 45 5), iv_c v1596]) (rest := [iv_c v1596, x_r 55]) (lo1 := [x_r (h 45 5), iv_c v1596]) (by decide +kernel) (by decide) (by decide +kernel) (x_rb_of (tr_0_9 t2174)) rfl rfl (x_wr (tn_0 t2174) (x_wi (by first | decide | omega) x_wn)) (x_wi (by first | decide | omega) (x_wr (by decide) x_wn)) (by decide) rfl ?_
      refine x_aload (np := 1) (x := 0) (by decide +kernel) rfl (x_nc_le (tn_0 t2174)) ?_
      refine x_iload (np := 2) (x := 1) (by decide +kernel) rfl (by first | decide | omega) ?_
      refine x_nI (t := 6) (mj := 85) (n := 2) (rc := 9) (ml := 2) (nr := 0) (np := 5) (as := [x_r (h 45 5), iv_c v1596]) (rest := []) (lo1 := [x_r (h 45 5), iv_c v1596]) (by decide +kernel) (by decide) (by decide +kernel) (x_rb_of (tr_0_9 t2174)) rfl rfl (x_wr (tn_0 t2174) (x_wi (by first | decide | omega) x_wn)) x_wn (by decide) rfl ?_
      refine x_aload (np := 1) (x := 0) (by decide +kernel) rfl (x_nc_le (tn_0 t2174)) ?_
      have q2208 : h2197 (h 45 5) 0 = ((h 45 5) + 1) := tf_0_0 j2198 t2174
      refine x_getR (np := 4) (x := 512) (f := 0) (q := ((h 45 5) + 1)) (by decide +kernel) (by decide) (tg_0_512_0_1 t2174) q2208 ?_
      refine x_iload (np := 5) (x := 1) (by decide +kernel) rfl (by first | decide | omega) ?_
      refine x_const (np := 6) (x := 9223372047592194050) (a := 2147483650) (by decide +kernel) (by decide) (by decide) ?_
      refine x_cP (t := 6) (mj := 68) (n := 3) (rc := 7) (ml := 4) (nr := 0) (np := 9) (as := [x_r ((h 45 5) + 1), iv_c v1596, iv_c 2147483650]) (rest := []) (lo1 := [x_r ((h 45 5) + 1), iv_c v1596, iv_c 2147483650, 147573952589676412928]) (by decide +kernel) (by decide) (by decide +kernel) (x_rb_of (tr_1_7 t2174)) rfl rfl (x_wr (tn_1 t2174) (x_wi (by first | decide | omega) (x_wi (by decide) x_wn))) x_wn (by decide) rfl (c68_T1_c2 j2198 t2174 (by first | decide | omega) ) (fun v2215 l2216 q2217 => ?_)
      refine x_aload (np := 10) (x := 0) (by decide +kernel) rfl (x_nc_le (tn_0 t2174)) ?_
      have q2218 : h2197 (h 45 5) 0 = ((h 45 5) + 1) := tf_0_0 j2198 t2174
      refine x_getR (np := 13) (x := 512) (f := 0) (q := ((h 45 5) + 1)) (by decide +kernel) (by decide) (tg_0_512_0_1 t2174) q2218 ?_
      refine x_iload (np := 14) (x := 1) (by decide +kernel) rfl (by first | decide | omega) ?_
      refine x_const (np := 15) (x := 9223372051887161347) (a := 2147483651) (by decide +kernel) (by decide) (by decide) ?_
      refine x_cP (t := 6) (mj := 68) (n := 3) (rc := 7) (ml := 4) (nr := 1) (np := 18) (as := [x_r ((h 45 5) + 1), iv_c v1596, iv_c 2147483651]) (rest := [iv_c v2215]) (lo1 := [x_r ((h 45 5) + 1), iv_c v1596, iv_c 2147483651, 147573952589676412928]) (by decide +kernel) (by decide) (by decide +kernel) (x_rb_of (tr_1_7 t2174)) rfl rfl (x_wr (tn_1 t2174) (x_wi (by first | decide | omega) (x_wi (by decide) x_wn))) (x_wi l2216 x_wn) (by decide) rfl (c68_T1_c3 j2198 t2174 (by first | decide | omega) ) (fun v2225 l2226 q2227 => ?_)
      refine x_addA (by rw [tb_b85]; decide +kernel) l2216 l2226 (fun v2228 l2229 => ?_)
      refine x_const (np := 20) (x := 9223372043297226753) (a := 2147483649) (by decide +kernel) (by decide) (by decide) ?_
      refine x_subA (by rw [tb_b85]; decide +kernel) l2229 (by decide) (fun v2230 l2231 => ?_)
      refine x_retI (np := 22) (x := 0) (by decide +kernel) l2231 (Or.inl (by decide +kernel)) ⟨_, rfl, l2231, ?_⟩
      refine x_aload (np := 6) (x := 0) (by decide +kernel) rfl (x_nc_le (tn_0 t2174)) ?_
      have q2232 : h2197 (h 45 5) 0 = ((h 45 5) + 1) := tf_0_0 j2198 t2174
      refine x_getR (np := 9) (x := 512) (f := 0) (q := ((h 45 5) + 1)) (by decide +kernel) (by decide) (tg_0_512_0_1 t2174) q2232 ?_
      refine x_iload (np := 10) (x := 1) (by decide +kernel) rfl (by first | decide | omega) ?_
      refine x_const (np := 12) (x := 9223372064772063238) (a := 2147483654) (by decide +kernel) (by decide) (by decide) ?_
      refine x_cP (t := 6) (mj := 68) (n := 3) (rc := 7) (ml := 4) (nr := 1) (np := 15) (as := [x_r ((h 45 5) + 1), iv_c v1596, iv_c 2147483654]) (rest := [iv_c v2230]) (lo1 := [x_r ((h 45 5) + 1), iv_c v1596, iv_c 2147483654, 147573952589676412928]) (by decide +kernel) (by decide) (by decide +kernel) (x_rb_of (tr_1_7 t2174)) rfl rfl (x_wr (tn_1 t2174) (x_wi (by first | decide | omega) (x_wi (by decide) x_wn))) (x_wi l2231 x_wn) (by decide) rfl (c68_T1_c6 j2198 t2174 (by first | decide | omega) ) (fun v2239 l2240 q2241 => ?_)
      refine x_addA (by rw [tb_b86]; decide +kernel) l2231 l2240 (fun v2242 l2243 => ?_)
      refine x_retI (np := 17) (x := 0) (by decide +kernel) l2243 (Or.inl (by decide +kernel)) ⟨_, rfl, l2243, ?_⟩
      refine x_ast (np := 57) (x := 0) (kd := 1) (n := 20) (i := u2150) (by decide +kernel) (Or.inl rfl) (by decide +kernel) (by first | decide | omega) (by first | decide | omega) (by decide) l2243 (fun z => absurd z (by decide)) ?_
      have j2245 := jU (e := u2150) (v := v2242) u2150 j2198 rg_55_0_1_20 (by first | decide | omega) (by first | decide | omega) (by first | decide | omega)
      have f2247 := jF (e := u2150) (v := v2242) u2150 f2200 rg_55_0_1_20 (by first | decide | omega) (by first | decide | omega) (by decide)
      have f2248 := jF (e := u2150) (v := v2242) u2150 f2201 rg_55_0_1_20 (by first | decide | omega) (by first | decide | omega) (by decide)
      generalize e2246 : x_up h2197 55 u2150 v2242 = h2244 at j2245 f2247 f2248 ⊢
      refine x_iinc (np := 60) (i := 1) (j := 2147483649) (v := (1 + v1596)) (lo' := [x_r 45, iv_c (1 + v1596)]) (by decide +kernel) (by decide) (by decide) rfl (by first | decide | omega) (by first | decide | omega) (by first | decide | omega) rfl ?_
      refine x_goto (np := 63) (x := 2) (by decide +kernel) ?_
      exact i1603 (1 + v1596) h2244 (by first | decide | omega) (by first | decide | omega) j2245 f2248
  exact p1601 _ 2147483648 h (Nat.lt_succ_self _) (by first | decide | omega) hJ (Fr.refl _ _)
set_option maxHeartbeats 0 in
/-- LentNames$Calendar.endFrom(III)V -/
theorem c18_45 {sc : Nat × Nat} {d a1 a2 a3 : Nat} {h : xh} (hJ : J h) (ba1 : 2147483648 ≤ a1 ∧ a1 ≤ 2147483653) (ba2 : 2147483648 ≤ a2 ∧ a2 ≤ 2147483667) (ba3 : 2147483648 ≤ a3 ∧ a3 ≤ 2147483659) : X sc 18 (d + 1) (xV fun h' => J h' ∧ Fr 5121 h h') 0 0 0 [x_r 45, iv_c a1, iv_c a2, iv_c a3, 147573952589676412928] [] h := by
  have la1 : a1 < 4294967296 := by first | decide | omega
  have la2 : a2 < 4294967296 := by first | decide | omega
  have la3 : a3 < 4294967296 := by first | decide | omega
  have hF := Fr.refl 5121 h
  refine x_iload (np := 1) (x := 2) (by decide +kernel) rfl la2 ?_
  refine x_istore (np := 3) (x := 4) (lo' := [x_r 45, iv_c a1, iv_c a2, iv_c a3, iv_c a2]) (by decide +kernel) la2 (Nat.le_of_ble_eq_true rfl) rfl ?_
  have p57 : ∀ (n : Nat) (v52 : Nat) (h54 : xh), 4294967296 - v52 < n → (2147483648 ≤ v52 ∧ v52 ≤ 2147483668) → J h54 → Fr 1024 h h54 → X sc 18 (d + 1) (xV fun h' => J h' ∧ Fr 5121 h h') 0 0 3 [x_r 45, iv_c a1, iv_c a2, iv_c a3, iv_c v52] [] h54 := by
    intro n
    induction n with
    | zero => intro v52 h54 q58; exact absurd q58 (Nat.not_lt_zero _)
    | succ n i59 =>
      intro v52 h54 q58 b53 j56 f55
      have f60 := Fr.trans hF f55 (by decide)
      refine x_iload (np := 5) (x := 4) (by decide +kernel) rfl (by first | decide | omega) ?_
      refine x_aload (np := 6) (x := 0) (by decide +kernel) rfl (x_nc_le (by decide)) ?_
      have q61 : h54 45 12 = 57 := by have z := jB (e := 12) 0 j56 rg_45_12_0_1 (by decide) (by decide); omega
      refine x_getR (np := 9) (x := 76) (f := 12) (q := 57) (by decide +kernel) (by decide) (by decide +kernel) q61 ?_
      refine x_iload (np := 10) (x := 1) (by decide +kernel) rfl la1 ?_
      obtain ⟨u62, q63⟩ : ∃ z, a1 = 2147483648 + z := ⟨a1 - 2147483648, by first | decide | omega⟩
      have q64 : h54 57 u62 = h 57 u62 := jK u62 f55 rg_57_0_1_6 (by first | decide | omega) (by first | decide | omega) (by decide)
      have b65 := jB (e := u62) u62 hJ rg_57_0_1_6 (by first | decide | omega) (by first | decide | omega)
      refine x_aldC (np := 11) (x := 0) (n := 6) (i := u62) (q := (h 57 u62)) (by decide +kernel) (by decide +kernel) (by first | decide | omega) (by first | decide | omega) (by decide) q64 (fun l66 => ?_)
      refine x_icmp (k := 3) (tg := 33) (np := 14) (by decide +kernel) (by decide) (by first | decide | omega) l66 (fun q67 => ?_) (fun q68 => ?_)
      · have q67 : (h 57 u62) ≤ v52 := q67
        refine x_aload (np := 34) (x := 0) (by decide +kernel) rfl (x_nc_le (by decide)) ?_
        have q69 : h54 45 12 = 57 := by have z := jB (e := 12) 0 j56 rg_45_12_0_1 (by decide) (by decide); omega
        refine x_getR (np := 37) (x := 76) (f := 12) (q := 57) (by decide +kernel) (by decide) (by decide +kernel) q69 ?_
        refine x_iload (np := 38) (x := 1) (by decide +kernel) rfl la1 ?_
        refine x_iload (np := 39) (x := 2) (by decide +kernel) rfl la2 ?_
        refine x_ast (np := 40) (x := 0) (kd := 1) (n := 6) (i := u62) (by decide +kernel) (Or.inl rfl) (by decide +kernel) (by first | decide | omega) (by first | decide | omega) (by decide) la2 (fun z => absurd z (by decide)) ?_
        have j71 := jU (e := u62) (v := a2) u62 j56 rg_57_0_1_6 (by first | decide | omega) (by first | decide | omega) (by first | decide | omega)
        have f73 := jF (e := u62) (v := a2) u62 f60 rg_57_0_1_6 (by first | decide | omega) (by first | decide | omega) (by decide)
        generalize e72 : x_up h54 57 u62 a2 = h70 at j71 f73 ⊢
        refine x_retV (np := 41) (x := 0) (by decide +kernel) (by decide +kernel) ⟨rfl, ?_⟩
        exact ⟨j71, f73⟩
      have q68 : ¬ ((h 57 u62) ≤ v52) := q68
      refine x_aload (np := 15) (x := 0) (by decide +kernel) rfl (x_nc_le (by decide)) ?_
      have q74 : h54 45 3 = 49 := by have z := jB (e := 3) 0 j56 rg_45_3_0_1 (by decide) (by decide); omega
      refine x_getR (np := 18) (x := 67) (f := 3) (q := 49) (by decide +kernel) (by decide) (by decide +kernel) q74 ?_
      refine x_aload (np := 19) (x := 0) (by decide +kernel) rfl (x_nc_le (by decide)) ?_
      refine x_iload (np := 20) (x := 1) (by decide +kernel) rfl la1 ?_
      refine x_iload (np := 22) (x := 4) (by decide +kernel) rfl (by first | decide | omega) ?_
      refine x_nI (t := 6) (mj := 33) (n := 3) (rc := 2) (ml := 3) (nr := 1) (np := 25) (as := [x_r 45, iv_c a1, iv_c v52]) (rest := [x_r 49]) (lo1 := [x_r 45, iv_c a1, iv_c v52]) (by decide +kernel) (by decide) (by decide +kernel) (x_rb_of (by decide +kernel)) rfl rfl (x_wr (by decide) (x_wi la1 (x_wi (by first | decide | omega) x_wn))) (x_wr (by decide) x_wn) (by decide) rfl ?_
      refine x_aload (np := 1) (x := 0) (by decide +kernel) rfl (x_nc_le (by decide)) ?_
      have q75 : h54 45 11 = 56 := by have z := jB (e := 11) 0 j56 rg_45_11_0_1 (by decide) (by decide); omega
      refine x_getR (np := 4) (x := 75) (f := 11) (q := 56) (by decide +kernel) (by decide) (by decide +kernel) q75 ?_
      refine x_iload (np := 5) (x := 1) (by decide +kernel) rfl la1 ?_
      refine x_const (np := 7) (x := 9223372124901605396) (a := 2147483668) (by decide +kernel) (by decide) (by decide) ?_
      refine x_imul (np := 8) (x := 0) (i := u62) (j := 20) (v := (2147483648 + 20 * u62)) (by decide +kernel) (by first | decide | omega) (by first | decide | omega) (by first | decide | omega) (by first | decide | omega) la1 (by decide) ?_
      refine x_iload (np := 9) (x := 2) (by decide +kernel) rfl (by first | decide | omega) ?_
      refine x_iadd (np := 10) (x := 0) (v := (20 * u62 + v52)) (by decide +kernel) (by first | decide | omega) (by first | decide | omega) (by first | decide | omega) (by first | decide | omega) ?_
      obtain ⟨u77, q78⟩ : ∃ z, v52 = 2147483648 + z := ⟨v52 - 2147483648, by first | decide | omega⟩
      have q79 : h54 56 (20 * u62 + u77) = h 56 (20 * u62 + u77) := jK (20 * u62 + u77) f55 rg_56_0_1_120 (by first | decide | omega) (by first | decide | omega) (by decide)
      have b80 := jB (e := (20 * u62 + u77)) (20 * u62 + u77) hJ rg_56_0_1_120 (by first | decide | omega) (by first | decide | omega)
      refine x_aldC (np := 11) (x := 0) (n := 120) (i := (20 * u62 + u77)) (q := ((h 56 (20 * u62 + u77)))) (by decide +kernel) (by decide +kernel) (by first | decide | omega) (by first | decide | omega) (by decide) q79 (fun l81 => ?_)
      refine x_retI (np := 12) (x := 0) (by decide +kernel) l81 (Or.inl (by decide +kernel)) ⟨_, rfl, l81, ?_⟩
      refine x_iload (np := 26) (x := 3) (by decide +kernel) rfl la3 ?_
      obtain ⟨u82, q83⟩ : ∃ z, ((h 56 (20 * u62 + u77))) = 2147483648 + z := ⟨((h 56 (20 * u62 + u77))) - 2147483648, by first | decide | omega⟩
      refine x_ast (np := 27) (x := 0) (kd := 1) (n := 20) (i := u82) (by decide +kernel) (Or.inl rfl) (by decide +kernel) (by first | decide | omega) (by first | decide | omega) (by decide) la3 (fun z => absurd z (by decide)) ?_
      have j85 := jU (e := u82) (v := a3) u82 j56 rg_49_0_1_20 (by first | decide | omega) (by first | decide | omega) (by first | decide | omega)
      have f87 := jF (e := u82) (v := a3) u82 f60 rg_49_0_1_20 (by first | decide | omega) (by first | decide | omega) (by decide)
      have f88 := jF (e := u82) (v := a3) u82 f55 rg_49_0_1_20 (by first | decide | omega) (by first | decide | omega) (by decide)
      generalize e86 : x_up h54 49 u82 a3 = h84 at j85 f87 f88 ⊢
      refine x_iinc (np := 30) (i := 4) (j := 2147483649) (v := (1 + v52)) (lo' := [x_r 45, iv_c a1, iv_c a2, iv_c a3, iv_c (1 + v52)]) (by decide +kernel) (by decide) (by decide) rfl (by first | decide | omega) (by first | decide | omega) (by first | decide | omega) rfl ?_
      refine x_goto (np := 33) (x := 3) (by decide +kernel) ?_
      exact i59 (1 + v52) h84 (by first | decide | omega) (by first | decide | omega) j85 f88
  exact p57 _ a2 h (Nat.lt_succ_self _) (by first | decide | omega) hJ (Fr.refl _ _)
set_option maxHeartbeats 0 in
/-- LentNames$Calendar.endLoans(I)V -/
theorem c17_45 {sc : Nat × Nat} {d a1 : Nat} {h : xh} (hJ : J h) (ba1 : 2147483648 ≤ a1 ∧ a1 ≤ 2147483659) : X sc 17 (d + 2) (xV fun h' => J h' ∧ Fr 5121 h h') 0 0 0 [x_r 45, iv_c a1, 147573952589676412928, 147573952589676412928] [] h := by
  have la1 : a1 < 4294967296 := by first | decide | omega
  have hF := Fr.refl 5121 h
  refine x_const (np := 1) (x := 9223372039002259456) (a := 2147483648) (by decide +kernel) (by decide) (by decide) ?_
  refine x_istore (np := 2) (x := 2) (lo' := [x_r 45, iv_c a1, iv_c 2147483648, 147573952589676412928]) (by decide +kernel) (by decide) (Nat.le_of_ble_eq_true rfl) rfl ?_
  have p3244 : ∀ (n : Nat) (v3238 : Nat) (w3240 : Nat) (h3241 : xh), 4294967296 - v3238 < n → (2147483648 ≤ v3238 ∧ v3238 ≤ 2147483654) → J h3241 → Fr 5121 h h3241 → X sc 17 (d + 2) (xV fun h' => J h' ∧ Fr 5121 h h') 0 0 2 [x_r 45, iv_c a1, iv_c v3238, w3240] [] h3241 := by
    intro n
    induction n with
    | zero => intro v3238 w3240 h3241 q3245; exact absurd q3245 (Nat.not_lt_zero _)
    | succ n i3246 =>
      intro v3238 w3240 h3241 q3245 b3239 j3243 f3242
      have f3247 := Fr.trans hF f3242 (by decide)
      refine x_iload (np := 3) (x := 2) (by decide +kernel) rfl (by first | decide | omega) ?_
      refine x_aload (np := 4) (x := 0) (by decide +kernel) rfl (x_nc_le (by decide)) ?_
      have q3248 : h3241 45 5 = h 45 5 := f3242 45 5 (by decide +kernel)
      have t3249 : tw (h 45 5) := hJ.2.2.2.1
      refine x_getR (np := 7) (x := 69) (f := 5) (q := (h 45 5)) (by decide +kernel) (by decide) (by decide +kernel) q3248 ?_
      have q3250 : h3241 (h 45 5) 7 = h (h 45 5) 7 := jK 0 f3242 (rg_T0_7_0_1 t3249) (by first | decide | omega) (by first | decide | omega) (by decide)
      have b3251 := jB (e := 7) 0 hJ (rg_T0_7_0_1 t3249) (by first | decide | omega) (by first | decide | omega)
      refine x_getC (np := 10) (x := 519) (f := 7) (q := (h (h 45 5) 7)) (by decide +kernel) (by decide) (tg_0_519_7_0 t3249) q3250 (fun l3252 => ?_)
      refine x_icmp (k := 3) (tg := 62) (np := 13) (by decide +kernel) (by decide) (by first | decide | omega) l3252 (fun q3253 => ?_) (fun q3254 => ?_)
      · have q3253 : (h (h 45 5) 7) ≤ v3238 := q3253
        refine x_retV (np := 63) (x := 0) (by decide +kernel) (by decide +kernel) ⟨rfl, ?_⟩
        exact ⟨j3243, f3247⟩
      have q3254 : ¬ ((h (h 45 5) 7) ≤ v3238) := q3254
      refine x_const (np := 14) (x := 9223372039002259456) (a := 2147483648) (by decide +kernel) (by decide) (by decide) ?_
      refine x_istore (np := 15) (x := 3) (lo' := [x_r 45, iv_c a1, iv_c v3238, iv_c 2147483648]) (by decide +kernel) (by decide) (Nat.le_of_ble_eq_true rfl) rfl ?_
      have p3752 : ∀ (n : Nat) (v3750 : Nat), 4294967296 - v3750 < n → (2147483648 ≤ v3750 ∧ v3750 ≤ 2147483668) → X sc 17 (d + 2) (xV fun h' => J h' ∧ Fr 5121 h h') 0 0 15 [x_r 45, iv_c a1, iv_c v3238, iv_c v3750] [] h3241 := by
        intro n
        induction n with
        | zero => intro v3750 q3753; exact absurd q3753 (Nat.not_lt_zero _)
        | succ n i3754 =>
          intro v3750 q3753 b3751
          refine x_iload (np := 16) (x := 3) (by decide +kernel) rfl (by first | decide | omega) ?_
          refine x_aload (np := 17) (x := 0) (by decide +kernel) rfl (x_nc_le (by decide)) ?_
          have q3755 : h3241 45 12 = 57 := by have z := jB (e := 12) 0 j3243 rg_45_12_0_1 (by decide) (by decide); omega
          refine x_getR (np := 20) (x := 76) (f := 12) (q := 57) (by decide +kernel) (by decide) (by decide +kernel) q3755 ?_
          refine x_iload (np := 21) (x := 2) (by decide +kernel) rfl (by first | decide | omega) ?_
          obtain ⟨u3756, q3757⟩ : ∃ z, v3238 = 2147483648 + z := ⟨v3238 - 2147483648, by first | decide | omega⟩
          have b3758 := jB (e := u3756) u3756 j3243 rg_57_0_1_6 (by first | decide | omega) (by first | decide | omega)
          refine x_aldC (np := 22) (x := 0) (n := 6) (i := u3756) (q := (h3241 57 u3756)) (by decide +kernel) (by decide +kernel) (by first | decide | omega) (by first | decide | omega) (by decide) rfl (fun l3759 => ?_)
          refine x_icmp (k := 3) (tg := 56) (np := 25) (by decide +kernel) (by decide) (by first | decide | omega) l3759 (fun q3760 => ?_) (fun q3761 => ?_)
          · have q3760 : (h3241 57 u3756) ≤ v3750 := q3760
            refine x_iinc (np := 59) (i := 2) (j := 2147483649) (v := (1 + v3238)) (lo' := [x_r 45, iv_c a1, iv_c (1 + v3238), iv_c v3750]) (by decide +kernel) (by decide) (by decide) rfl (by first | decide | omega) (by first | decide | omega) (by first | decide | omega) rfl ?_
            refine x_goto (np := 62) (x := 2) (by decide +kernel) ?_
            exact i3246 (1 + v3238) (iv_c v3750) h3241 (by first | decide | omega) (by first | decide | omega) j3243 f3242
          have q3761 : ¬ ((h3241 57 u3756) ≤ v3750) := q3761
          refine x_iload (np := 26) (x := 1) (by decide +kernel) rfl la1 ?_
          refine x_aload (np := 27) (x := 0) (by decide +kernel) rfl (x_nc_le (by decide)) ?_
          have q3762 : h3241 45 10 = 55 := by have z := jB (e := 10) 0 j3243 rg_45_10_0_1 (by decide) (by decide); omega
          refine x_getR (np := 30) (x := 74) (f := 10) (q := 55) (by decide +kernel) (by decide) (by decide +kernel) q3762 ?_
          refine x_aload (np := 31) (x := 0) (by decide +kernel) rfl (x_nc_le (by decide)) ?_
          refine x_iload (np := 32) (x := 2) (by decide +kernel) rfl (by first | decide | omega) ?_
          refine x_iload (np := 33) (x := 3) (by decide +kernel) rfl (by first | decide | omega) ?_
          refine x_nI (t := 6) (mj := 33) (n := 3) (rc := 2) (ml := 3) (nr := 2) (np := 36) (as := [x_r 45, iv_c v3238, iv_c v3750]) (rest := [x_r 55, iv_c a1]) (lo1 := [x_r 45, iv_c v3238, iv_c v3750]) (by decide +kernel) (by decide) (by decide +kernel) (x_rb_of (by decide +kernel)) rfl rfl (x_wr (by decide) (x_wi (by first | decide | omega) (x_wi (by first | decide | omega) x_wn))) (x_wr (by decide) (x_wi la1 x_wn)) (by decide) rfl ?_
          refine x_aload (np := 1) (x := 0) (by decide +kernel) rfl (x_nc_le (by decide)) ?_
          have q3763 : h3241 45 11 = 56 := by have z := jB (e := 11) 0 j3243 rg_45_11_0_1 (by decide) (by decide); omega
          refine x_getR (np := 4) (x := 75) (f := 11) (q := 56) (by decide +kernel) (by decide) (by decide +kernel) q3763 ?_
          refine x_iload (np := 5) (x := 1) (by decide +kernel) rfl (by first | decide | omega) ?_
          refine x_const (np := 7) (x := 9223372124901605396) (a := 2147483668) (by decide +kernel) (by decide) (by decide) ?_
          refine x_imul (np := 8) (x := 0) (i := u3756) (j := 20) (v := (2147483648 + 20 * u3756)) (by decide +kernel) (by first | decide | omega) (by first | decide | omega) (by first | decide | omega) (by first | decide | omega) (by first | decide | omega) (by decide) ?_
          refine x_iload (np := 9) (x := 2) (by decide +kernel) rfl (by first | decide | omega) ?_
          refine x_iadd (np := 10) (x := 0) (v := (20 * u3756 + v3750)) (by decide +kernel) (by first | decide | omega) (by first | decide | omega) (by first | decide | omega) (by first | decide | omega) ?_
          obtain ⟨u3765, q3766⟩ : ∃ z, v3750 = 2147483648 + z := ⟨v3750 - 2147483648, by first | decide | omega⟩
          have q3767 : h3241 56 (20 * u3756 + u3765) = h 56 (20 * u3756 + u3765) := jK (20 * u3756 + u3765) f3242 rg_56_0_1_120 (by first | decide | omega) (by first | decide | omega) (by decide)
          have b3768 := jB (e := (20 * u3756 + u3765)) (20 * u3756 + u3765) hJ rg_56_0_1_120 (by first | decide | omega) (by first | decide | omega)
          refine x_aldC (np := 11) (x := 0) (n := 120) (i := (20 * u3756 + u3765)) (q := ((h 56 (20 * u3756 + u3765)))) (by decide +kernel) (by decide +kernel) (by first | decide | omega) (by first | decide | omega) (by decide) q3767 (fun l3769 => ?_)
          refine x_retI (np := 12) (x := 0) (by decide +kernel) l3769 (Or.inl (by decide +kernel)) ⟨_, rfl, l3769, ?_⟩
          obtain ⟨u3770, q3771⟩ : ∃ z, ((h 56 (20 * u3756 + u3765))) = 2147483648 + z := ⟨((h 56 (20 * u3756 + u3765))) - 2147483648, by first | decide | omega⟩
          refine x_aldC (np := 37) (x := 0) (n := 20) (i := u3770) (q := (h3241 55 u3770)) (by decide +kernel) (by decide +kernel) (by first | decide | omega) (by first | decide | omega) (by decide) rfl (fun l3772 => ?_)
          refine x_icmp (k := 5) (tg := 50) (np := 40) (by decide +kernel) (by decide) la1 l3772 (fun q3773 => ?_) (fun q3774 => ?_)
          · have q3773 : a1 ≤ (h3241 55 u3770) := q3773
            refine x_iinc (np := 53) (i := 3) (j := 2147483649) (v := (1 + v3750)) (lo' := [x_r 45, iv_c a1, iv_c v3238, iv_c (1 + v3750)]) (by decide +kernel) (by decide) (by decide) rfl (by first | decide | omega) (by first | decide | omega) (by first | decide | omega) rfl ?_
            refine x_goto (np := 56) (x := 15) (by decide +kernel) ?_
            exact i3754 (1 + v3750) (by first | decide | omega) (by first | decide | omega)
          have q3774 : ¬ (a1 ≤ (h3241 55 u3770)) := q3774
          refine x_aload (np := 41) (x := 0) (by decide +kernel) rfl (x_nc_le (by decide)) ?_
          refine x_iload (np := 42) (x := 2) (by decide +kernel) rfl (by first | decide | omega) ?_
          refine x_iload (np := 43) (x := 3) (by decide +kernel) rfl (by first | decide | omega) ?_
          refine x_iload (np := 44) (x := 1) (by decide +kernel) rfl la1 ?_
          refine x_cV (t := 6) (mj := 18) (n := 4) (rc := 2) (ml := 5) (nr := 0) (np := 47) (as := [x_r 45, iv_c v3238, iv_c v3750, iv_c a1]) (rest := []) (lo1 := [x_r 45, iv_c v3238, iv_c v3750, iv_c a1, 147573952589676412928]) (by decide +kernel) (by decide) (by decide +kernel) (x_rb_of (by decide +kernel)) rfl rfl (x_wr (by decide) (x_wi (by first | decide | omega) (x_wi (by first | decide | omega) (x_wi la1 x_wn)))) x_wn (by decide) rfl (c18_45 j3243  (by first | decide | omega) (by first | decide | omega) (by first | decide | omega)) (fun h3778 q3777 => ?_)
          obtain ⟨j3779, f3780⟩ := q3777
          have f3783 := Fr.trans f3247 f3780 (by decide)
          have f3784 := Fr.trans f3242 f3780 (by decide)
          refine x_goto (np := 50) (x := 56) (by decide +kernel) ?_
          refine x_iinc (np := 59) (i := 2) (j := 2147483649) (v := (1 + v3238)) (lo' := [x_r 45, iv_c a1, iv_c (1 + v3238), iv_c v3750]) (by decide +kernel) (by decide) (by decide) rfl (by first | decide | omega) (by first | decide | omega) (by first | decide | omega) rfl ?_
          refine x_goto (np := 62) (x := 2) (by decide +kernel) ?_
          exact i3246 (1 + v3238) (iv_c v3750) h3778 (by first | decide | omega) (by first | decide | omega) j3779 f3784
      exact p3752 _ 2147483648 (Nat.lt_succ_self _) (by first | decide | omega)
  exact p3244 _ 2147483648 147573952589676412928 h (Nat.lt_succ_self _) (by first | decide | omega) hJ (Fr.refl _ _)
set_option maxHeartbeats 0 in
/-- LentNames$Table.at(II)I -/
theorem c68_T1_c5 {sc : Nat × Nat} {d ra0 a1 : Nat} {h : xh} (hJ : J h) (ta0 : tw ra0) (ba1 : 2147483648 ≤ a1 ∧ a1 ≤ 2147483667) : X sc 68 d (xI fun r h' => h' = h ∧ (0 ≤ r ∧ r ≤ 4294967295)) 0 0 0 [x_r (ra0 + 1), iv_c a1, iv_c 2147483653, 147573952589676412928] [] h := by
  have la1 : a1 < 4294967296 := by first | decide | omega
  refine x_iload (np := 1) (x := 1) (by decide +kernel) rfl la1 ?_
  refine x_ifz (k := 2) (tg := 28) (np := 4) (by decide +kernel) (by decide) la1 (fun q1 => ?_) (fun q2 => ?_)
  · have q1 : a1 < 2147483648 := q1
    exfalso; omega
  have q2 : ¬ (a1 < 2147483648) := q2
  refine x_iload (np := 5) (x := 1) (by decide +kernel) rfl la1 ?_
  refine x_aload (np := 6) (x := 0) (by decide +kernel) rfl (x_nc_le (tn_1 ta0)) ?_
  have b3 := jB (e := 2) 0 hJ (rg_T1_2_0_1 ta0) (by first | decide | omega) (by first | decide | omega)
  refine x_getC (np := 9) (x := 386) (f := 2) (q := (h (ra0 + 1) 2)) (by decide +kernel) (by decide) (tg_1_386_2_0 ta0) rfl (fun l4 => ?_)
  refine x_icmp (k := 3) (tg := 28) (np := 12) (by decide +kernel) (by decide) la1 l4 (fun q5 => ?_) (fun q6 => ?_)
  · have q5 : (h (ra0 + 1) 2) ≤ a1 := q5
    refine x_const (np := 29) (x := 9223372039002259456) (a := 2147483648) (by decide +kernel) (by decide) (by decide) ?_
    refine x_istore (np := 30) (x := 3) (lo' := [x_r (ra0 + 1), iv_c a1, iv_c 2147483653, iv_c 2147483648]) (by decide +kernel) (by decide) (Nat.le_of_ble_eq_true rfl) rfl ?_
    refine x_iload (np := 31) (x := 3) (by decide +kernel) rfl (by decide) ?_
    refine x_ifz (k := 0) (tg := 50) (np := 34) (by decide +kernel) (by decide) (by decide) (fun q7 => ?_) (fun q8 => ?_)
    · have q7 : 2147483648 = 2147483648 := q7
      refine x_const (np := 51) (x := 9223372034707292159) (a := 2147483647) (by decide +kernel) (by decide) (by decide) ?_
      refine x_retI (np := 52) (x := 0) (by decide +kernel) (by decide) (Or.inl (by decide +kernel)) ⟨_, rfl, (by decide), ?_⟩
      exact ⟨rfl, (by first | decide | omega)⟩
    have q8 : ¬ (2147483648 = 2147483648) := q8
    exfalso; omega
  have q6 : ¬ ((h (ra0 + 1) 2) ≤ a1) := q6
  refine x_iload (np := 13) (x := 2) (by decide +kernel) rfl (by decide) ?_
  refine x_ifz (k := 2) (tg := 28) (np := 16) (by decide +kernel) (by decide) (by decide) (fun q9 => ?_) (fun q10 => ?_)
  · have q9 : 2147483653 < 2147483648 := q9
    exfalso; omega
  have q10 : ¬ (2147483653 < 2147483648) := q10
  refine x_iload (np := 17) (x := 2) (by decide +kernel) rfl (by decide) ?_
  refine x_aload (np := 18) (x := 0) (by decide +kernel) rfl (x_nc_le (tn_1 ta0)) ?_
  have b11 := jB (e := 0) 0 hJ (rg_T1_0_0_1 ta0) (by first | decide | omega) (by first | decide | omega)
  have q12 : (h (ra0 + 1) 0) = 2147483655 := by first | decide | omega
  refine x_getC (np := 21) (x := 384) (f := 0) (q := 2147483655) (by decide +kernel) (by decide) (tg_1_384_0_0 ta0) q12 (fun l13 => ?_)
  refine x_icmp (k := 3) (tg := 28) (np := 24) (by decide +kernel) (by decide) (by decide) (by decide) (fun q14 => ?_) (fun q15 => ?_)
  · have q14 : 2147483655 ≤ 2147483653 := q14
    exfalso; omega
  have q15 : ¬ (2147483655 ≤ 2147483653) := q15
  refine x_const (np := 25) (x := 9223372043297226753) (a := 2147483649) (by decide +kernel) (by decide) (by decide) ?_
  refine x_goto (np := 28) (x := 29) (by decide +kernel) ?_
  refine x_istore (np := 30) (x := 3) (lo' := [x_r (ra0 + 1), iv_c a1, iv_c 2147483653, iv_c 2147483649]) (by decide +kernel) (by decide) (Nat.le_of_ble_eq_true rfl) rfl ?_
  refine x_iload (np := 31) (x := 3) (by decide +kernel) rfl (by decide) ?_
  refine x_ifz (k := 0) (tg := 50) (np := 34) (by decide +kernel) (by decide) (by decide) (fun q16 => ?_) (fun q17 => ?_)
  · have q16 : 2147483649 = 2147483648 := q16
    exfalso; omega
  have q17 : ¬ (2147483649 = 2147483648) := q17
  refine x_aload (np := 35) (x := 0) (by decide +kernel) rfl (x_nc_le (tn_1 ta0)) ?_
  have q18 : h (ra0 + 1) 1 = (ra0 + 2) := tf_1_1 hJ ta0
  refine x_getR (np := 38) (x := 385) (f := 1) (q := (ra0 + 2)) (by decide +kernel) (by decide) (tg_1_385_1_1 ta0) q18 ?_
  refine x_iload (np := 39) (x := 1) (by decide +kernel) rfl la1 ?_
  refine x_aload (np := 40) (x := 0) (by decide +kernel) rfl (x_nc_le (tn_1 ta0)) ?_
  refine x_getC (np := 43) (x := 384) (f := 0) (q := 2147483655) (by decide +kernel) (by decide) (tg_1_384_0_0 ta0) q12 (fun l19 => ?_)
  obtain ⟨u20, q21⟩ : ∃ z, a1 = 2147483648 + z := ⟨a1 - 2147483648, by first | decide | omega⟩
  refine x_imul (np := 44) (x := 0) (i := u20) (j := 7) (v := (2147483648 + 7 * u20)) (by decide +kernel) (by first | decide | omega) (by first | decide | omega) (by first | decide | omega) (by first | decide | omega) la1 (by decide) ?_
  refine x_iload (np := 45) (x := 2) (by decide +kernel) rfl (by decide) ?_
  refine x_iadd (np := 46) (x := 0) (v := (2147483653 + 7 * u20)) (by decide +kernel) (by first | decide | omega) (by decide) (by first | decide | omega) (by first | decide | omega) ?_
  refine x_aldC (np := 47) (x := 0) (n := 140) (i := (5 + 7 * u20)) (q := ((h (ra0 + 2) (5 + 7 * u20)))) (by decide +kernel) (ta_2_140 ta0) (by first | decide | omega) (by first | decide | omega) (by decide) rfl (fun l23 => ?_)
  refine x_goto (np := 50) (x := 51) (by decide +kernel) ?_
  refine x_retI (np := 52) (x := 0) (by decide +kernel) l23 (Or.inl (by decide +kernel)) ⟨_, rfl, l23, ?_⟩
  exact ⟨rfl, (by first | decide | omega)⟩
set_option maxHeartbeats 0 in
/-- LentNames$Calendar.chargePledges(I)V -/
theorem c20_45 {sc : Nat × Nat} {d a1 : Nat} {h : xh} (hJ : J h) (ba1 : 2147483648 ≤ a1 ∧ a1 ≤ 2147483659) : X sc 20 (d + 1) (xV fun h' => J h' ∧ Fr 1025 h h') 0 0 0 [x_r 45, iv_c a1, 147573952589676412928, 147573952589676412928, 147573952589676412928] [] h := by
  have la1 : a1 < 4294967296 := by first | decide | omega
  have hF := Fr.refl 1025 h
  refine x_const (np := 1) (x := 9223372039002259456) (a := 2147483648) (by decide +kernel) (by decide) (by decide) ?_
  refine x_istore (np := 2) (x := 2) (lo' := [x_r 45, iv_c a1, iv_c 2147483648, 147573952589676412928, 147573952589676412928]) (by decide +kernel) (by decide) (Nat.le_of_ble_eq_true rfl) rfl ?_
  have p4619 : ∀ (n : Nat) (v4612 : Nat) (w4614 : Nat) (w4615 : Nat) (h4616 : xh), 4294967296 - v4612 < n → (2147483648 ≤ v4612 ∧ v4612 ≤ 2147483654) → J h4616 → Fr 1024 h h4616 → X sc 20 (d + 1) (xV fun h' => J h' ∧ Fr 1025 h h') 0 0 2 [x_r 45, iv_c a1, iv_c v4612, w4614, w4615] [] h4616 := by
    intro n
    induction n with
    | zero => intro v4612 w4614 w4615 h4616 q4620; exact absurd q4620 (Nat.not_lt_zero _)
    | succ n i4621 =>
      intro v4612 w4614 w4615 h4616 q4620 b4613 j4618 f4617
      have f4622 := Fr.trans hF f4617 (by decide)
      refine x_iload (np := 3) (x := 2) (by decide +kernel) rfl (by first | decide | omega) ?_
      refine x_aload (np := 4) (x := 0) (by decide +kernel) rfl (x_nc_le (by decide)) ?_
      have q4623 : h4616 45 5 = h 45 5 := f4617 45 5 (by decide +kernel)
      have t4624 : tw (h 45 5) := hJ.2.2.2.1
      refine x_getR (np := 7) (x := 69) (f := 5) (q := (h 45 5)) (by decide +kernel) (by decide) (by decide +kernel) q4623 ?_
      have q4625 : h4616 (h 45 5) 7 = h (h 45 5) 7 := jK 0 f4617 (rg_T0_7_0_1 t4624) (by first | decide | omega) (by first | decide | omega) (by decide)
      have b4626 := jB (e := 7) 0 hJ (rg_T0_7_0_1 t4624) (by first | decide | omega) (by first | decide | omega)
      refine x_getC (np := 10) (x := 519) (f := 7) (q := (h (h 45 5) 7)) (by decide +kernel) (by decide) (tg_0_519_7_0 t4624) q4625 (fun l4627 => ?_)
      refine x_icmp (k := 3) (tg := 79) (np := 13) (by decide +kernel) (by decide) (by first | decide | omega) l4627 (fun q4628 => ?_) (fun q4629 => ?_)
      · have q4628 : (h (h 45 5) 7) ≤ v4612 := q4628
        refine x_retV (np := 80) (x := 0) (by decide +kernel) (by decide +kernel) ⟨rfl, ?_⟩
        exact ⟨j4618, f4622⟩
      have q4629 : ¬ ((h (h 45 5) 7) ≤ v4612) := q4629
      refine x_const (np := 14) (x := 9223372039002259456) (a := 2147483648) (by decide +kernel) (by decide) (by decide) ?_
      refine x_istore (np := 15) (x := 3) (lo' := [x_r 45, iv_c a1, iv_c v4612, iv_c 2147483648, w4615]) (by decide +kernel) (by decide) (Nat.le_of_ble_eq_true rfl) rfl ?_
      have p5349 : ∀ (n : Nat) (v5343 : Nat) (w5345 : Nat) (h5346 : xh), 4294967296 - v5343 < n → (2147483648 ≤ v5343 ∧ v5343 ≤ 2147483668) → J h5346 → Fr 1024 h4616 h5346 → X sc 20 (d + 1) (xV fun h' => J h' ∧ Fr 1025 h h') 0 0 15 [x_r 45, iv_c a1, iv_c v4612, iv_c v5343, w5345] [] h5346 := by
        intro n
        induction n with
        | zero => intro v5343 w5345 h5346 q5350; exact absurd q5350 (Nat.not_lt_zero _)
        | succ n i5351 =>
          intro v5343 w5345 h5346 q5350 b5344 j5348 f5347
          have f5352 := Fr.trans f4622 f5347 (by decide)
          have f5353 := Fr.trans f4617 f5347 (by decide)
          refine x_iload (np := 16) (x := 3) (by decide +kernel) rfl (by first | decide | omega) ?_
          refine x_aload (np := 17) (x := 0) (by decide +kernel) rfl (x_nc_le (by decide)) ?_
          have q5354 : h5346 45 12 = 57 := by have z := jB (e := 12) 0 j5348 rg_45_12_0_1 (by decide) (by decide); omega
          refine x_getR (np := 20) (x := 76) (f := 12) (q := 57) (by decide +kernel) (by decide) (by decide +kernel) q5354 ?_
          refine x_iload (np := 21) (x := 2) (by decide +kernel) rfl (by first | decide | omega) ?_
          obtain ⟨u5355, q5356⟩ : ∃ z, v4612 = 2147483648 + z := ⟨v4612 - 2147483648, by first | decide | omega⟩
          have q5357 : h5346 57 u5355 = h4616 57 u5355 := jK u5355 f5347 rg_57_0_1_6 (by first | decide | omega) (by first | decide | omega) (by decide)
          have q5358 : h4616 57 u5355 = h 57 u5355 := jK u5355 f4617 rg_57_0_1_6 (by first | decide | omega) (by first | decide | omega) (by decide)
          have b5359 := jB (e := u5355) u5355 hJ rg_57_0_1_6 (by first | decide | omega) (by first | decide | omega)
          refine x_aldC (np := 22) (x := 0) (n := 6) (i := u5355) (q := (h 57 u5355)) (by decide +kernel) (by decide +kernel) (by first | decide | omega) (by first | decide | omega) (by decide) (q5357.trans q5358) (fun l5360 => ?_)
          refine x_icmp (k := 3) (tg := 73) (np := 25) (by decide +kernel) (by decide) (by first | decide | omega) l5360 (fun q5361 => ?_) (fun q5362 => ?_)
          · have q5361 : (h 57 u5355) ≤ v5343 := q5361
            refine x_iinc (np := 76) (i := 2) (j := 2147483649) (v := (1 + v4612)) (lo' := [x_r 45, iv_c a1, iv_c (1 + v4612), iv_c v5343, w5345]) (by decide +kernel) (by decide) (by decide) rfl (by first | decide | omega) (by first | decide | omega) (by first | decide | omega) rfl ?_
            refine x_goto (np := 79) (x := 2) (by decide +kernel) ?_
            exact i4621 (1 + v4612) (iv_c v5343) w5345 h5346 (by first | decide | omega) (by first | decide | omega) j5348 f5353
          have q5362 : ¬ ((h 57 u5355) ≤ v5343) := q5362
          refine x_aload (np := 26) (x := 0) (by decide +kernel) rfl (x_nc_le (by decide)) ?_
          refine x_iload (np := 27) (x := 2) (by decide +kernel) rfl (by first | decide | omega) ?_
          refine x_iload (np := 28) (x := 3) (by decide +kernel) rfl (by first | decide | omega) ?_
          refine x_nI (t := 6) (mj := 33) (n := 3) (rc := 2) (ml := 3) (nr := 0) (np := 31) (as := [x_r 45, iv_c v4612, iv_c v5343]) (rest := []) (lo1 := [x_r 45, iv_c v4612, iv_c v5343]) (by decide +kernel) (by decide) (by decide +kernel) (x_rb_of (by decide +kernel)) rfl rfl (x_wr (by decide) (x_wi (by first | decide | omega) (x_wi (by first | decide | omega) x_wn))) x_wn (by decide) rfl ?_
          refine x_aload (np := 1) (x := 0) (by decide +kernel) rfl (x_nc_le (by decide)) ?_
          have q5363 : h5346 45 11 = 56 := by have z := jB (e := 11) 0 j5348 rg_45_11_0_1 (by decide) (by decide); omega
          refine x_getR (np := 4) (x := 75) (f := 11) (q := 56) (by decide +kernel) (by decide) (by decide +kernel) q5363 ?_
          refine x_iload (np := 5) (x := 1) (by decide +kernel) rfl (by first | decide | omega) ?_
          refine x_const (np := 7) (x := 9223372124901605396) (a := 2147483668) (by decide +kernel) (by decide) (by decide) ?_
          refine x_imul (np := 8) (x := 0) (i := u5355) (j := 20) (v := (2147483648 + 20 * u5355)) (by decide +kernel) (by first | decide | omega) (by first | decide | omega) (by first | decide | omega) (by first | decide | omega) (by first | decide | omega) (by decide) ?_
          refine x_iload (np := 9) (x := 2) (by decide +kernel) rfl (by first | decide | omega) ?_
          refine x_iadd (np := 10) (x := 0) (v := (20 * u5355 + v5343)) (by decide +kernel) (by first | decide | omega) (by first | decide | omega) (by first | decide | omega) (by first | decide | omega) ?_
          obtain ⟨u5365, q5366⟩ : ∃ z, v5343 = 2147483648 + z := ⟨v5343 - 2147483648, by first | decide | omega⟩
          have q5367 : h5346 56 (20 * u5355 + u5365) = h4616 56 (20 * u5355 + u5365) := jK (20 * u5355 + u5365) f5347 rg_56_0_1_120 (by first | decide | omega) (by first | decide | omega) (by decide)
          have q5368 : h4616 56 (20 * u5355 + u5365) = h 56 (20 * u5355 + u5365) := jK (20 * u5355 + u5365) f4617 rg_56_0_1_120 (by first | decide | omega) (by first | decide | omega) (by decide)
          have b5369 := jB (e := (20 * u5355 + u5365)) (20 * u5355 + u5365) hJ rg_56_0_1_120 (by first | decide | omega) (by first | decide | omega)
          refine x_aldC (np := 11) (x := 0) (n := 120) (i := (20 * u5355 + u5365)) (q := ((h 56 (20 * u5355 + u5365)))) (by decide +kernel) (by decide +kernel) (by first | decide | omega) (by first | decide | omega) (by decide) (q5367.trans q5368) (fun l5370 => ?_)
          refine x_retI (np := 12) (x := 0) (by decide +kernel) l5370 (Or.inl (by decide +kernel)) ⟨_, rfl, l5370, ?_⟩
          refine x_istore (np := 33) (x := 4) (lo' := [x_r 45, iv_c a1, iv_c v4612, iv_c v5343, iv_c ((h 56 (20 * u5355 + u5365)))]) (by decide +kernel) l5370 (Nat.le_of_ble_eq_true rfl) rfl ?_
          refine x_iload (np := 34) (x := 1) (by decide +kernel) rfl la1 ?_
          refine x_aload (np := 35) (x := 0) (by decide +kernel) rfl (x_nc_le (by decide)) ?_
          have q5371 : h5346 45 9 = 54 := by have z := jB (e := 9) 0 j5348 rg_45_9_0_1 (by decide) (by decide); omega
          refine x_getR (np := 38) (x := 73) (f := 9) (q := 54) (by decide +kernel) (by decide) (by decide +kernel) q5371 ?_
          refine x_iload (np := 40) (x := 4) (by decide +kernel) rfl l5370 ?_
          obtain ⟨u5372, q5373⟩ : ∃ z, ((h 56 (20 * u5355 + u5365))) = 2147483648 + z := ⟨((h 56 (20 * u5355 + u5365))) - 2147483648, by first | decide | omega⟩
          refine x_aldC (np := 41) (x := 0) (n := 20) (i := u5372) (q := (h5346 54 u5372)) (by decide +kernel) (by decide +kernel) (by first | decide | omega) (by first | decide | omega) (by decide) rfl (fun l5374 => ?_)
          refine x_icmp (k := 5) (tg := 67) (np := 44) (by decide +kernel) (by decide) la1 l5374 (fun q5375 => ?_) (fun q5376 => ?_)
          · have q5375 : a1 ≤ (h5346 54 u5372) := q5375
            refine x_iinc (np := 70) (i := 3) (j := 2147483649) (v := (1 + v5343)) (lo' := [x_r 45, iv_c a1, iv_c v4612, iv_c (1 + v5343), iv_c ((h 56 (20 * u5355 + u5365)))]) (by decide +kernel) (by decide) (by decide) rfl (by first | decide | omega) (by first | decide | omega) (by first | decide | omega) rfl ?_
            refine x_goto (np := 73) (x := 15) (by decide +kernel) ?_
            exact i5351 (1 + v5343) (iv_c ((h 56 (20 * u5355 + u5365)))) h5346 (by first | decide | omega) (by first | decide | omega) j5348 f5347
          have q5376 : ¬ (a1 ≤ (h5346 54 u5372)) := q5376
          refine x_aload (np := 45) (x := 0) (by decide +kernel) rfl (x_nc_le (by decide)) ?_
          have q5377 : h5346 45 4 = 50 := by have z := jB (e := 4) 0 j5348 rg_45_4_0_1 (by decide) (by decide); omega
          refine x_getR (np := 48) (x := 68) (f := 4) (q := 50) (by decide +kernel) (by decide) (by decide +kernel) q5377 ?_
          refine x_iload (np := 50) (x := 4) (by decide +kernel) rfl l5370 ?_
          refine x_dup2 (np := 51) (x := 0) (by decide +kernel) (by have z := (iw_c_lt (a := ((h 56 (20 * u5355 + u5365)))) l5370).1; omega) (by have z := x_nc_le (k := 50) (by decide); unfold x_r; omega) ?_
          refine x_aldC (np := 52) (x := 0) (n := 20) (i := u5372) (q := (h5346 50 u5372)) (by decide +kernel) (by decide +kernel) (by first | decide | omega) (by first | decide | omega) (by decide) rfl (fun l5378 => ?_)
          refine x_aload (np := 53) (x := 0) (by decide +kernel) rfl (x_nc_le (by decide)) ?_
          have q5379 : h5346 45 5 = h4616 45 5 := f5347 45 5 (by decide +kernel)
          have q5380 : h4616 45 5 = h 45 5 := f4617 45 5 (by decide +kernel)
          refine x_getR (np := 56) (x := 69) (f := 5) (q := (h 45 5)) (by decide +kernel) (by decide) (by decide +kernel) (q5379.trans q5380) ?_
          have q5381 : h5346 (h 45 5) 0 = ((h 45 5) + 1) := tf_0_0 j5348 t4624
          refine x_getR (np := 59) (x := 512) (f := 0) (q := ((h 45 5) + 1)) (by decide +kernel) (by decide) (tg_0_512_0_1 t4624) q5381 ?_
          refine x_iload (np := 61) (x := 4) (by decide +kernel) rfl l5370 ?_
          refine x_const (np := 62) (x := 9223372060477095941) (a := 2147483653) (by decide +kernel) (by decide) (by decide) ?_
          refine x_cP (t := 6) (mj := 68) (n := 3) (rc := 7) (ml := 4) (nr := 3) (np := 65) (as := [x_r ((h 45 5) + 1), iv_c ((h 56 (20 * u5355 + u5365))), iv_c 2147483653]) (rest := [iv_c (h5346 50 u5372), iv_c ((h 56 (20 * u5355 + u5365))), x_r 50]) (lo1 := [x_r ((h 45 5) + 1), iv_c ((h 56 (20 * u5355 + u5365))), iv_c 2147483653, 147573952589676412928]) (by decide +kernel) (by decide) (by decide +kernel) (x_rb_of (tr_1_7 t4624)) rfl rfl (x_wr (tn_1 t4624) (x_wi l5370 (x_wi (by decide) x_wn))) (x_wi l5378 (x_wi l5370 (x_wr (by decide) x_wn))) (by decide) rfl (c68_T1_c5 j5348 t4624 (by first | decide | omega) ) (fun v5385 l5386 q5387 => ?_)
          refine x_addA (by rw [tb_b20]; decide +kernel) l5378 l5386 (fun v5388 l5389 => ?_)
          refine x_ast (np := 67) (x := 0) (kd := 1) (n := 20) (i := u5372) (by decide +kernel) (Or.inl rfl) (by decide +kernel) (by first | decide | omega) (by first | decide | omega) (by decide) l5389 (fun z => absurd z (by decide)) ?_
          have j5391 := jU (e := u5372) (v := v5388) u5372 j5348 rg_50_0_1_20 (by first | decide | omega) (by first | decide | omega) (by first | decide | omega)
          have f5393 := jF (e := u5372) (v := v5388) u5372 f5352 rg_50_0_1_20 (by first | decide | omega) (by first | decide | omega) (by decide)
          have f5394 := jF (e := u5372) (v := v5388) u5372 f5353 rg_50_0_1_20 (by first | decide | omega) (by first | decide | omega) (by decide)
          have f5395 := jF (e := u5372) (v := v5388) u5372 f5347 rg_50_0_1_20 (by first | decide | omega) (by first | decide | omega) (by decide)
          generalize e5392 : x_up h5346 50 u5372 v5388 = h5390 at j5391 f5393 f5394 f5395 ⊢
          refine x_iinc (np := 70) (i := 3) (j := 2147483649) (v := (1 + v5343)) (lo' := [x_r 45, iv_c a1, iv_c v4612, iv_c (1 + v5343), iv_c ((h 56 (20 * u5355 + u5365)))]) (by decide +kernel) (by decide) (by decide) rfl (by first | decide | omega) (by first | decide | omega) (by first | decide | omega) rfl ?_
          refine x_goto (np := 73) (x := 15) (by decide +kernel) ?_
          exact i5351 (1 + v5343) (iv_c ((h 56 (20 * u5355 + u5365)))) h5390 (by first | decide | omega) (by first | decide | omega) j5391 f5395
      exact p5349 _ 2147483648 w4615 h4616 (Nat.lt_succ_self _) (by first | decide | omega) j4618 (Fr.refl _ _)
  exact p4619 _ 2147483648 147573952589676412928 147573952589676412928 h (Nat.lt_succ_self _) (by first | decide | omega) hJ (Fr.refl _ _)
set_option maxHeartbeats 0 in
/-- LentNames$Table.at(II)I -/
theorem c68_T1_c1 {sc : Nat × Nat} {d ra0 a1 : Nat} {h : xh} (hJ : J h) (ta0 : tw ra0) (ba1 : 2147483648 ≤ a1 ∧ a1 ≤ 2147483667) : X sc 68 d (xI fun r h' => h' = h ∧ (0 ≤ r ∧ r ≤ 4294967295)) 0 0 0 [x_r (ra0 + 1), iv_c a1, iv_c 2147483649, 147573952589676412928] [] h := by
  have la1 : a1 < 4294967296 := by first | decide | omega
  refine x_iload (np := 1) (x := 1) (by decide +kernel) rfl la1 ?_
  refine x_ifz (k := 2) (tg := 28) (np := 4) (by decide +kernel) (by decide) la1 (fun q1 => ?_) (fun q2 => ?_)
  · have q1 : a1 < 2147483648 := q1
    exfalso; omega
  have q2 : ¬ (a1 < 2147483648) := q2
  refine x_iload (np := 5) (x := 1) (by decide +kernel) rfl la1 ?_
  refine x_aload (np := 6) (x := 0) (by decide +kernel) rfl (x_nc_le (tn_1 ta0)) ?_
  have b3 := jB (e := 2) 0 hJ (rg_T1_2_0_1 ta0) (by first | decide | omega) (by first | decide | omega)
  refine x_getC (np := 9) (x := 386) (f := 2) (q := (h (ra0 + 1) 2)) (by decide +kernel) (by decide) (tg_1_386_2_0 ta0) rfl (fun l4 => ?_)
  refine x_icmp (k := 3) (tg := 28) (np := 12) (by decide +kernel) (by decide) la1 l4 (fun q5 => ?_) (fun q6 => ?_)
  · have q5 : (h (ra0 + 1) 2) ≤ a1 := q5
    refine x_const (np := 29) (x := 9223372039002259456) (a := 2147483648) (by decide +kernel) (by decide) (by decide) ?_
    refine x_istore (np := 30) (x := 3) (lo' := [x_r (ra0 + 1), iv_c a1, iv_c 2147483649, iv_c 2147483648]) (by decide +kernel) (by decide) (Nat.le_of_ble_eq_true rfl) rfl ?_
    refine x_iload (np := 31) (x := 3) (by decide +kernel) rfl (by decide) ?_
    refine x_ifz (k := 0) (tg := 50) (np := 34) (by decide +kernel) (by decide) (by decide) (fun q7 => ?_) (fun q8 => ?_)
    · have q7 : 2147483648 = 2147483648 := q7
      refine x_const (np := 51) (x := 9223372034707292159) (a := 2147483647) (by decide +kernel) (by decide) (by decide) ?_
      refine x_retI (np := 52) (x := 0) (by decide +kernel) (by decide) (Or.inl (by decide +kernel)) ⟨_, rfl, (by decide), ?_⟩
      exact ⟨rfl, (by first | decide | omega)⟩
    have q8 : ¬ (2147483648 = 2147483648) := q8
    exfalso; omega
  have q6 : ¬ ((h (ra0 + 1) 2) ≤ a1) := q6
  refine x_iload (np := 13) (x := 2) (by decide +kernel) rfl (by decide) ?_
  refine x_ifz (k := 2) (tg := 28) (np := 16) (by decide +kernel) (by decide) (by decide) (fun q9 => ?_) (fun q10 => ?_)
  · have q9 : 2147483649 < 2147483648 := q9
    exfalso; omega
  have q10 : ¬ (2147483649 < 2147483648) := q10
  refine x_iload (np := 17) (x := 2) (by decide +kernel) rfl (by decide) ?_
  refine x_aload (np := 18) (x := 0) (by decide +kernel) rfl (x_nc_le (tn_1 ta0)) ?_
  have b11 := jB (e := 0) 0 hJ (rg_T1_0_0_1 ta0) (by first | decide | omega) (by first | decide | omega)
  have q12 : (h (ra0 + 1) 0) = 2147483655 := by first | decide | omega
  refine x_getC (np := 21) (x := 384) (f := 0) (q := 2147483655) (by decide +kernel) (by decide) (tg_1_384_0_0 ta0) q12 (fun l13 => ?_)
  refine x_icmp (k := 3) (tg := 28) (np := 24) (by decide +kernel) (by decide) (by decide) (by decide) (fun q14 => ?_) (fun q15 => ?_)
  · have q14 : 2147483655 ≤ 2147483649 := q14
    exfalso; omega
  have q15 : ¬ (2147483655 ≤ 2147483649) := q15
  refine x_const (np := 25) (x := 9223372043297226753) (a := 2147483649) (by decide +kernel) (by decide) (by decide) ?_
  refine x_goto (np := 28) (x := 29) (by decide +kernel) ?_
  refine x_istore (np := 30) (x := 3) (lo' := [x_r (ra0 + 1), iv_c a1, iv_c 2147483649, iv_c 2147483649]) (by decide +kernel) (by decide) (Nat.le_of_ble_eq_true rfl) rfl ?_
  refine x_iload (np := 31) (x := 3) (by decide +kernel) rfl (by decide) ?_
  refine x_ifz (k := 0) (tg := 50) (np := 34) (by decide +kernel) (by decide) (by decide) (fun q16 => ?_) (fun q17 => ?_)
  · have q16 : 2147483649 = 2147483648 := q16
    exfalso; omega
  have q17 : ¬ (2147483649 = 2147483648) := q17
  refine x_aload (np := 35) (x := 0) (by decide +kernel) rfl (x_nc_le (tn_1 ta0)) ?_
  have q18 : h (ra0 + 1) 1 = (ra0 + 2) := tf_1_1 hJ ta0
  refine x_getR (np := 38) (x := 385) (f := 1) (q := (ra0 + 2)) (by decide +kernel) (by decide) (tg_1_385_1_1 ta0) q18 ?_
  refine x_iload (np := 39) (x := 1) (by decide +kernel) rfl la1 ?_
  refine x_aload (np := 40) (x := 0) (by decide +kernel) rfl (x_nc_le (tn_1 ta0)) ?_
  refine x_getC (np := 43) (x := 384) (f := 0) (q := 2147483655) (by decide +kernel) (by decide) (tg_1_384_0_0 ta0) q12 (fun l19 => ?_)
  obtain ⟨u20, q21⟩ : ∃ z, a1 = 2147483648 + z := ⟨a1 - 2147483648, by first | decide | omega⟩
  refine x_imul (np := 44) (x := 0) (i := u20) (j := 7) (v := (2147483648 + 7 * u20)) (by decide +kernel) (by first | decide | omega) (by first | decide | omega) (by first | decide | omega) (by first | decide | omega) la1 (by decide) ?_
  refine x_iload (np := 45) (x := 2) (by decide +kernel) rfl (by decide) ?_
  refine x_iadd (np := 46) (x := 0) (v := (2147483649 + 7 * u20)) (by decide +kernel) (by first | decide | omega) (by decide) (by first | decide | omega) (by first | decide | omega) ?_
  refine x_aldC (np := 47) (x := 0) (n := 140) (i := (1 + 7 * u20)) (q := ((h (ra0 + 2) (1 + 7 * u20)))) (by decide +kernel) (ta_2_140 ta0) (by first | decide | omega) (by first | decide | omega) (by decide) rfl (fun l23 => ?_)
  refine x_goto (np := 50) (x := 51) (by decide +kernel) ?_
  refine x_retI (np := 52) (x := 0) (by decide +kernel) l23 (Or.inl (by decide +kernel)) ⟨_, rfl, l23, ?_⟩
  exact ⟨rfl, (by first | decide | omega)⟩
set_option maxHeartbeats 0 in
/-- LentNames$Calendar.lastOf(I)I -/
theorem c32_45 {sc : Nat × Nat} {d a1 : Nat} {h : xh} (hJ : J h) (ba1 : 2147483648 ≤ a1 ∧ a1 ≤ 2147483653) : X sc 32 (d + 1) (xI fun r h' => h' = h ∧ (0 ≤ r ∧ r ≤ 4294967295)) 0 0 0 [x_r 45, iv_c a1] [] h := by
  have la1 : a1 < 4294967296 := by first | decide | omega
  refine x_aload (np := 1) (x := 0) (by decide +kernel) rfl (x_nc_le (by decide)) ?_
  have q1 : h 45 12 = 57 := by have z := jB (e := 12) 0 hJ rg_45_12_0_1 (by decide) (by decide); omega
  refine x_getR (np := 4) (x := 76) (f := 12) (q := 57) (by decide +kernel) (by decide) (by decide +kernel) q1 ?_
  refine x_iload (np := 5) (x := 1) (by decide +kernel) rfl la1 ?_
  obtain ⟨u2, q3⟩ : ∃ z, a1 = 2147483648 + z := ⟨a1 - 2147483648, by first | decide | omega⟩
  have b4 := jB (e := u2) u2 hJ rg_57_0_1_6 (by first | decide | omega) (by first | decide | omega)
  refine x_aldC (np := 6) (x := 0) (n := 6) (i := u2) (q := (h 57 u2)) (by decide +kernel) (by decide +kernel) (by first | decide | omega) (by first | decide | omega) (by decide) rfl (fun l5 => ?_)
  refine x_ifz (k := 1) (tg := 13) (np := 9) (by decide +kernel) (by decide) l5 (fun q6 => ?_) (fun q7 => ?_)
  · have q6 : (h 57 u2) ≠ 2147483648 := q6
    refine x_aload (np := 14) (x := 0) (by decide +kernel) rfl (x_nc_le (by decide)) ?_
    have t8 : tw (h 45 5) := hJ.2.2.2.1
    refine x_getR (np := 17) (x := 69) (f := 5) (q := (h 45 5)) (by decide +kernel) (by decide) (by decide +kernel) rfl ?_
    have q9 : h (h 45 5) 0 = ((h 45 5) + 1) := tf_0_0 hJ t8
    refine x_getR (np := 20) (x := 512) (f := 0) (q := ((h 45 5) + 1)) (by decide +kernel) (by decide) (tg_0_512_0_1 t8) q9 ?_
    refine x_aload (np := 21) (x := 0) (by decide +kernel) rfl (x_nc_le (by decide)) ?_
    refine x_iload (np := 22) (x := 1) (by decide +kernel) rfl la1 ?_
    refine x_aload (np := 23) (x := 0) (by decide +kernel) rfl (x_nc_le (by decide)) ?_
    have q10 : h 45 12 = 57 := by have z := jB (e := 12) 0 hJ rg_45_12_0_1 (by decide) (by decide); omega
    refine x_getR (np := 26) (x := 76) (f := 12) (q := 57) (by decide +kernel) (by decide) (by decide +kernel) q10 ?_
    refine x_iload (np := 27) (x := 1) (by decide +kernel) rfl la1 ?_
    refine x_aldC (np := 28) (x := 0) (n := 6) (i := u2) (q := (h 57 u2)) (by decide +kernel) (by decide +kernel) (by first | decide | omega) (by first | decide | omega) (by decide) rfl (fun l11 => ?_)
    refine x_const (np := 29) (x := 9223372043297226753) (a := 2147483649) (by decide +kernel) (by decide) (by decide) ?_
    obtain ⟨v12, q13⟩ : ∃ z, z + 2147483649 = (h 57 u2) + 2147483648 := ⟨(h 57 u2) + 2147483648 - 2147483649, by first | decide | omega⟩
    refine x_isub (np := 30) (x := 0) (v := v12) (by decide +kernel) l5 (by decide) (by first | decide | omega) (by first | decide | omega) ?_
    refine x_nI (t := 6) (mj := 33) (n := 3) (rc := 2) (ml := 3) (nr := 1) (np := 33) (as := [x_r 45, iv_c a1, iv_c v12]) (rest := [x_r ((h 45 5) + 1)]) (lo1 := [x_r 45, iv_c a1, iv_c v12]) (by decide +kernel) (by decide) (by decide +kernel) (x_rb_of (by decide +kernel)) rfl rfl (x_wr (by decide) (x_wi la1 (x_wi (by first | decide | omega) x_wn))) (x_wr (tn_1 t8) x_wn) (by decide) rfl ?_
    refine x_aload (np := 1) (x := 0) (by decide +kernel) rfl (x_nc_le (by decide)) ?_
    have q14 : h 45 11 = 56 := by have z := jB (e := 11) 0 hJ rg_45_11_0_1 (by decide) (by decide); omega
    refine x_getR (np := 4) (x := 75) (f := 11) (q := 56) (by decide +kernel) (by decide) (by decide +kernel) q14 ?_
    refine x_iload (np := 5) (x := 1) (by decide +kernel) rfl la1 ?_
    refine x_const (np := 7) (x := 9223372124901605396) (a := 2147483668) (by decide +kernel) (by decide) (by decide) ?_
    refine x_imul (np := 8) (x := 0) (i := u2) (j := 20) (v := (2147483648 + 20 * u2)) (by decide +kernel) (by first | decide | omega) (by first | decide | omega) (by first | decide | omega) (by first | decide | omega) la1 (by decide) ?_
    refine x_iload (np := 9) (x := 2) (by decide +kernel) rfl (by first | decide | omega) ?_
    refine x_iadd (np := 10) (x := 0) (v := (20 * u2 + v12)) (by decide +kernel) (by first | decide | omega) (by first | decide | omega) (by first | decide | omega) (by first | decide | omega) ?_
    obtain ⟨u16, q17⟩ : ∃ z, v12 = 2147483648 + z := ⟨v12 - 2147483648, by first | decide | omega⟩
    have b18 := jB (e := (20 * u2 + u16)) (20 * u2 + u16) hJ rg_56_0_1_120 (by first | decide | omega) (by first | decide | omega)
    refine x_aldC (np := 11) (x := 0) (n := 120) (i := (20 * u2 + u16)) (q := ((h 56 (20 * u2 + u16)))) (by decide +kernel) (by decide +kernel) (by first | decide | omega) (by first | decide | omega) (by decide) rfl (fun l19 => ?_)
    refine x_retI (np := 12) (x := 0) (by decide +kernel) l19 (Or.inl (by decide +kernel)) ⟨_, rfl, l19, ?_⟩
    refine x_const (np := 34) (x := 9223372043297226753) (a := 2147483649) (by decide +kernel) (by decide) (by decide) ?_
    refine x_cP (t := 6) (mj := 68) (n := 3) (rc := 7) (ml := 4) (nr := 0) (np := 37) (as := [x_r ((h 45 5) + 1), iv_c ((h 56 (20 * u2 + u16))), iv_c 2147483649]) (rest := []) (lo1 := [x_r ((h 45 5) + 1), iv_c ((h 56 (20 * u2 + u16))), iv_c 2147483649, 147573952589676412928]) (by decide +kernel) (by decide) (by decide +kernel) (x_rb_of (tr_1_7 t8)) rfl rfl (x_wr (tn_1 t8) (x_wi l19 (x_wi (by decide) x_wn))) x_wn (by decide) rfl (c68_T1_c1 hJ t8 (by first | decide | omega) ) (fun v21 l22 q23 => ?_)
    refine x_retI (np := 38) (x := 0) (by decide +kernel) l22 (Or.inl (by decide +kernel)) ⟨_, rfl, l22, ?_⟩
    exact ⟨rfl, (by first | decide | omega)⟩
  have q7 : ¬ ((h 57 u2) ≠ 2147483648) := q7
  refine x_iload (np := 10) (x := 1) (by decide +kernel) rfl la1 ?_
  refine x_goto (np := 13) (x := 37) (by decide +kernel) ?_
  refine x_retI (np := 38) (x := 0) (by decide +kernel) la1 (Or.inl (by decide +kernel)) ⟨_, rfl, la1, ?_⟩
  exact ⟨rfl, (by first | decide | omega)⟩
set_option maxHeartbeats 0 in
/-- LentNames$Calendar.isOverdue(II)Z -/
theorem c30_45 {sc : Nat × Nat} {d a1 a2 : Nat} {h : xh} (hJ : J h) (ba1 : 2147483648 ≤ a1 ∧ a1 ≤ 2147483653) (ba2 : 2147483648 ≤ a2 ∧ a2 ≤ 2147483659) : X sc 30 (d + 1) (xI fun r h' => h' = h ∧ (2147483648 ≤ r ∧ r ≤ 2147483649)) 0 0 0 [x_r 45, iv_c a1, iv_c a2, 147573952589676412928] [] h := by
  have la1 : a1 < 4294967296 := by first | decide | omega
  have la2 : a2 < 4294967296 := by first | decide | omega
  refine x_const (np := 1) (x := 9223372039002259456) (a := 2147483648) (by decide +kernel) (by decide) (by decide) ?_
  refine x_istore (np := 2) (x := 3) (lo' := [x_r 45, iv_c a1, iv_c a2, iv_c 2147483648]) (by decide +kernel) (by decide) (Nat.le_of_ble_eq_true rfl) rfl ?_
  have p318 : ∀ (n : Nat) (v316 : Nat), 4294967296 - v316 < n → (2147483648 ≤ v316 ∧ v316 ≤ 2147483668) → X sc 30 (d + 1) (xI fun r h' => h' = h ∧ (2147483648 ≤ r ∧ r ≤ 2147483649)) 0 0 2 [x_r 45, iv_c a1, iv_c a2, iv_c v316] [] h := by
    intro n
    induction n with
    | zero => intro v316 q319; exact absurd q319 (Nat.not_lt_zero _)
    | succ n i320 =>
      intro v316 q319 b317
      refine x_iload (np := 3) (x := 3) (by decide +kernel) rfl (by first | decide | omega) ?_
      refine x_aload (np := 4) (x := 0) (by decide +kernel) rfl (x_nc_le (by decide)) ?_
      have q321 : h 45 12 = 57 := by have z := jB (e := 12) 0 hJ rg_45_12_0_1 (by decide) (by decide); omega
      refine x_getR (np := 7) (x := 76) (f := 12) (q := 57) (by decide +kernel) (by decide) (by decide +kernel) q321 ?_
      refine x_iload (np := 8) (x := 1) (by decide +kernel) rfl la1 ?_
      obtain ⟨u322, q323⟩ : ∃ z, a1 = 2147483648 + z := ⟨a1 - 2147483648, by first | decide | omega⟩
      have b324 := jB (e := u322) u322 hJ rg_57_0_1_6 (by first | decide | omega) (by first | decide | omega)
      refine x_aldC (np := 9) (x := 0) (n := 6) (i := u322) (q := (h 57 u322)) (by decide +kernel) (by decide +kernel) (by first | decide | omega) (by first | decide | omega) (by decide) rfl (fun l325 => ?_)
      refine x_icmp (k := 3) (tg := 35) (np := 12) (by decide +kernel) (by decide) (by first | decide | omega) l325 (fun q326 => ?_) (fun q327 => ?_)
      · have q326 : (h 57 u322) ≤ v316 := q326
        refine x_const (np := 36) (x := 9223372039002259456) (a := 2147483648) (by decide +kernel) (by decide) (by decide) ?_
        refine x_retI (np := 37) (x := 0) (by decide +kernel) (by decide) (Or.inr ⟨by decide +kernel, by first | decide | omega, by first | decide | omega⟩) ⟨_, rfl, (by decide), ?_⟩
        exact ⟨rfl, (by first | decide | omega)⟩
      have q327 : ¬ ((h 57 u322) ≤ v316) := q327
      refine x_iload (np := 13) (x := 2) (by decide +kernel) rfl la2 ?_
      refine x_aload (np := 14) (x := 0) (by decide +kernel) rfl (x_nc_le (by decide)) ?_
      have q328 : h 45 9 = 54 := by have z := jB (e := 9) 0 hJ rg_45_9_0_1 (by decide) (by decide); omega
      refine x_getR (np := 17) (x := 73) (f := 9) (q := 54) (by decide +kernel) (by decide) (by decide +kernel) q328 ?_
      refine x_aload (np := 18) (x := 0) (by decide +kernel) rfl (x_nc_le (by decide)) ?_
      refine x_iload (np := 19) (x := 1) (by decide +kernel) rfl la1 ?_
      refine x_iload (np := 20) (x := 3) (by decide +kernel) rfl (by first | decide | omega) ?_
      refine x_nI (t := 6) (mj := 33) (n := 3) (rc := 2) (ml := 3) (nr := 2) (np := 23) (as := [x_r 45, iv_c a1, iv_c v316]) (rest := [x_r 54, iv_c a2]) (lo1 := [x_r 45, iv_c a1, iv_c v316]) (by decide +kernel) (by decide) (by decide +kernel) (x_rb_of (by decide +kernel)) rfl rfl (x_wr (by decide) (x_wi la1 (x_wi (by first | decide | omega) x_wn))) (x_wr (by decide) (x_wi la2 x_wn)) (by decide) rfl ?_
      refine x_aload (np := 1) (x := 0) (by decide +kernel) rfl (x_nc_le (by decide)) ?_
      have q329 : h 45 11 = 56 := by have z := jB (e := 11) 0 hJ rg_45_11_0_1 (by decide) (by decide); omega
      refine x_getR (np := 4) (x := 75) (f := 11) (q := 56) (by decide +kernel) (by decide) (by decide +kernel) q329 ?_
      refine x_iload (np := 5) (x := 1) (by decide +kernel) rfl la1 ?_
      refine x_const (np := 7) (x := 9223372124901605396) (a := 2147483668) (by decide +kernel) (by decide) (by decide) ?_
      refine x_imul (np := 8) (x := 0) (i := u322) (j := 20) (v := (2147483648 + 20 * u322)) (by decide +kernel) (by first | decide | omega) (by first | decide | omega) (by first | decide | omega) (by first | decide | omega) la1 (by decide) ?_
      refine x_iload (np := 9) (x := 2) (by decide +kernel) rfl (by first | decide | omega) ?_
      refine x_iadd (np := 10) (x := 0) (v := (20 * u322 + v316)) (by decide +kernel) (by first | decide | omega) (by first | decide | omega) (by first | decide | omega) (by first | decide | omega) ?_
      obtain ⟨u331, q332⟩ : ∃ z, v316 = 2147483648 + z := ⟨v316 - 2147483648, by first | decide | omega⟩
      have b333 := jB (e := (20 * u322 + u331)) (20 * u322 + u331) hJ rg_56_0_1_120 (by first | decide | omega) (by first | decide | omega)
      refine x_aldC (np := 11) (x := 0) (n := 120) (i := (20 * u322 + u331)) (q := ((h 56 (20 * u322 + u331)))) (by decide +kernel) (by decide +kernel) (by first | decide | omega) (by first | decide | omega) (by decide) rfl (fun l334 => ?_)
      refine x_retI (np := 12) (x := 0) (by decide +kernel) l334 (Or.inl (by decide +kernel)) ⟨_, rfl, l334, ?_⟩
      obtain ⟨u335, q336⟩ : ∃ z, ((h 56 (20 * u322 + u331))) = 2147483648 + z := ⟨((h 56 (20 * u322 + u331))) - 2147483648, by first | decide | omega⟩
      refine x_aldC (np := 24) (x := 0) (n := 20) (i := u335) (q := (h 54 u335)) (by decide +kernel) (by decide +kernel) (by first | decide | omega) (by first | decide | omega) (by decide) rfl (fun l337 => ?_)
      refine x_icmp (k := 5) (tg := 29) (np := 27) (by decide +kernel) (by decide) la2 l337 (fun q338 => ?_) (fun q339 => ?_)
      · have q338 : a2 ≤ (h 54 u335) := q338
        refine x_iinc (np := 32) (i := 3) (j := 2147483649) (v := (1 + v316)) (lo' := [x_r 45, iv_c a1, iv_c a2, iv_c (1 + v316)]) (by decide +kernel) (by decide) (by decide) rfl (by first | decide | omega) (by first | decide | omega) (by first | decide | omega) rfl ?_
        refine x_goto (np := 35) (x := 2) (by decide +kernel) ?_
        exact i320 (1 + v316) (by first | decide | omega) (by first | decide | omega)
      have q339 : ¬ (a2 ≤ (h 54 u335)) := q339
      refine x_const (np := 28) (x := 9223372043297226753) (a := 2147483649) (by decide +kernel) (by decide) (by decide) ?_
      refine x_retI (np := 29) (x := 0) (by decide +kernel) (by decide) (Or.inr ⟨by decide +kernel, by first | decide | omega, by first | decide | omega⟩) ⟨_, rfl, (by decide), ?_⟩
      exact ⟨rfl, (by first | decide | omega)⟩
  exact p318 _ 2147483648 (Nat.lt_succ_self _) (by first | decide | omega)
set_option maxHeartbeats 0 in
/-- LentNames$Calendar.isBorneByRight(II)Z -/
theorem c29_45 {sc : Nat × Nat} {d a1 a2 : Nat} {h : xh} (hJ : J h) (ba1 : 2147483648 ≤ a1 ∧ a1 ≤ 2147483653) (ba2 : 2147483648 ≤ a2 ∧ a2 ≤ 2147483659) : X sc 29 (d + 2) (xI fun r h' => h' = h ∧ (2147483648 ≤ r ∧ r ≤ 2147483649)) 0 0 0 [x_r 45, iv_c a1, iv_c a2] [] h := by
  have la1 : a1 < 4294967296 := by first | decide | omega
  have la2 : a2 < 4294967296 := by first | decide | omega
  refine x_aload (np := 1) (x := 0) (by decide +kernel) rfl (x_nc_le (by decide)) ?_
  refine x_aload (np := 2) (x := 0) (by decide +kernel) rfl (x_nc_le (by decide)) ?_
  refine x_iload (np := 3) (x := 1) (by decide +kernel) rfl la1 ?_
  refine x_cP (t := 6) (mj := 32) (n := 2) (rc := 2) (ml := 2) (nr := 1) (np := 6) (as := [x_r 45, iv_c a1]) (rest := [x_r 45]) (lo1 := [x_r 45, iv_c a1]) (by decide +kernel) (by decide) (by decide +kernel) (x_rb_of (by decide +kernel)) rfl rfl (x_wr (by decide) (x_wi la1 x_wn)) (x_wr (by decide) x_wn) (by decide) rfl (c32_45 hJ  (by first | decide | omega)) (fun v1 l2 q3 => ?_)
  refine x_iload (np := 7) (x := 2) (by decide +kernel) rfl la2 ?_
  refine x_nI (t := 6) (mj := 31) (n := 3) (rc := 2) (ml := 3) (nr := 0) (np := 10) (as := [x_r 45, iv_c v1, iv_c a2]) (rest := []) (lo1 := [x_r 45, iv_c v1, iv_c a2]) (by decide +kernel) (by decide) (by decide +kernel) (x_rb_of (by decide +kernel)) rfl rfl (x_wr (by decide) (x_wi l2 (x_wi la2 x_wn))) x_wn (by decide) rfl ?_
  refine x_iload (np := 1) (x := 1) (by decide +kernel) rfl l2 ?_
  refine x_ifz (k := 2) (tg := 27) (np := 4) (by decide +kernel) (by decide) l2 (fun q4 => ?_) (fun q5 => ?_)
  · have q4 : v1 < 2147483648 := q4
    refine x_const (np := 28) (x := 9223372039002259456) (a := 2147483648) (by decide +kernel) (by decide) (by decide) ?_
    refine x_retI (np := 29) (x := 0) (by decide +kernel) (by decide) (Or.inr ⟨by decide +kernel, by first | decide | omega, by first | decide | omega⟩) ⟨_, rfl, (by decide), ?_⟩
    refine x_ifz (k := 0) (tg := 26) (np := 13) (by decide +kernel) (by decide) (by decide) (fun q6 => ?_) (fun q7 => ?_)
    · have q6 : 2147483648 = 2147483648 := q6
      refine x_const (np := 27) (x := 9223372039002259456) (a := 2147483648) (by decide +kernel) (by decide) (by decide) ?_
      refine x_retI (np := 28) (x := 0) (by decide +kernel) (by decide) (Or.inr ⟨by decide +kernel, by first | decide | omega, by first | decide | omega⟩) ⟨_, rfl, (by decide), ?_⟩
      exact ⟨rfl, (by first | decide | omega)⟩
    have q7 : ¬ (2147483648 = 2147483648) := q7
    exfalso; omega
  have q5 : ¬ (v1 < 2147483648) := q5
  refine x_iload (np := 5) (x := 1) (by decide +kernel) rfl l2 ?_
  refine x_const (np := 7) (x := 9223372064772063238) (a := 2147483654) (by decide +kernel) (by decide) (by decide) ?_
  refine x_icmp (k := 3) (tg := 27) (np := 10) (by decide +kernel) (by decide) l2 (by decide) (fun q8 => ?_) (fun q9 => ?_)
  · have q8 : 2147483654 ≤ v1 := q8
    refine x_const (np := 28) (x := 9223372039002259456) (a := 2147483648) (by decide +kernel) (by decide) (by decide) ?_
    refine x_retI (np := 29) (x := 0) (by decide +kernel) (by decide) (Or.inr ⟨by decide +kernel, by first | decide | omega, by first | decide | omega⟩) ⟨_, rfl, (by decide), ?_⟩
    refine x_ifz (k := 0) (tg := 26) (np := 13) (by decide +kernel) (by decide) (by decide) (fun q10 => ?_) (fun q11 => ?_)
    · have q10 : 2147483648 = 2147483648 := q10
      refine x_const (np := 27) (x := 9223372039002259456) (a := 2147483648) (by decide +kernel) (by decide) (by decide) ?_
      refine x_retI (np := 28) (x := 0) (by decide +kernel) (by decide) (Or.inr ⟨by decide +kernel, by first | decide | omega, by first | decide | omega⟩) ⟨_, rfl, (by decide), ?_⟩
      exact ⟨rfl, (by first | decide | omega)⟩
    have q11 : ¬ (2147483648 = 2147483648) := q11
    exfalso; omega
  have q9 : ¬ (2147483654 ≤ v1) := q9
  refine x_aload (np := 11) (x := 0) (by decide +kernel) rfl (x_nc_le (by decide)) ?_
  have q12 : h 45 0 = 46 := by have z := jB (e := 0) 0 hJ rg_45_0_0_1 (by decide) (by decide); omega
  refine x_getR (np := 14) (x := 64) (f := 0) (q := 46) (by decide +kernel) (by decide) (by decide +kernel) q12 ?_
  refine x_iload (np := 15) (x := 1) (by decide +kernel) rfl l2 ?_
  obtain ⟨u13, q14⟩ : ∃ z, v1 = 2147483648 + z := ⟨v1 - 2147483648, by first | decide | omega⟩
  refine x_aldC (np := 16) (x := 0) (n := 6) (i := u13) (q := (h 46 u13)) (by decide +kernel) (by decide +kernel) (by first | decide | omega) (by first | decide | omega) (by decide) rfl (fun l15 => ?_)
  refine x_iload (np := 17) (x := 2) (by decide +kernel) rfl la2 ?_
  refine x_cP (t := 7) (mj := 148) (n := 2) (rc := 0) (ml := 2) (nr := 0) (np := 20) (as := [iv_c (h 46 u13), iv_c a2]) (rest := []) (lo1 := [iv_c (h 46 u13), iv_c a2]) (by decide +kernel) (by decide) (by decide +kernel) (Or.inl rfl) rfl rfl (x_wi l15 (x_wi la2 x_wn)) x_wn (by decide) rfl (c148 hJ (by first | decide | omega) (by first | decide | omega)) (fun v16 l17 q18 => ?_)
  refine x_ifz (k := 0) (tg := 27) (np := 23) (by decide +kernel) (by decide) l17 (fun q19 => ?_) (fun q20 => ?_)
  · have q19 : v16 = 2147483648 := q19
    refine x_const (np := 28) (x := 9223372039002259456) (a := 2147483648) (by decide +kernel) (by decide) (by decide) ?_
    refine x_retI (np := 29) (x := 0) (by decide +kernel) (by decide) (Or.inr ⟨by decide +kernel, by first | decide | omega, by first | decide | omega⟩) ⟨_, rfl, (by decide), ?_⟩
    refine x_ifz (k := 0) (tg := 26) (np := 13) (by decide +kernel) (by decide) (by decide) (fun q21 => ?_) (fun q22 => ?_)
    · have q21 : 2147483648 = 2147483648 := q21
      refine x_const (np := 27) (x := 9223372039002259456) (a := 2147483648) (by decide +kernel) (by decide) (by decide) ?_
      refine x_retI (np := 28) (x := 0) (by decide +kernel) (by decide) (Or.inr ⟨by decide +kernel, by first | decide | omega, by first | decide | omega⟩) ⟨_, rfl, (by decide), ?_⟩
      exact ⟨rfl, (by first | decide | omega)⟩
    have q22 : ¬ (2147483648 = 2147483648) := q22
    exfalso; omega
  have q20 : ¬ (v16 = 2147483648) := q20
  refine x_const (np := 24) (x := 9223372043297226753) (a := 2147483649) (by decide +kernel) (by decide) (by decide) ?_
  refine x_goto (np := 27) (x := 28) (by decide +kernel) ?_
  refine x_retI (np := 29) (x := 0) (by decide +kernel) (by decide) (Or.inr ⟨by decide +kernel, by first | decide | omega, by first | decide | omega⟩) ⟨_, rfl, (by decide), ?_⟩
  refine x_ifz (k := 0) (tg := 26) (np := 13) (by decide +kernel) (by decide) (by decide) (fun q23 => ?_) (fun q24 => ?_)
  · have q23 : 2147483649 = 2147483648 := q23
    exfalso; omega
  have q24 : ¬ (2147483649 = 2147483648) := q24
  refine x_aload (np := 14) (x := 0) (by decide +kernel) rfl (x_nc_le (by decide)) ?_
  refine x_iload (np := 15) (x := 1) (by decide +kernel) rfl la1 ?_
  refine x_iload (np := 16) (x := 2) (by decide +kernel) rfl la2 ?_
  refine x_cP (t := 6) (mj := 30) (n := 3) (rc := 2) (ml := 4) (nr := 0) (np := 19) (as := [x_r 45, iv_c a1, iv_c a2]) (rest := []) (lo1 := [x_r 45, iv_c a1, iv_c a2, 147573952589676412928]) (by decide +kernel) (by decide) (by decide +kernel) (x_rb_of (by decide +kernel)) rfl rfl (x_wr (by decide) (x_wi la1 (x_wi la2 x_wn))) x_wn (by decide) rfl (c30_45 hJ  (by first | decide | omega) (by first | decide | omega)) (fun v25 l26 q27 => ?_)
  refine x_ifz (k := 1) (tg := 26) (np := 22) (by decide +kernel) (by decide) l26 (fun q28 => ?_) (fun q29 => ?_)
  · have q28 : v25 ≠ 2147483648 := q28
    refine x_const (np := 27) (x := 9223372039002259456) (a := 2147483648) (by decide +kernel) (by decide) (by decide) ?_
    refine x_retI (np := 28) (x := 0) (by decide +kernel) (by decide) (Or.inr ⟨by decide +kernel, by first | decide | omega, by first | decide | omega⟩) ⟨_, rfl, (by decide), ?_⟩
    exact ⟨rfl, (by first | decide | omega)⟩
  have q29 : ¬ (v25 ≠ 2147483648) := q29
  refine x_const (np := 23) (x := 9223372043297226753) (a := 2147483649) (by decide +kernel) (by decide) (by decide) ?_
  refine x_goto (np := 26) (x := 27) (by decide +kernel) ?_
  refine x_retI (np := 28) (x := 0) (by decide +kernel) (by decide) (Or.inr ⟨by decide +kernel, by first | decide | omega, by first | decide | omega⟩) ⟨_, rfl, (by decide), ?_⟩
  exact ⟨rfl, (by first | decide | omega)⟩
set_option maxHeartbeats 0 in
/-- LentNames$Calendar.borneNow(I)I -/
theorem c25_45 {sc : Nat × Nat} {d a1 : Nat} {h : xh} (hJ : J h) (ba1 : 0 ≤ a1 ∧ a1 ≤ 4294967295) : X sc 25 (d + 2) (xI fun r h' => h' = h ∧ (0 ≤ r ∧ r ≤ 4294967295)) 0 0 0 [x_r 45, iv_c a1, 147573952589676412928, 147573952589676412928] [] h := by
  have la1 : a1 < 4294967296 := by first | decide | omega
  refine x_const (np := 1) (x := 9223372039002259456) (a := 2147483648) (by decide +kernel) (by decide) (by decide) ?_
  refine x_istore (np := 2) (x := 2) (lo' := [x_r 45, iv_c a1, iv_c 2147483648, 147573952589676412928]) (by decide +kernel) (by decide) (Nat.le_of_ble_eq_true rfl) rfl ?_
  refine x_const (np := 3) (x := 9223372039002259456) (a := 2147483648) (by decide +kernel) (by decide) (by decide) ?_
  refine x_istore (np := 4) (x := 3) (lo' := [x_r 45, iv_c a1, iv_c 2147483648, iv_c 2147483648]) (by decide +kernel) (by decide) (Nat.le_of_ble_eq_true rfl) rfl ?_
  have p443 : ∀ (n : Nat) (v439 : Nat) (v441 : Nat), 4294967296 - v441 < n → (0 ≤ v439 ∧ v439 ≤ 4294967295) → (2147483648 ≤ v441 ∧ v441 ≤ 2147483654) → X sc 25 (d + 2) (xI fun r h' => h' = h ∧ (0 ≤ r ∧ r ≤ 4294967295)) 0 0 4 [x_r 45, iv_c a1, iv_c v439, iv_c v441] [] h := by
    intro n
    induction n with
    | zero => intro v439 v441 q444; exact absurd q444 (Nat.not_lt_zero _)
    | succ n i445 =>
      intro v439 v441 q444 b440 b442
      refine x_iload (np := 5) (x := 3) (by decide +kernel) rfl (by first | decide | omega) ?_
      refine x_aload (np := 6) (x := 0) (by decide +kernel) rfl (x_nc_le (by decide)) ?_
      have t446 : tw (h 45 5) := hJ.2.2.2.1
      refine x_getR (np := 9) (x := 69) (f := 5) (q := (h 45 5)) (by decide +kernel) (by decide) (by decide +kernel) rfl ?_
      have b447 := jB (e := 7) 0 hJ (rg_T0_7_0_1 t446) (by first | decide | omega) (by first | decide | omega)
      refine x_getC (np := 12) (x := 519) (f := 7) (q := (h (h 45 5) 7)) (by decide +kernel) (by decide) (tg_0_519_7_0 t446) rfl (fun l448 => ?_)
      refine x_icmp (k := 3) (tg := 33) (np := 15) (by decide +kernel) (by decide) (by first | decide | omega) l448 (fun q449 => ?_) (fun q450 => ?_)
      · have q449 : (h (h 45 5) 7) ≤ v441 := q449
        refine x_iload (np := 34) (x := 2) (by decide +kernel) rfl (by first | decide | omega) ?_
        refine x_retI (np := 35) (x := 0) (by decide +kernel) (by first | decide | omega) (Or.inl (by decide +kernel)) ⟨_, rfl, (by first | decide | omega), ?_⟩
        exact ⟨rfl, (by first | decide | omega)⟩
      have q450 : ¬ ((h (h 45 5) 7) ≤ v441) := q450
      refine x_aload (np := 16) (x := 0) (by decide +kernel) rfl (x_nc_le (by decide)) ?_
      refine x_iload (np := 17) (x := 3) (by decide +kernel) rfl (by first | decide | omega) ?_
      refine x_cP (t := 6) (mj := 32) (n := 2) (rc := 2) (ml := 2) (nr := 0) (np := 20) (as := [x_r 45, iv_c v441]) (rest := []) (lo1 := [x_r 45, iv_c v441]) (by decide +kernel) (by decide) (by decide +kernel) (x_rb_of (by decide +kernel)) rfl rfl (x_wr (by decide) (x_wi (by first | decide | omega) x_wn)) x_wn (by decide) rfl (c32_45 hJ  (by first | decide | omega)) (fun v451 l452 q453 => ?_)
      refine x_iload (np := 21) (x := 1) (by decide +kernel) rfl la1 ?_
      refine x_icmp (k := 1) (tg := 27) (np := 24) (by decide +kernel) (by decide) l452 la1 (fun q454 => ?_) (fun q455 => ?_)
      · have q454 : v451 ≠ a1 := q454
        refine x_iinc (np := 30) (i := 3) (j := 2147483649) (v := (1 + v441)) (lo' := [x_r 45, iv_c a1, iv_c v439, iv_c (1 + v441)]) (by decide +kernel) (by decide) (by decide) rfl (by first | decide | omega) (by first | decide | omega) (by first | decide | omega) rfl ?_
        refine x_goto (np := 33) (x := 4) (by decide +kernel) ?_
        exact i445 v439 (1 + v441) (by first | decide | omega) (by first | decide | omega) (by first | decide | omega)
      have q455 : ¬ (v451 ≠ a1) := q455
      refine x_incA (i := 2) (n := 1) (by rw [tb_b25]; decide +kernel) rfl (by first | decide | omega) (fun v456 l457 => ?_)
      show X _ _ _ _ _ _ _ [x_r 45, iv_c a1, iv_c v456, iv_c v441] _ _
      refine x_iinc (np := 30) (i := 3) (j := 2147483649) (v := (1 + v441)) (lo' := [x_r 45, iv_c a1, iv_c v456, iv_c (1 + v441)]) (by decide +kernel) (by decide) (by decide) rfl (by first | decide | omega) (by first | decide | omega) (by first | decide | omega) rfl ?_
      refine x_goto (np := 33) (x := 4) (by decide +kernel) ?_
      exact i445 v456 (1 + v441) (by first | decide | omega) (by first | decide | omega) (by first | decide | omega)
  exact p443 _ 2147483648 2147483648 (Nat.lt_succ_self _) (by first | decide | omega) (by first | decide | omega)
set_option maxHeartbeats 0 in
/-- LentNames$Custom.pop()I -/
theorem c42_T11 {sc : Nat × Nat} {d ra0 : Nat} {h : xh} (hJ : J h) (ta0 : tw ra0) : X sc 42 d (xI fun r h' => J h' ∧ Fr 140737488355328 h h' ∧ (0 ≤ r ∧ r ≤ 4294967295)) 0 0 0 [x_r (ra0 + 11)] [] h := by
  have hF := Fr.refl 140737488355328 h
  refine x_aload (np := 1) (x := 0) (by decide +kernel) rfl (x_nc_le (tn_11 ta0)) ?_
  have b1 := jB (e := 4) 0 hJ (rg_T11_4_0_1 ta0) (by first | decide | omega) (by first | decide | omega)
  refine x_getC (np := 4) (x := 132) (f := 4) (q := (h (ra0 + 11) 4)) (by decide +kernel) (by decide) (tg_11_132_4_0 ta0) rfl (fun l2 => ?_)
  refine x_ifz (k := 4) (tg := 9) (np := 7) (by decide +kernel) (by decide) l2 (fun q3 => ?_) (fun q4 => ?_)
  · have q3 : 2147483648 < (h (ra0 + 11) 4) := q3
    refine x_aload (np := 10) (x := 0) (by decide +kernel) rfl (x_nc_le (tn_11 ta0)) ?_
    refine x_dup (np := 11) (x := 0) (by decide +kernel) (by have z := x_nc_le (k := (ra0 + 11)) (tn_11 ta0); unfold x_r; omega) ?_
    refine x_getC (np := 14) (x := 132) (f := 4) (q := (h (ra0 + 11) 4)) (by decide +kernel) (by decide) (tg_11_132_4_0 ta0) rfl (fun l5 => ?_)
    refine x_const (np := 15) (x := 9223372043297226753) (a := 2147483649) (by decide +kernel) (by decide) (by decide) ?_
    obtain ⟨v6, q7⟩ : ∃ z, z + 2147483649 = (h (ra0 + 11) 4) + 2147483648 := ⟨(h (ra0 + 11) 4) + 2147483648 - 2147483649, by first | decide | omega⟩
    refine x_isub (np := 16) (x := 0) (v := v6) (by decide +kernel) l2 (by decide) (by first | decide | omega) (by first | decide | omega) ?_
    refine x_putI (np := 19) (x := 132) (f := 4) (by decide +kernel) (tg_11_132_4_0 ta0) (by first | decide | omega) (Or.inl (by decide)) ?_
    have j9 := jU (e := 4) (v := v6) 0 hJ (rg_T11_4_0_1 ta0) (by first | decide | omega) (by first | decide | omega) (by first | decide | omega)
    have f11 := jF (e := 4) (v := v6) 0 hF (rg_T11_4_0_1 ta0) (by first | decide | omega) (by first | decide | omega) (by decide)
    generalize e10 : x_up h (ra0 + 11) 4 v6 = h8 at j9 f11 ⊢
    refine x_aload (np := 20) (x := 0) (by decide +kernel) rfl (x_nc_le (tn_11 ta0)) ?_
    have q12 : h8 (ra0 + 11) 1 = (ra0 + 13) := tf_11_1 j9 ta0
    refine x_getR (np := 23) (x := 129) (f := 1) (q := (ra0 + 13)) (by decide +kernel) (by decide) (tg_11_129_1_1 ta0) q12 ?_
    refine x_aload (np := 24) (x := 0) (by decide +kernel) rfl (x_nc_le (tn_11 ta0)) ?_
    have q13 : h8 (ra0 + 11) 4 = v6 := by rw [← e10]; exact x_up_at
    refine x_getC (np := 27) (x := 132) (f := 4) (q := v6) (by decide +kernel) (by decide) (tg_11_132_4_0 ta0) q13 (fun l14 => ?_)
    obtain ⟨u15, q16⟩ : ∃ z, v6 = 2147483648 + z := ⟨v6 - 2147483648, by first | decide | omega⟩
    have q17 : h8 (ra0 + 13) u15 = h (ra0 + 13) u15 := by rw [← e10]; exact x_up_k tof_13_11
    refine x_aldC (np := 28) (x := 0) (n := 32) (i := u15) (q := (h (ra0 + 13) u15)) (by decide +kernel) (ta_13_32 ta0) (by first | decide | omega) (by first | decide | omega) (by decide) q17 (fun l18 => ?_)
    refine x_retI (np := 29) (x := 0) (by decide +kernel) l18 (Or.inl (by decide +kernel)) ⟨_, rfl, l18, ?_⟩
    exact ⟨j9, f11, (by first | decide | omega)⟩
  have q4 : ¬ (2147483648 < (h (ra0 + 11) 4)) := q4
  refine x_const (np := 8) (x := 9223372039002259456) (a := 2147483648) (by decide +kernel) (by decide) (by decide) ?_
  refine x_retI (np := 9) (x := 0) (by decide +kernel) (by decide) (Or.inl (by decide +kernel)) ⟨_, rfl, (by decide), ?_⟩
  exact ⟨hJ, hF, (by first | decide | omega)⟩
set_option maxHeartbeats 0 in
/-- LentNames$Custom.join(III)I -/
theorem c40 {sc : Nat × Nat} {d a0 a1 a2 : Nat} {h : xh} (hJ : J h) (ba0 : 2147485139 ≤ a0 ∧ a0 ≤ 4294967295) (ba1 : 0 ≤ a1 ∧ a1 ≤ 4294967295) (ba2 : 0 ≤ a2 ∧ a2 ≤ 4294967295) : X sc 40 d (xI fun r h' => h' = h ∧ (0 ≤ r ∧ r ≤ 4294967295)) 0 0 0 [iv_c a0, iv_c a1, iv_c a2] [] h := by
  have la0 : a0 < 4294967296 := by first | decide | omega
  have la1 : a1 < 4294967296 := by first | decide | omega
  have la2 : a2 < 4294967296 := by first | decide | omega
  refine x_iload (np := 1) (x := 0) (by decide +kernel) rfl la0 ?_
  rcases (show a0 < 2147485648 ∨ 2147485652 < a0 ∨ (a0 = 2147485648 ∨ a0 = 2147485649 ∨ a0 = 2147485650 ∨ a0 = 2147485651 ∨ a0 = 2147485652) by first | decide | omega) with q1 | q1 | q1 | q1 | q1 | q1 | q1
  · refine x_tsw0 (np := 2) (x := 0) (by decide +kernel) la0 (lo9 := 2147485648) (hi9 := 2147485652) (tg := 66) (by decide +kernel) (Or.inl q1) ?_
    refine x_iload (np := 67) (x := 1) (by decide +kernel) rfl la1 ?_
    refine x_iload (np := 68) (x := 2) (by decide +kernel) rfl la2 ?_
    refine x_any (np := 69) (k9 := 1) (by decide +kernel) (by decide) la1 la2 (fun v2 l3 => ?_)
    refine x_retI (np := 70) (x := 0) (by decide +kernel) l3 (Or.inl (by decide +kernel)) ⟨_, rfl, l3, ?_⟩
    exact ⟨rfl, (by first | decide | omega)⟩
  · refine x_tsw0 (np := 2) (x := 0) (by decide +kernel) la0 (lo9 := 2147485648) (hi9 := 2147485652) (tg := 66) (by decide +kernel) (Or.inr q1) ?_
    refine x_iload (np := 67) (x := 1) (by decide +kernel) rfl la1 ?_
    refine x_iload (np := 68) (x := 2) (by decide +kernel) rfl la2 ?_
    refine x_any (np := 69) (k9 := 1) (by decide +kernel) (by decide) la1 la2 (fun v4 l5 => ?_)
    refine x_retI (np := 70) (x := 0) (by decide +kernel) l5 (Or.inl (by decide +kernel)) ⟨_, rfl, l5, ?_⟩
    exact ⟨rfl, (by first | decide | omega)⟩
  · refine x_tsw1 (np := 2) (x := 0) (by decide +kernel) la0 (i := 0) (lo9 := 2147485648) (hi9 := 2147485652) (tg := 36) (by decide +kernel) (by first | decide | omega) (by first | decide | omega) ?_
    refine x_iload (np := 37) (x := 1) (by decide +kernel) rfl la1 ?_
    refine x_iload (np := 38) (x := 2) (by decide +kernel) rfl la2 ?_
    refine x_addA (by rw [tb_b40]; decide +kernel) la1 la2 (fun v6 l7 => ?_)
    refine x_retI (np := 40) (x := 0) (by decide +kernel) l7 (Or.inl (by decide +kernel)) ⟨_, rfl, l7, ?_⟩
    exact ⟨rfl, (by first | decide | omega)⟩
  · refine x_tsw1 (np := 2) (x := 0) (by decide +kernel) la0 (i := 1) (lo9 := 2147485648) (hi9 := 2147485652) (tg := 40) (by decide +kernel) (by first | decide | omega) (by first | decide | omega) ?_
    refine x_iload (np := 41) (x := 1) (by decide +kernel) rfl la1 ?_
    refine x_iload (np := 42) (x := 2) (by decide +kernel) rfl la2 ?_
    refine x_icmp (k := 3) (tg := 49) (np := 45) (by decide +kernel) (by decide) la1 la2 (fun q8 => ?_) (fun q9 => ?_)
    · have q8 : a2 ≤ a1 := q8
      refine x_const (np := 50) (x := 9223372039002259456) (a := 2147483648) (by decide +kernel) (by decide) (by decide) ?_
      refine x_retI (np := 51) (x := 0) (by decide +kernel) (by decide) (Or.inl (by decide +kernel)) ⟨_, rfl, (by decide), ?_⟩
      exact ⟨rfl, (by first | decide | omega)⟩
    have q9 : ¬ (a2 ≤ a1) := q9
    refine x_const (np := 46) (x := 9223372043297226753) (a := 2147483649) (by decide +kernel) (by decide) (by decide) ?_
    refine x_goto (np := 49) (x := 50) (by decide +kernel) ?_
    refine x_retI (np := 51) (x := 0) (by decide +kernel) (by decide) (Or.inl (by decide +kernel)) ⟨_, rfl, (by decide), ?_⟩
    exact ⟨rfl, (by first | decide | omega)⟩
  · refine x_tsw1 (np := 2) (x := 0) (by decide +kernel) la0 (i := 2) (lo9 := 2147485648) (hi9 := 2147485652) (tg := 51) (by decide +kernel) (by first | decide | omega) (by first | decide | omega) ?_
    refine x_iload (np := 52) (x := 1) (by decide +kernel) rfl la1 ?_
    refine x_iload (np := 53) (x := 2) (by decide +kernel) rfl la2 ?_
    refine x_icmp (k := 5) (tg := 60) (np := 56) (by decide +kernel) (by decide) la1 la2 (fun q10 => ?_) (fun q11 => ?_)
    · have q10 : a1 ≤ a2 := q10
      refine x_const (np := 61) (x := 9223372039002259456) (a := 2147483648) (by decide +kernel) (by decide) (by decide) ?_
      refine x_retI (np := 62) (x := 0) (by decide +kernel) (by decide) (Or.inl (by decide +kernel)) ⟨_, rfl, (by decide), ?_⟩
      exact ⟨rfl, (by first | decide | omega)⟩
    have q11 : ¬ (a1 ≤ a2) := q11
    refine x_const (np := 57) (x := 9223372043297226753) (a := 2147483649) (by decide +kernel) (by decide) (by decide) ?_
    refine x_goto (np := 60) (x := 61) (by decide +kernel) ?_
    refine x_retI (np := 62) (x := 0) (by decide +kernel) (by decide) (Or.inl (by decide +kernel)) ⟨_, rfl, (by decide), ?_⟩
    exact ⟨rfl, (by first | decide | omega)⟩
  · refine x_tsw1 (np := 2) (x := 0) (by decide +kernel) la0 (i := 3) (lo9 := 2147485648) (hi9 := 2147485652) (tg := 66) (by decide +kernel) (by first | decide | omega) (by first | decide | omega) ?_
    refine x_iload (np := 67) (x := 1) (by decide +kernel) rfl la1 ?_
    refine x_iload (np := 68) (x := 2) (by decide +kernel) rfl la2 ?_
    refine x_any (np := 69) (k9 := 1) (by decide +kernel) (by decide) la1 la2 (fun v12 l13 => ?_)
    refine x_retI (np := 70) (x := 0) (by decide +kernel) l13 (Or.inl (by decide +kernel)) ⟨_, rfl, l13, ?_⟩
    exact ⟨rfl, (by first | decide | omega)⟩
  · refine x_tsw1 (np := 2) (x := 0) (by decide +kernel) la0 (i := 4) (lo9 := 2147485648) (hi9 := 2147485652) (tg := 62) (by decide +kernel) (by first | decide | omega) (by first | decide | omega) ?_
    refine x_iload (np := 63) (x := 1) (by decide +kernel) rfl la1 ?_
    refine x_iload (np := 64) (x := 2) (by decide +kernel) rfl la2 ?_
    refine x_any (np := 65) (k9 := 0) (by decide +kernel) (by decide) la1 la2 (fun v14 l15 => ?_)
    refine x_retI (np := 66) (x := 0) (by decide +kernel) l15 (Or.inl (by decide +kernel)) ⟨_, rfl, l15, ?_⟩
    exact ⟨rfl, (by first | decide | omega)⟩
set_option maxHeartbeats 0 in
/-- LentNames$Custom.push(I)V -/
theorem c41_T11 {sc : Nat × Nat} {d ra0 a1 : Nat} {h : xh} (hJ : J h) (ta0 : tw ra0) (ba1 : 0 ≤ a1 ∧ a1 ≤ 4294967295) : X sc 41 d (xV fun h' => J h' ∧ Fr 140737488355329 h h') 0 0 0 [x_r (ra0 + 11), iv_c a1] [] h := by
  have la1 : a1 < 4294967296 := by first | decide | omega
  have hF := Fr.refl 140737488355329 h
  refine x_aload (np := 1) (x := 0) (by decide +kernel) rfl (x_nc_le (tn_11 ta0)) ?_
  have b1 := jB (e := 4) 0 hJ (rg_T11_4_0_1 ta0) (by first | decide | omega) (by first | decide | omega)
  refine x_getC (np := 4) (x := 132) (f := 4) (q := (h (ra0 + 11) 4)) (by decide +kernel) (by decide) (tg_11_132_4_0 ta0) rfl (fun l2 => ?_)
  refine x_const (np := 6) (x := 9223372176441212960) (a := 2147483680) (by decide +kernel) (by decide) (by decide) ?_
  refine x_icmp (k := 3) (tg := 29) (np := 9) (by decide +kernel) (by decide) l2 (by decide) (fun q3 => ?_) (fun q4 => ?_)
  · have q3 : 2147483680 ≤ (h (ra0 + 11) 4) := q3
    refine x_retV (np := 30) (x := 0) (by decide +kernel) (by decide +kernel) ⟨rfl, ?_⟩
    exact ⟨hJ, hF⟩
  have q4 : ¬ (2147483680 ≤ (h (ra0 + 11) 4)) := q4
  refine x_aload (np := 10) (x := 0) (by decide +kernel) rfl (x_nc_le (tn_11 ta0)) ?_
  have q5 : h (ra0 + 11) 1 = (ra0 + 13) := tf_11_1 hJ ta0
  refine x_getR (np := 13) (x := 129) (f := 1) (q := (ra0 + 13)) (by decide +kernel) (by decide) (tg_11_129_1_1 ta0) q5 ?_
  refine x_aload (np := 14) (x := 0) (by decide +kernel) rfl (x_nc_le (tn_11 ta0)) ?_
  refine x_getC (np := 17) (x := 132) (f := 4) (q := (h (ra0 + 11) 4)) (by decide +kernel) (by decide) (tg_11_132_4_0 ta0) rfl (fun l6 => ?_)
  refine x_iload (np := 18) (x := 1) (by decide +kernel) rfl la1 ?_
  obtain ⟨u7, q8⟩ : ∃ z, (h (ra0 + 11) 4) = 2147483648 + z := ⟨(h (ra0 + 11) 4) - 2147483648, by first | decide | omega⟩
  refine x_ast (np := 19) (x := 0) (kd := 1) (n := 32) (i := u7) (by decide +kernel) (Or.inl rfl) (ta_13_32 ta0) (by first | decide | omega) (by first | decide | omega) (by decide) la1 (fun z => absurd z (by decide)) ?_
  have j10 := jU (e := u7) (v := a1) u7 hJ (rg_T13_0_1_32 ta0) (by first | decide | omega) (by first | decide | omega) (by first | decide | omega)
  have f12 := jF (e := u7) (v := a1) u7 hF (rg_T13_0_1_32 ta0) (by first | decide | omega) (by first | decide | omega) (by decide)
  generalize e11 : x_up h (ra0 + 13) u7 a1 = h9 at j10 f12 ⊢
  refine x_aload (np := 20) (x := 0) (by decide +kernel) rfl (x_nc_le (tn_11 ta0)) ?_
  refine x_dup (np := 21) (x := 0) (by decide +kernel) (by have z := x_nc_le (k := (ra0 + 11)) (tn_11 ta0); unfold x_r; omega) ?_
  have q13 : h9 (ra0 + 11) 4 = h (ra0 + 11) 4 := by rw [← e11]; exact x_up_k tof_11_13
  refine x_getC (np := 24) (x := 132) (f := 4) (q := (h (ra0 + 11) 4)) (by decide +kernel) (by decide) (tg_11_132_4_0 ta0) q13 (fun l14 => ?_)
  refine x_const (np := 25) (x := 9223372043297226753) (a := 2147483649) (by decide +kernel) (by decide) (by decide) ?_
  refine x_iadd (np := 26) (x := 0) (v := (1 + (h (ra0 + 11) 4))) (by decide +kernel) l2 (by decide) (by first | decide | omega) (by first | decide | omega) ?_
  refine x_putI (np := 29) (x := 132) (f := 4) (by decide +kernel) (tg_11_132_4_0 ta0) (by first | decide | omega) (Or.inl (by decide)) ?_
  have j16 := jU (e := 4) (v := (1 + (h (ra0 + 11) 4))) 0 j10 (rg_T11_4_0_1 ta0) (by first | decide | omega) (by first | decide | omega) (by first | decide | omega)
  have f18 := jF (e := 4) (v := (1 + (h (ra0 + 11) 4))) 0 f12 (rg_T11_4_0_1 ta0) (by first | decide | omega) (by first | decide | omega) (by decide)
  generalize e17 : x_up h9 (ra0 + 11) 4 (1 + (h (ra0 + 11) 4)) = h15 at j16 f18 ⊢
  refine x_retV (np := 30) (x := 0) (by decide +kernel) (by decide +kernel) ⟨rfl, ?_⟩
  exact ⟨j16, f18⟩
set_option maxHeartbeats 0 in
/-- LentNames$Custom.work(I[I)V -/
theorem c39_T11_58 {sc : Nat × Nat} {d ra0 a1 : Nat} {h : xh} (hJ : J h) (ta0 : tw ra0) (ba1 : 0 ≤ a1 ∧ a1 ≤ 4294967295) : X sc 39 (d + 1) (xV fun h' => J h' ∧ Fr 140737488355329 h h') 0 0 0 [x_r (ra0 + 11), iv_c a1, x_r 58, 147573952589676412928, 147573952589676412928] [] h := by
  have la1 : a1 < 4294967296 := by first | decide | omega
  have hF := Fr.refl 140737488355329 h
  refine x_iload (np := 1) (x := 1) (by decide +kernel) rfl la1 ?_
  refine x_const (np := 4) (x := 9223376333969556456) (a := 2147484648) (by decide +kernel) (by decide) (by decide) ?_
  refine x_icmp (k := 3) (tg := 15) (np := 7) (by decide +kernel) (by decide) la1 (by decide) (fun q1 => ?_) (fun q2 => ?_)
  · have q1 : 2147484648 ≤ a1 := q1
    refine x_iload (np := 16) (x := 1) (by decide +kernel) rfl la1 ?_
    refine x_const (np := 19) (x := 9223380628936853456) (a := 2147485648) (by decide +kernel) (by decide) (by decide) ?_
    refine x_icmp (k := 3) (tg := 50) (np := 22) (by decide +kernel) (by decide) la1 (by decide) (fun q3 => ?_) (fun q4 => ?_)
    · have q3 : 2147485648 ≤ a1 := q3
      refine x_iload (np := 51) (x := 1) (by decide +kernel) rfl la1 ?_
      refine x_const (np := 54) (x := 9223380641821755347) (a := 2147485651) (by decide +kernel) (by decide) (by decide) ?_
      refine x_icmp (k := 1) (tg := 76) (np := 57) (by decide +kernel) (by decide) la1 (by decide) (fun q5 => ?_) (fun q6 => ?_)
      · have q5 : a1 ≠ 2147485651 := q5
        refine x_aload (np := 77) (x := 0) (by decide +kernel) rfl (x_nc_le (tn_11 ta0)) ?_
        refine x_cI (t := 6) (mj := 42) (n := 1) (rc := 3) (ml := 1) (nr := 0) (np := 80) (as := [x_r (ra0 + 11)]) (rest := []) (lo1 := [x_r (ra0 + 11)]) (by decide +kernel) (by decide) (by decide +kernel) (x_rb_of (tr_11_3 ta0)) rfl rfl (x_wr (tn_11 ta0) x_wn) x_wn (by decide) rfl (c42_T11 hJ ta0) (fun v7 h10 l8 q9 => ?_)
        obtain ⟨j11, f12, b13⟩ := q9
        have f14 := Fr.trans hF f12 (by decide)
        refine x_istore (np := 81) (x := 3) (lo' := [x_r (ra0 + 11), iv_c a1, x_r 58, iv_c v7, 147573952589676412928]) (by decide +kernel) l8 (Nat.le_of_ble_eq_true rfl) rfl ?_
        refine x_aload (np := 82) (x := 0) (by decide +kernel) rfl (x_nc_le (tn_11 ta0)) ?_
        refine x_cI (t := 6) (mj := 42) (n := 1) (rc := 3) (ml := 1) (nr := 0) (np := 85) (as := [x_r (ra0 + 11)]) (rest := []) (lo1 := [x_r (ra0 + 11)]) (by decide +kernel) (by decide) (by decide +kernel) (x_rb_of (tr_11_3 ta0)) rfl rfl (x_wr (tn_11 ta0) x_wn) x_wn (by decide) rfl (c42_T11 j11 ta0) (fun v15 h18 l16 q17 => ?_)
        obtain ⟨j19, f20, b21⟩ := q17
        have f22 := Fr.trans f14 f20 (by decide)
        refine x_istore (np := 87) (x := 4) (lo' := [x_r (ra0 + 11), iv_c a1, x_r 58, iv_c v7, iv_c v15]) (by decide +kernel) l16 (Nat.le_of_ble_eq_true rfl) rfl ?_
        refine x_aload (np := 88) (x := 0) (by decide +kernel) rfl (x_nc_le (tn_11 ta0)) ?_
        refine x_iload (np := 89) (x := 1) (by decide +kernel) rfl la1 ?_
        refine x_iload (np := 91) (x := 4) (by decide +kernel) rfl l16 ?_
        refine x_iload (np := 92) (x := 3) (by decide +kernel) rfl l8 ?_
        refine x_cP (t := 0) (mj := 40) (n := 3) (rc := 0) (ml := 3) (nr := 1) (np := 95) (as := [iv_c a1, iv_c v15, iv_c v7]) (rest := [x_r (ra0 + 11)]) (lo1 := [iv_c a1, iv_c v15, iv_c v7]) (by decide +kernel) (by decide) (by decide +kernel) (Or.inl rfl) rfl rfl (x_wi la1 (x_wi l16 (x_wi l8 x_wn))) (x_wr (tn_11 ta0) x_wn) (by decide) rfl (c40 j19 (by first | decide | omega) (by first | decide | omega) (by first | decide | omega)) (fun v23 l24 q25 => ?_)
        refine x_cV (t := 6) (mj := 41) (n := 2) (rc := 3) (ml := 2) (nr := 0) (np := 98) (as := [x_r (ra0 + 11), iv_c v23]) (rest := []) (lo1 := [x_r (ra0 + 11), iv_c v23]) (by decide +kernel) (by decide) (by decide +kernel) (x_rb_of (tr_11_3 ta0)) rfl rfl (x_wr (tn_11 ta0) (x_wi l24 x_wn)) x_wn (by decide) rfl (c41_T11 j19 ta0 (by first | decide | omega)) (fun h29 q28 => ?_)
        obtain ⟨j30, f31⟩ := q28
        have f34 := Fr.trans f22 f31 (by decide)
        refine x_retV (np := 99) (x := 0) (by decide +kernel) (by decide +kernel) ⟨rfl, ?_⟩
        exact ⟨j30, f34⟩
      have q6 : ¬ (a1 ≠ 2147485651) := q6
      refine x_aload (np := 58) (x := 0) (by decide +kernel) rfl (x_nc_le (tn_11 ta0)) ?_
      refine x_aload (np := 59) (x := 0) (by decide +kernel) rfl (x_nc_le (tn_11 ta0)) ?_
      refine x_cI (t := 6) (mj := 42) (n := 1) (rc := 3) (ml := 1) (nr := 1) (np := 62) (as := [x_r (ra0 + 11)]) (rest := [x_r (ra0 + 11)]) (lo1 := [x_r (ra0 + 11)]) (by decide +kernel) (by decide) (by decide +kernel) (x_rb_of (tr_11_3 ta0)) rfl rfl (x_wr (tn_11 ta0) x_wn) (x_wr (tn_11 ta0) x_wn) (by decide) rfl (c42_T11 hJ ta0) (fun v35 h38 l36 q37 => ?_)
      obtain ⟨j39, f40, b41⟩ := q37
      have f42 := Fr.trans hF f40 (by decide)
      refine x_ifz (k := 1) (tg := 69) (np := 65) (by decide +kernel) (by decide) l36 (fun q43 => ?_) (fun q44 => ?_)
      · have q43 : v35 ≠ 2147483648 := q43
        refine x_const (np := 70) (x := 9223372039002259456) (a := 2147483648) (by decide +kernel) (by decide) (by decide) ?_
        refine x_cV (t := 6) (mj := 41) (n := 2) (rc := 3) (ml := 2) (nr := 0) (np := 73) (as := [x_r (ra0 + 11), iv_c 2147483648]) (rest := []) (lo1 := [x_r (ra0 + 11), iv_c 2147483648]) (by decide +kernel) (by decide) (by decide +kernel) (x_rb_of (tr_11_3 ta0)) rfl rfl (x_wr (tn_11 ta0) (x_wi (by decide) x_wn)) x_wn (by decide) rfl (c41_T11 j39 ta0 (by first | decide | omega)) (fun h48 q47 => ?_)
        obtain ⟨j49, f50⟩ := q47
        have f53 := Fr.trans f42 f50 (by decide)
        refine x_goto (np := 76) (x := 98) (by decide +kernel) ?_
        refine x_retV (np := 99) (x := 0) (by decide +kernel) (by decide +kernel) ⟨rfl, ?_⟩
        exact ⟨j49, f53⟩
      have q44 : ¬ (v35 ≠ 2147483648) := q44
      refine x_const (np := 66) (x := 9223372043297226753) (a := 2147483649) (by decide +kernel) (by decide) (by decide) ?_
      refine x_goto (np := 69) (x := 70) (by decide +kernel) ?_
      refine x_cV (t := 6) (mj := 41) (n := 2) (rc := 3) (ml := 2) (nr := 0) (np := 73) (as := [x_r (ra0 + 11), iv_c 2147483649]) (rest := []) (lo1 := [x_r (ra0 + 11), iv_c 2147483649]) (by decide +kernel) (by decide) (by decide +kernel) (x_rb_of (tr_11_3 ta0)) rfl rfl (x_wr (tn_11 ta0) (x_wi (by decide) x_wn)) x_wn (by decide) rfl (c41_T11 j39 ta0 (by first | decide | omega)) (fun h57 q56 => ?_)
      obtain ⟨j58, f59⟩ := q56
      have f62 := Fr.trans f42 f59 (by decide)
      refine x_goto (np := 76) (x := 98) (by decide +kernel) ?_
      refine x_retV (np := 99) (x := 0) (by decide +kernel) (by decide +kernel) ⟨rfl, ?_⟩
      exact ⟨j58, f62⟩
    have q4 : ¬ (2147485648 ≤ a1) := q4
    refine x_aload (np := 23) (x := 0) (by decide +kernel) rfl (x_nc_le (tn_11 ta0)) ?_
    refine x_iload (np := 24) (x := 1) (by decide +kernel) rfl la1 ?_
    refine x_const (np := 27) (x := 9223376333969556456) (a := 2147484648) (by decide +kernel) (by decide) (by decide) ?_
    obtain ⟨v63, q64⟩ : ∃ z, z + 2147484648 = a1 + 2147483648 := ⟨a1 + 2147483648 - 2147484648, by first | decide | omega⟩
    refine x_isub (np := 28) (x := 0) (v := v63) (by decide +kernel) la1 (by decide) (by first | decide | omega) (by first | decide | omega) ?_
    refine x_aload (np := 29) (x := 2) (by decide +kernel) rfl (x_nc_le (by decide)) ?_
    refine x_alen (np := 30) (x := 0) (n := 8) (by decide +kernel) (by decide) (by decide +kernel) (by decide +kernel) (by decide) ?_
    show X _ _ _ _ _ _ _ _ [iv_c 2147483656, iv_c v63, x_r (ra0 + 11)] _
    refine x_icmp (k := 3) (tg := 43) (np := 33) (by decide +kernel) (by decide) (by first | decide | omega) (by decide) (fun q65 => ?_) (fun q66 => ?_)
    · have q65 : 2147483656 ≤ v63 := q65
      refine x_const (np := 44) (x := 9223372039002259456) (a := 2147483648) (by decide +kernel) (by decide) (by decide) ?_
      refine x_cV (t := 6) (mj := 41) (n := 2) (rc := 3) (ml := 2) (nr := 0) (np := 47) (as := [x_r (ra0 + 11), iv_c 2147483648]) (rest := []) (lo1 := [x_r (ra0 + 11), iv_c 2147483648]) (by decide +kernel) (by decide) (by decide +kernel) (x_rb_of (tr_11_3 ta0)) rfl rfl (x_wr (tn_11 ta0) (x_wi (by decide) x_wn)) x_wn (by decide) rfl (c41_T11 hJ ta0 (by first | decide | omega)) (fun h70 q69 => ?_)
      obtain ⟨j71, f72⟩ := q69
      have f75 := Fr.trans hF f72 (by decide)
      refine x_goto (np := 50) (x := 98) (by decide +kernel) ?_
      refine x_retV (np := 99) (x := 0) (by decide +kernel) (by decide +kernel) ⟨rfl, ?_⟩
      exact ⟨j71, f75⟩
    have q66 : ¬ (2147483656 ≤ v63) := q66
    refine x_aload (np := 34) (x := 2) (by decide +kernel) rfl (x_nc_le (by decide)) ?_
    refine x_iload (np := 35) (x := 1) (by decide +kernel) rfl la1 ?_
    refine x_const (np := 38) (x := 9223376333969556456) (a := 2147484648) (by decide +kernel) (by decide) (by decide) ?_
    obtain ⟨v76, q77⟩ : ∃ z, z + 2147484648 = a1 + 2147483648 := ⟨a1 + 2147483648 - 2147484648, by first | decide | omega⟩
    refine x_isub (np := 39) (x := 0) (v := v76) (by decide +kernel) la1 (by decide) (by first | decide | omega) (by first | decide | omega) ?_
    obtain ⟨u78, q79⟩ : ∃ z, v76 = 2147483648 + z := ⟨v76 - 2147483648, by first | decide | omega⟩
    refine x_aldC (np := 40) (x := 0) (n := 8) (i := u78) (q := (h 58 u78)) (by decide +kernel) (by decide +kernel) (by first | decide | omega) (by first | decide | omega) (by decide) rfl (fun l80 => ?_)
    refine x_goto (np := 43) (x := 44) (by decide +kernel) ?_
    refine x_cV (t := 6) (mj := 41) (n := 2) (rc := 3) (ml := 2) (nr := 0) (np := 47) (as := [x_r (ra0 + 11), iv_c (h 58 u78)]) (rest := []) (lo1 := [x_r (ra0 + 11), iv_c (h 58 u78)]) (by decide +kernel) (by decide) (by decide +kernel) (x_rb_of (tr_11_3 ta0)) rfl rfl (x_wr (tn_11 ta0) (x_wi l80 x_wn)) x_wn (by decide) rfl (c41_T11 hJ ta0 (by first | decide | omega)) (fun h84 q83 => ?_)
    obtain ⟨j85, f86⟩ := q83
    have f89 := Fr.trans hF f86 (by decide)
    refine x_goto (np := 50) (x := 98) (by decide +kernel) ?_
    refine x_retV (np := 99) (x := 0) (by decide +kernel) (by decide +kernel) ⟨rfl, ?_⟩
    exact ⟨j85, f89⟩
  have q2 : ¬ (2147484648 ≤ a1) := q2
  refine x_aload (np := 8) (x := 0) (by decide +kernel) rfl (x_nc_le (tn_11 ta0)) ?_
  refine x_iload (np := 9) (x := 1) (by decide +kernel) rfl la1 ?_
  refine x_cV (t := 6) (mj := 41) (n := 2) (rc := 3) (ml := 2) (nr := 0) (np := 12) (as := [x_r (ra0 + 11), iv_c a1]) (rest := []) (lo1 := [x_r (ra0 + 11), iv_c a1]) (by decide +kernel) (by decide) (by decide +kernel) (x_rb_of (tr_11_3 ta0)) rfl rfl (x_wr (tn_11 ta0) (x_wi la1 x_wn)) x_wn (by decide) rfl (c41_T11 hJ ta0 (by first | decide | omega)) (fun h93 q92 => ?_)
  obtain ⟨j94, f95⟩ := q92
  have f98 := Fr.trans hF f95 (by decide)
  refine x_goto (np := 15) (x := 98) (by decide +kernel) ?_
  refine x_retV (np := 99) (x := 0) (by decide +kernel) (by decide +kernel) ⟨rfl, ?_⟩
  exact ⟨j94, f98⟩
set_option maxHeartbeats 0 in
/-- LentNames$Custom.grants([I)Z -/
theorem c38_T11_58 {sc : Nat × Nat} {d ra0 : Nat} {h : xh} (hJ : J h) (ta0 : tw ra0) : X sc 38 (d + 2) (xI fun r h' => J h' ∧ Fr 140737488355329 h h' ∧ (2147483648 ≤ r ∧ r ≤ 2147483649)) 0 0 0 [x_r (ra0 + 11), x_r 58, 147573952589676412928, 147573952589676412928] [] h := by
  have hF := Fr.refl 140737488355329 h
  refine x_aload (np := 1) (x := 0) (by decide +kernel) rfl (x_nc_le (tn_11 ta0)) ?_
  refine x_const (np := 2) (x := 9223372039002259456) (a := 2147483648) (by decide +kernel) (by decide) (by decide) ?_
  refine x_putI (np := 5) (x := 132) (f := 4) (by decide +kernel) (tg_11_132_4_0 ta0) (by decide) (Or.inl (by decide)) ?_
  have j2 := jU (e := 4) (v := 2147483648) 0 hJ (rg_T11_4_0_1 ta0) (by first | decide | omega) (by first | decide | omega) (by first | decide | omega)
  have f4 := jF (e := 4) (v := 2147483648) 0 hF (rg_T11_4_0_1 ta0) (by first | decide | omega) (by first | decide | omega) (by decide)
  generalize e3 : x_up h (ra0 + 11) 4 2147483648 = h1 at j2 f4 ⊢
  refine x_const (np := 6) (x := 9223372039002259456) (a := 2147483648) (by decide +kernel) (by decide) (by decide) ?_
  refine x_istore (np := 7) (x := 2) (lo' := [x_r (ra0 + 11), x_r 58, iv_c 2147483648, 147573952589676412928]) (by decide +kernel) (by decide) (Nat.le_of_ble_eq_true rfl) rfl ?_
  have p1340 : ∀ (n : Nat) (v1334 : Nat) (w1336 : Nat) (h1337 : xh), 4294967296 - v1334 < n → (2147483648 ≤ v1334 ∧ v1334 ≤ 2147484048) → J h1337 → Fr 140737488355329 h1 h1337 → X sc 38 (d + 2) (xI fun r h' => J h' ∧ Fr 140737488355329 h h' ∧ (2147483648 ≤ r ∧ r ≤ 2147483649)) 0 0 7 [x_r (ra0 + 11), x_r 58, iv_c v1334, w1336] [] h1337 := by
    intro n
    induction n with
    | zero => intro v1334 w1336 h1337 q1341; exact absurd q1341 (Nat.not_lt_zero _)
    | succ n i1342 =>
      intro v1334 w1336 h1337 q1341 b1335 j1339 f1338
      have f1343 := Fr.trans f4 f1338 (by decide)
      refine x_iload (np := 8) (x := 2) (by decide +kernel) rfl (by first | decide | omega) ?_
      refine x_aload (np := 9) (x := 0) (by decide +kernel) rfl (x_nc_le (tn_11 ta0)) ?_
      have q1344 : h1337 (ra0 + 11) 2 = h1 (ra0 + 11) 2 := jK 0 f1338 (rg_T11_2_0_1 ta0) (by first | decide | omega) (by first | decide | omega) (by decide)
      have q1345 : h1 (ra0 + 11) 2 = h (ra0 + 11) 2 := by rw [← e3]; exact x_up_i (by first | decide | omega)
      have b1346 := jB (e := 2) 0 hJ (rg_T11_2_0_1 ta0) (by first | decide | omega) (by first | decide | omega)
      refine x_getC (np := 12) (x := 130) (f := 2) (q := (h (ra0 + 11) 2)) (by decide +kernel) (by decide) (tg_11_130_2_0 ta0) (q1344.trans q1345) (fun l1347 => ?_)
      refine x_icmp (k := 3) (tg := 68) (np := 15) (by decide +kernel) (by decide) (by first | decide | omega) l1347 (fun q1348 => ?_) (fun q1349 => ?_)
      · have q1348 : (h (ra0 + 11) 2) ≤ v1334 := q1348
        refine x_const (np := 69) (x := 9223372043297226753) (a := 2147483649) (by decide +kernel) (by decide) (by decide) ?_
        refine x_retI (np := 70) (x := 0) (by decide +kernel) (by decide) (Or.inr ⟨by decide +kernel, by first | decide | omega, by first | decide | omega⟩) ⟨_, rfl, (by decide), ?_⟩
        exact ⟨j1339, f1343, (by first | decide | omega)⟩
      have q1349 : ¬ ((h (ra0 + 11) 2) ≤ v1334) := q1349
      refine x_aload (np := 16) (x := 0) (by decide +kernel) rfl (x_nc_le (tn_11 ta0)) ?_
      have q1350 : h1337 (ra0 + 11) 0 = (ra0 + 12) := tf_11_0 j1339 ta0
      refine x_getR (np := 19) (x := 128) (f := 0) (q := (ra0 + 12)) (by decide +kernel) (by decide) (tg_11_128_0_1 ta0) q1350 ?_
      refine x_iload (np := 20) (x := 2) (by decide +kernel) rfl (by first | decide | omega) ?_
      obtain ⟨u1351, q1352⟩ : ∃ z, v1334 = 2147483648 + z := ⟨v1334 - 2147483648, by first | decide | omega⟩
      have q1353 : h1337 (ra0 + 12) u1351 = h1 (ra0 + 12) u1351 := jK u1351 f1338 (rg_T12_0_1_400 ta0) (by first | decide | omega) (by first | decide | omega) (by decide)
      have q1354 : h1 (ra0 + 12) u1351 = h (ra0 + 12) u1351 := by rw [← e3]; exact x_up_k tof_12_11
      refine x_aldC (np := 21) (x := 0) (n := 400) (i := u1351) (q := (h (ra0 + 12) u1351)) (by decide +kernel) (ta_12_400 ta0) (by first | decide | omega) (by first | decide | omega) (by decide) (q1353.trans q1354) (fun l1355 => ?_)
      refine x_istore (np := 22) (x := 3) (lo' := [x_r (ra0 + 11), x_r 58, iv_c v1334, iv_c (h (ra0 + 12) u1351)]) (by decide +kernel) l1355 (Nat.le_of_ble_eq_true rfl) rfl ?_
      refine x_iload (np := 23) (x := 3) (by decide +kernel) rfl l1355 ?_
      refine x_const (np := 26) (x := 9223380654706657238) (a := 2147485654) (by decide +kernel) (by decide) (by decide) ?_
      refine x_icmp (k := 0) (tg := 36) (np := 29) (by decide +kernel) (by decide) l1355 (by decide) (fun q1356 => ?_) (fun q1357 => ?_)
      · have q1356 : (h (ra0 + 12) u1351) = 2147485654 := q1356
        refine x_aload (np := 37) (x := 0) (by decide +kernel) rfl (x_nc_le (tn_11 ta0)) ?_
        refine x_cI (t := 6) (mj := 42) (n := 1) (rc := 3) (ml := 1) (nr := 0) (np := 40) (as := [x_r (ra0 + 11)]) (rest := []) (lo1 := [x_r (ra0 + 11)]) (by decide +kernel) (by decide) (by decide +kernel) (x_rb_of (tr_11_3 ta0)) rfl rfl (x_wr (tn_11 ta0) x_wn) x_wn (by decide) rfl (c42_T11 j1339 ta0) (fun v1358 h1361 l1359 q1360 => ?_)
        obtain ⟨j1362, f1363, b1364⟩ := q1360
        have f1365 := Fr.trans f1343 f1363 (by decide)
        have f1366 := Fr.trans f1338 f1363 (by decide)
        refine x_ifz (k := 0) (tg := 62) (np := 43) (by decide +kernel) (by decide) l1359 (fun q1367 => ?_) (fun q1368 => ?_)
        · have q1367 : v1358 = 2147483648 := q1367
          refine x_iinc (np := 65) (i := 2) (j := 2147483649) (v := (1 + v1334)) (lo' := [x_r (ra0 + 11), x_r 58, iv_c (1 + v1334), iv_c (h (ra0 + 12) u1351)]) (by decide +kernel) (by decide) (by decide) rfl (by first | decide | omega) (by first | decide | omega) (by first | decide | omega) rfl ?_
          refine x_goto (np := 68) (x := 7) (by decide +kernel) ?_
          exact i1342 (1 + v1334) (iv_c (h (ra0 + 12) u1351)) h1361 (by first | decide | omega) (by first | decide | omega) j1362 f1366
        have q1368 : ¬ (v1358 = 2147483648) := q1368
        refine x_iload (np := 44) (x := 3) (by decide +kernel) rfl l1355 ?_
        refine x_const (np := 47) (x := 9223380654706657238) (a := 2147485654) (by decide +kernel) (by decide) (by decide) ?_
        refine x_icmp (k := 1) (tg := 54) (np := 50) (by decide +kernel) (by decide) l1355 (by decide) (fun q1369 => ?_) (fun q1370 => ?_)
        · have q1369 : (h (ra0 + 12) u1351) ≠ 2147485654 := q1369
          exfalso; omega
        have q1370 : ¬ ((h (ra0 + 12) u1351) ≠ 2147485654) := q1370
        refine x_const (np := 51) (x := 9223372043297226753) (a := 2147483649) (by decide +kernel) (by decide) (by decide) ?_
        refine x_goto (np := 54) (x := 55) (by decide +kernel) ?_
        refine x_retI (np := 56) (x := 0) (by decide +kernel) (by decide) (Or.inr ⟨by decide +kernel, by first | decide | omega, by first | decide | omega⟩) ⟨_, rfl, (by decide), ?_⟩
        exact ⟨j1362, f1365, (by first | decide | omega)⟩
      have q1357 : ¬ ((h (ra0 + 12) u1351) = 2147485654) := q1357
      refine x_iload (np := 30) (x := 3) (by decide +kernel) rfl l1355 ?_
      refine x_const (np := 33) (x := 9223380659001624535) (a := 2147485655) (by decide +kernel) (by decide) (by decide) ?_
      refine x_icmp (k := 1) (tg := 56) (np := 36) (by decide +kernel) (by decide) l1355 (by decide) (fun q1371 => ?_) (fun q1372 => ?_)
      · have q1371 : (h (ra0 + 12) u1351) ≠ 2147485655 := q1371
        refine x_aload (np := 57) (x := 0) (by decide +kernel) rfl (x_nc_le (tn_11 ta0)) ?_
        refine x_iload (np := 58) (x := 3) (by decide +kernel) rfl l1355 ?_
        refine x_aload (np := 59) (x := 1) (by decide +kernel) rfl (x_nc_le (by decide)) ?_
        refine x_cV (t := 6) (mj := 39) (n := 3) (rc := 3) (ml := 5) (nr := 0) (np := 62) (as := [x_r (ra0 + 11), iv_c (h (ra0 + 12) u1351), x_r 58]) (rest := []) (lo1 := [x_r (ra0 + 11), iv_c (h (ra0 + 12) u1351), x_r 58, 147573952589676412928, 147573952589676412928]) (by decide +kernel) (by decide) (by decide +kernel) (x_rb_of (tr_11_3 ta0)) rfl rfl (x_wr (tn_11 ta0) (x_wi l1355 (x_wr (by decide) x_wn))) x_wn (by decide) rfl (c39_T11_58 j1339 ta0 (by first | decide | omega) ) (fun h1376 q1375 => ?_)
        obtain ⟨j1377, f1378⟩ := q1375
        have f1381 := Fr.trans f1343 f1378 (by decide)
        have f1382 := Fr.trans f1338 f1378 (by decide)
        refine x_iinc (np := 65) (i := 2) (j := 2147483649) (v := (1 + v1334)) (lo' := [x_r (ra0 + 11), x_r 58, iv_c (1 + v1334), iv_c (h (ra0 + 12) u1351)]) (by decide +kernel) (by decide) (by decide) rfl (by first | decide | omega) (by first | decide | omega) (by first | decide | omega) rfl ?_
        refine x_goto (np := 68) (x := 7) (by decide +kernel) ?_
        exact i1342 (1 + v1334) (iv_c (h (ra0 + 12) u1351)) h1376 (by first | decide | omega) (by first | decide | omega) j1377 f1382
      have q1372 : ¬ ((h (ra0 + 12) u1351) ≠ 2147485655) := q1372
      refine x_aload (np := 37) (x := 0) (by decide +kernel) rfl (x_nc_le (tn_11 ta0)) ?_
      refine x_cI (t := 6) (mj := 42) (n := 1) (rc := 3) (ml := 1) (nr := 0) (np := 40) (as := [x_r (ra0 + 11)]) (rest := []) (lo1 := [x_r (ra0 + 11)]) (by decide +kernel) (by decide) (by decide +kernel) (x_rb_of (tr_11_3 ta0)) rfl rfl (x_wr (tn_11 ta0) x_wn) x_wn (by decide) rfl (c42_T11 j1339 ta0) (fun v1383 h1386 l1384 q1385 => ?_)
      obtain ⟨j1387, f1388, b1389⟩ := q1385
      have f1390 := Fr.trans f1343 f1388 (by decide)
      have f1391 := Fr.trans f1338 f1388 (by decide)
      refine x_ifz (k := 0) (tg := 62) (np := 43) (by decide +kernel) (by decide) l1384 (fun q1392 => ?_) (fun q1393 => ?_)
      · have q1392 : v1383 = 2147483648 := q1392
        refine x_iinc (np := 65) (i := 2) (j := 2147483649) (v := (1 + v1334)) (lo' := [x_r (ra0 + 11), x_r 58, iv_c (1 + v1334), iv_c (h (ra0 + 12) u1351)]) (by decide +kernel) (by decide) (by decide) rfl (by first | decide | omega) (by first | decide | omega) (by first | decide | omega) rfl ?_
        refine x_goto (np := 68) (x := 7) (by decide +kernel) ?_
        exact i1342 (1 + v1334) (iv_c (h (ra0 + 12) u1351)) h1386 (by first | decide | omega) (by first | decide | omega) j1387 f1391
      have q1393 : ¬ (v1383 = 2147483648) := q1393
      refine x_iload (np := 44) (x := 3) (by decide +kernel) rfl l1355 ?_
      refine x_const (np := 47) (x := 9223380654706657238) (a := 2147485654) (by decide +kernel) (by decide) (by decide) ?_
      refine x_icmp (k := 1) (tg := 54) (np := 50) (by decide +kernel) (by decide) l1355 (by decide) (fun q1394 => ?_) (fun q1395 => ?_)
      · have q1394 : (h (ra0 + 12) u1351) ≠ 2147485654 := q1394
        refine x_const (np := 55) (x := 9223372039002259456) (a := 2147483648) (by decide +kernel) (by decide) (by decide) ?_
        refine x_retI (np := 56) (x := 0) (by decide +kernel) (by decide) (Or.inr ⟨by decide +kernel, by first | decide | omega, by first | decide | omega⟩) ⟨_, rfl, (by decide), ?_⟩
        exact ⟨j1387, f1390, (by first | decide | omega)⟩
      have q1395 : ¬ ((h (ra0 + 12) u1351) ≠ 2147485654) := q1395
      exfalso; omega
  exact p1340 _ 2147483648 147573952589676412928 h1 (Nat.lt_succ_self _) (by first | decide | omega) j2 (Fr.refl _ _)
