/-! ===== methods ===== -/
set_option maxHeartbeats 0 in
/-- LentNamesLaw.look(LLentNames;II[J)I -/
theorem c291_0_97 {sc : Nat × Nat} {d a1 a2 : Nat} {h : xh} (hJ : J h) (ba1 : 0 ≤ a1 ∧ a1 ≤ 4294967295) (ba2 : 0 ≤ a2 ∧ a2 ≤ 4294967295) : X sc 291 (d + 4) (xI fun r h' => J h' ∧ Fr 70368744177664 h h' ∧ (2147483648 ≤ r ∧ r ≤ 2147483650)) 0 0 0 [x_r 0, iv_c a1, iv_c a2, x_r 97, 147573952589676412928] [] h := by
  have la1 : a1 < 4294967296 := by first | decide | omega
  have la2 : a2 < 4294967296 := by first | decide | omega
  have hF := Fr.refl 70368744177664 h
  refine x_aload (np := 1) (x := 3) (by decide +kernel) rfl (x_nc_le (by decide)) ?_
  refine x_const (np := 2) (x := 9223372039002259456) (a := 2147483648) (by decide +kernel) (by decide) (by decide) ?_
  refine x_aload (np := 3) (x := 0) (by decide +kernel) rfl (x_nc_le (by decide)) ?_
  refine x_iload (np := 4) (x := 1) (by decide +kernel) rfl la1 ?_
  refine x_iload (np := 5) (x := 2) (by decide +kernel) rfl la2 ?_
  refine x_cT (t := 6) (mj := 122) (n := 3) (rc := 11) (ml := 3) (cc := 2) (ss := 12) (nr := 2) (np := 8) (as := [x_r 0, iv_c a1, iv_c a2]) (rest := [iv_c 2147483648, x_r 97]) (lo1 := [x_r 0, iv_c a1, iv_c a2]) (by decide +kernel) (by decide) (by decide +kernel) (x_rb_of (by decide +kernel)) rfl rfl (x_wr (by decide) (x_wi la1 (x_wi la2 x_wn))) (x_wi (by decide) (x_wr (by decide) x_wn)) (by decide) rfl (c122_0 hJ  (by first | decide | omega) (by first | decide | omega)) (fun v1 h4 l2 q3 => ?_) (fun E6 h7 q5 => ?_)
  · obtain ⟨j8, f9, b10⟩ := q3
    have f11 := Fr.trans hF f9 (by decide)
    refine x_i2l (np := 9) (x := 0) (by decide +kernel) l2 ?_
    refine x_last (np := 10) (x := 0) (n := 1) (i := 0) (by decide +kernel) (by decide) (by decide +kernel) (by decide +kernel) (by first | decide | omega) (by first | decide | omega) (by decide) l2 ?_
    have j13 := jU (e := 0) (v := v1) 0 j8 rg_97_0_1_1 (by first | decide | omega) (by first | decide | omega) (by first | decide | omega)
    have f15 := jF (e := 0) (v := v1) 0 f11 rg_97_0_1_1 (by first | decide | omega) (by first | decide | omega) (by decide)
    generalize e14 : x_up h4 97 0 v1 = h12 at j13 f15 ⊢
    refine x_goto (np := 13) (x := 21) (by decide +kernel) ?_
    refine x_const (np := 22) (x := 9223372039002259456) (a := 2147483648) (by decide +kernel) (by decide) (by decide) ?_
    refine x_retI (np := 23) (x := 0) (by decide +kernel) (by decide) (Or.inl (by decide +kernel)) ⟨_, rfl, (by decide), ?_⟩
    exact ⟨j13, f15, (by first | decide | omega)⟩
  obtain ⟨j16, f17, e18⟩ := q5
  have f19 := Fr.trans hF f17 (by decide)
  rcases e18 with rfl | rfl
  · refine ⟨13, fun _ _ => rfl, ?_⟩
    refine x_astE (np := 15) (x := 4) (lo' := [x_r 0, iv_c a1, iv_c a2, x_r 97, 55340232221128654850]) (by decide +kernel) (Nat.le_of_ble_eq_true rfl) rfl ?_
    refine x_const (np := 16) (x := 9223372043297226753) (a := 2147483649) (by decide +kernel) (by decide) (by decide) ?_
    refine x_retI (np := 17) (x := 0) (by decide +kernel) (by decide) (Or.inl (by decide +kernel)) ⟨_, rfl, (by decide), ?_⟩
    exact ⟨j16, f19, (by first | decide | omega)⟩
  · refine ⟨17, fun _ _ => rfl, ?_⟩
    refine x_astE (np := 19) (x := 4) (lo' := [x_r 0, iv_c a1, iv_c a2, x_r 97, 55340232221128654850]) (by decide +kernel) (Nat.le_of_ble_eq_true rfl) rfl ?_
    refine x_const (np := 20) (x := 9223372047592194050) (a := 2147483650) (by decide +kernel) (by decide) (by decide) ?_
    refine x_retI (np := 21) (x := 0) (by decide +kernel) (by decide) (Or.inl (by decide +kernel)) ⟨_, rfl, (by decide), ?_⟩
    exact ⟨j16, f19, (by first | decide | omega)⟩
set_option maxHeartbeats 0 in
/-- LentNames.owes(IZ)I -/
theorem c123_0 {sc : Nat × Nat} {d a1 a2 : Nat} {h : xh} (hJ : J h) (ba1 : 0 ≤ a1 ∧ a1 ≤ 4294967295) (ba2 : 2147483648 ≤ a2 ∧ a2 ≤ 2147483649) : X sc 123 (d + 1) (xT (fun r h' => J h' ∧ Fr 0 h h' ∧ (0 ≤ r ∧ r ≤ 4294967295)) (fun E h' => J h' ∧ Fr 0 h h' ∧ (E = 2))) 0 0 0 [x_r 0, iv_c a1, iv_c a2, 147573952589676412928, 147573952589676412928, 147573952589676412928] [] h := by
  have la1 : a1 < 4294967296 := by first | decide | omega
  have la2 : a2 < 4294967296 := by first | decide | omega
  have hF := Fr.refl 0 h
  refine x_aload (np := 1) (x := 0) (by decide +kernel) rfl (x_nc_le (by decide)) ?_
  refine x_iload (np := 2) (x := 1) (by decide +kernel) rfl la1 ?_
  refine x_nU (t := 6) (mj := 145) (n := 2) (rc := 11) (ml := 2) (cc := 1) (ss := 6) (nr := 0) (np := 5) (as := [x_r 0, iv_c a1]) (rest := []) (lo1 := [x_r 0, iv_c a1]) (by decide +kernel) (by decide) (by decide +kernel) (by decide +kernel) (x_rb_of (by decide +kernel)) rfl rfl (x_wr (by decide) (x_wi la1 x_wn)) x_wn (by decide) rfl ?_
  refine x_iload (np := 1) (x := 1) (by decide +kernel) rfl la1 ?_
  refine x_ifz (k := 2) (tg := 15) (np := 4) (by decide +kernel) (by decide) la1 (fun q1 => ?_) (fun q2 => ?_)
  · have q1 : a1 < 2147483648 := q1
    refine x_thr (np := 18) (x := 2) (by decide +kernel) (by decide +kernel) (Nat.le_trans x_wn (by decide)) (Or.inr ⟨_, rfl, ?_⟩)
    refine Or.inr ⟨_, rfl, ?_⟩
    exact ⟨hJ, hF, by decide⟩
  have q2 : ¬ (a1 < 2147483648) := q2
  refine x_iload (np := 5) (x := 1) (by decide +kernel) rfl la1 ?_
  refine x_aload (np := 6) (x := 0) (by decide +kernel) rfl (x_nc_le (by decide)) ?_
  have t3 : tw (h 0 8) := hJ.2.1
  refine x_getR (np := 9) (x := 648) (f := 8) (q := (h 0 8)) (by decide +kernel) (by decide) (by decide +kernel) rfl ?_
  have b4 := jB (e := 7) 0 hJ (rg_T0_7_0_1 t3) (by first | decide | omega) (by first | decide | omega)
  refine x_getC (np := 12) (x := 519) (f := 7) (q := (h (h 0 8) 7)) (by decide +kernel) (by decide) (tg_0_519_7_0 t3) rfl (fun l5 => ?_)
  refine x_icmp (k := 2) (tg := 26) (np := 15) (by decide +kernel) (by decide) la1 l5 (fun q6 => ?_) (fun q7 => ?_)
  · have q6 : a1 < (h (h 0 8) 7) := q6
    refine x_retV (np := 27) (x := 0) (by decide +kernel) (by decide +kernel) (Or.inl ⟨rfl, ?_⟩)
    refine x_const (np := 6) (x := 9223372039002259456) (a := 2147483648) (by decide +kernel) (by decide) (by decide) ?_
    refine x_istore (np := 7) (x := 3) (lo' := [x_r 0, iv_c a1, iv_c a2, iv_c 2147483648, 147573952589676412928, 147573952589676412928]) (by decide +kernel) (by decide) (Nat.le_of_ble_eq_true rfl) rfl ?_
    refine x_const (np := 8) (x := 9223372039002259456) (a := 2147483648) (by decide +kernel) (by decide) (by decide) ?_
    refine x_istore (np := 10) (x := 4) (lo' := [x_r 0, iv_c a1, iv_c a2, iv_c 2147483648, iv_c 2147483648, 147573952589676412928]) (by decide +kernel) (by decide) (Nat.le_of_ble_eq_true rfl) rfl ?_
    have p793 : ∀ (n : Nat) (v788 : Nat) (v790 : Nat) (w792 : Nat), 4294967296 - v790 < n → (0 ≤ v788 ∧ v788 ≤ 4294967295) → (2147483648 ≤ v790 ∧ v790 ≤ 2147483668) → X sc 123 (d + 1) (xT (fun r h' => J h' ∧ Fr 0 h h' ∧ (0 ≤ r ∧ r ≤ 4294967295)) (fun E h' => J h' ∧ Fr 0 h h' ∧ (E = 2))) 1 6 10 [x_r 0, iv_c a1, iv_c a2, iv_c v788, iv_c v790, w792] [] h := by
      intro n
      induction n with
      | zero => intro v788 v790 w792 q794; exact absurd q794 (Nat.not_lt_zero _)
      | succ n i795 =>
        intro v788 v790 w792 q794 b789 b791
        refine x_iload (np := 12) (x := 4) (by decide +kernel) rfl (by first | decide | omega) ?_
        refine x_aload (np := 13) (x := 0) (by decide +kernel) rfl (x_nc_le (by decide)) ?_
        refine x_getR (np := 16) (x := 648) (f := 8) (q := (h 0 8)) (by decide +kernel) (by decide) (by decide +kernel) rfl ?_
        have q796 : h (h 0 8) 0 = ((h 0 8) + 1) := tf_0_0 hJ t3
        refine x_getR (np := 19) (x := 512) (f := 0) (q := ((h 0 8) + 1)) (by decide +kernel) (by decide) (tg_0_512_0_1 t3) q796 ?_
        have b797 := jB (e := 2) 0 hJ (rg_T1_2_0_1 t3) (by first | decide | omega) (by first | decide | omega)
        refine x_getC (np := 22) (x := 386) (f := 2) (q := (h ((h 0 8) + 1) 2)) (by decide +kernel) (by decide) (tg_1_386_2_0 t3) rfl (fun l798 => ?_)
        refine x_icmp (k := 3) (tg := 82) (np := 25) (by decide +kernel) (by decide) (by first | decide | omega) l798 (fun q799 => ?_) (fun q800 => ?_)
        · have q799 : (h ((h 0 8) + 1) 2) ≤ v790 := q799
          refine x_iload (np := 83) (x := 3) (by decide +kernel) rfl (by first | decide | omega) ?_
          refine x_retI (np := 84) (x := 0) (by decide +kernel) (by first | decide | omega) (Or.inl (by decide +kernel)) (Or.inl ⟨_, rfl, (by first | decide | omega), ?_⟩)
          exact ⟨hJ, hF, (by first | decide | omega)⟩
        have q800 : ¬ ((h ((h 0 8) + 1) 2) ≤ v790) := q800
        refine x_iload (np := 26) (x := 2) (by decide +kernel) rfl la2 ?_
        refine x_ifz (k := 0) (tg := 42) (np := 29) (by decide +kernel) (by decide) la2 (fun q801 => ?_) (fun q802 => ?_)
        · have q801 : a2 = 2147483648 := q801
          refine x_aload (np := 43) (x := 0) (by decide +kernel) rfl (x_nc_le (by decide)) ?_
          refine x_getR (np := 46) (x := 648) (f := 8) (q := (h 0 8)) (by decide +kernel) (by decide) (by decide +kernel) rfl ?_
          have q803 : h (h 0 8) 0 = ((h 0 8) + 1) := tf_0_0 hJ t3
          refine x_getR (np := 49) (x := 512) (f := 0) (q := ((h 0 8) + 1)) (by decide +kernel) (by decide) (tg_0_512_0_1 t3) q803 ?_
          refine x_iload (np := 51) (x := 4) (by decide +kernel) rfl (by first | decide | omega) ?_
          refine x_const (np := 52) (x := 9223372043297226753) (a := 2147483649) (by decide +kernel) (by decide) (by decide) ?_
          refine x_nI (t := 6) (mj := 68) (n := 3) (rc := 7) (ml := 4) (nr := 0) (np := 55) (as := [x_r ((h 0 8) + 1), iv_c v790, iv_c 2147483649]) (rest := []) (lo1 := [x_r ((h 0 8) + 1), iv_c v790, iv_c 2147483649, 147573952589676412928]) (by decide +kernel) (by decide) (by decide +kernel) (x_rb_of (tr_1_7 t3)) rfl rfl (x_wr (tn_1 t3) (x_wi (by first | decide | omega) (x_wi (by decide) x_wn))) x_wn (by decide) rfl ?_
          refine x_iload (np := 1) (x := 1) (by decide +kernel) rfl (by first | decide | omega) ?_
          refine x_ifz (k := 2) (tg := 28) (np := 4) (by decide +kernel) (by decide) (by first | decide | omega) (fun q804 => ?_) (fun q805 => ?_)
          · have q804 : v790 < 2147483648 := q804
            exfalso; omega
          have q805 : ¬ (v790 < 2147483648) := q805
          refine x_iload (np := 5) (x := 1) (by decide +kernel) rfl (by first | decide | omega) ?_
          refine x_aload (np := 6) (x := 0) (by decide +kernel) rfl (x_nc_le (tn_1 t3)) ?_
          refine x_getC (np := 9) (x := 386) (f := 2) (q := (h ((h 0 8) + 1) 2)) (by decide +kernel) (by decide) (tg_1_386_2_0 t3) rfl (fun l806 => ?_)
          refine x_icmp (k := 3) (tg := 28) (np := 12) (by decide +kernel) (by decide) (by first | decide | omega) l798 (fun q807 => ?_) (fun q808 => ?_)
          · have q807 : (h ((h 0 8) + 1) 2) ≤ v790 := q807
            exfalso; omega
          have q808 : ¬ ((h ((h 0 8) + 1) 2) ≤ v790) := q808
          refine x_iload (np := 13) (x := 2) (by decide +kernel) rfl (by decide) ?_
          refine x_ifz (k := 2) (tg := 28) (np := 16) (by decide +kernel) (by decide) (by decide) (fun q809 => ?_) (fun q810 => ?_)
          · have q809 : 2147483649 < 2147483648 := q809
            exfalso; omega
          have q810 : ¬ (2147483649 < 2147483648) := q810
          refine x_iload (np := 17) (x := 2) (by decide +kernel) rfl (by decide) ?_
          refine x_aload (np := 18) (x := 0) (by decide +kernel) rfl (x_nc_le (tn_1 t3)) ?_
          have b811 := jB (e := 0) 0 hJ (rg_T1_0_0_1 t3) (by first | decide | omega) (by first | decide | omega)
          have q812 : (h ((h 0 8) + 1) 0) = 2147483655 := by first | decide | omega
          refine x_getC (np := 21) (x := 384) (f := 0) (q := 2147483655) (by decide +kernel) (by decide) (tg_1_384_0_0 t3) q812 (fun l813 => ?_)
          refine x_icmp (k := 3) (tg := 28) (np := 24) (by decide +kernel) (by decide) (by decide) (by decide) (fun q814 => ?_) (fun q815 => ?_)
          · have q814 : 2147483655 ≤ 2147483649 := q814
            exfalso; omega
          have q815 : ¬ (2147483655 ≤ 2147483649) := q815
          refine x_const (np := 25) (x := 9223372043297226753) (a := 2147483649) (by decide +kernel) (by decide) (by decide) ?_
          refine x_goto (np := 28) (x := 29) (by decide +kernel) ?_
          refine x_istore (np := 30) (x := 3) (lo' := [x_r ((h 0 8) + 1), iv_c v790, iv_c 2147483649, iv_c 2147483649]) (by decide +kernel) (by decide) (Nat.le_of_ble_eq_true rfl) rfl ?_
          refine x_iload (np := 31) (x := 3) (by decide +kernel) rfl (by decide) ?_
          refine x_ifz (k := 0) (tg := 50) (np := 34) (by decide +kernel) (by decide) (by decide) (fun q816 => ?_) (fun q817 => ?_)
          · have q816 : 2147483649 = 2147483648 := q816
            exfalso; omega
          have q817 : ¬ (2147483649 = 2147483648) := q817
          refine x_aload (np := 35) (x := 0) (by decide +kernel) rfl (x_nc_le (tn_1 t3)) ?_
          have q818 : h ((h 0 8) + 1) 1 = ((h 0 8) + 2) := tf_1_1 hJ t3
          refine x_getR (np := 38) (x := 385) (f := 1) (q := ((h 0 8) + 2)) (by decide +kernel) (by decide) (tg_1_385_1_1 t3) q818 ?_
          refine x_iload (np := 39) (x := 1) (by decide +kernel) rfl (by first | decide | omega) ?_
          refine x_aload (np := 40) (x := 0) (by decide +kernel) rfl (x_nc_le (tn_1 t3)) ?_
          refine x_getC (np := 43) (x := 384) (f := 0) (q := 2147483655) (by decide +kernel) (by decide) (tg_1_384_0_0 t3) q812 (fun l819 => ?_)
          obtain ⟨u820, q821⟩ : ∃ z, v790 = 2147483648 + z := ⟨v790 - 2147483648, by first | decide | omega⟩
          refine x_imul (np := 44) (x := 0) (i := u820) (j := 7) (v := (2147483648 + 7 * u820)) (by decide +kernel) (by first | decide | omega) (by first | decide | omega) (by first | decide | omega) (by first | decide | omega) (by first | decide | omega) (by decide) ?_
          refine x_iload (np := 45) (x := 2) (by decide +kernel) rfl (by decide) ?_
          refine x_iadd (np := 46) (x := 0) (v := (2147483649 + 7 * u820)) (by decide +kernel) (by first | decide | omega) (by decide) (by first | decide | omega) (by first | decide | omega) ?_
          refine x_aldC (np := 47) (x := 0) (n := 140) (i := (1 + 7 * u820)) (q := ((h ((h 0 8) + 2) (1 + 7 * u820)))) (by decide +kernel) (ta_2_140 t3) (by first | decide | omega) (by first | decide | omega) (by decide) rfl (fun l823 => ?_)
          refine x_goto (np := 50) (x := 51) (by decide +kernel) ?_
          refine x_retI (np := 52) (x := 0) (by decide +kernel) l823 (Or.inl (by decide +kernel)) ⟨_, rfl, l823, ?_⟩
          refine x_istore (np := 57) (x := 5) (lo' := [x_r 0, iv_c a1, iv_c a2, iv_c v788, iv_c v790, iv_c ((h ((h 0 8) + 2) (1 + 7 * u820)))]) (by decide +kernel) l823 (Nat.le_of_ble_eq_true rfl) rfl ?_
          refine x_iload (np := 59) (x := 5) (by decide +kernel) rfl l823 ?_
          refine x_iload (np := 60) (x := 1) (by decide +kernel) rfl la1 ?_
          refine x_icmp (k := 1) (tg := 76) (np := 63) (by decide +kernel) (by decide) l823 la1 (fun q824 => ?_) (fun q825 => ?_)
          · have q824 : ((h ((h 0 8) + 2) (1 + 7 * u820))) ≠ a1 := q824
            refine x_iinc (np := 79) (i := 4) (j := 2147483649) (v := (1 + v790)) (lo' := [x_r 0, iv_c a1, iv_c a2, iv_c v788, iv_c (1 + v790), iv_c ((h ((h 0 8) + 2) (1 + 7 * u820)))]) (by decide +kernel) (by decide) (by decide) rfl (by first | decide | omega) (by first | decide | omega) (by first | decide | omega) rfl ?_
            refine x_goto (np := 82) (x := 10) (by decide +kernel) ?_
            exact i795 v788 (1 + v790) (iv_c ((h ((h 0 8) + 2) (1 + 7 * u820)))) (by first | decide | omega) (by first | decide | omega) (by first | decide | omega)
          have q825 : ¬ (((h ((h 0 8) + 2) (1 + 7 * u820))) ≠ a1) := q825
          refine x_iload (np := 64) (x := 3) (by decide +kernel) rfl (by first | decide | omega) ?_
          refine x_aload (np := 65) (x := 0) (by decide +kernel) rfl (x_nc_le (by decide)) ?_
          have q826 : h 0 1 = 45 := by have z := jB (e := 1) 0 hJ rg_0_1_0_1 (by decide) (by decide); omega
          refine x_getR (np := 68) (x := 641) (f := 1) (q := 45) (by decide +kernel) (by decide) (by decide +kernel) q826 ?_
          have q827 : h 45 4 = 50 := by have z := jB (e := 4) 0 hJ rg_45_4_0_1 (by decide) (by decide); omega
          refine x_getR (np := 71) (x := 68) (f := 4) (q := 50) (by decide +kernel) (by decide) (by decide +kernel) q827 ?_
          refine x_iload (np := 73) (x := 4) (by decide +kernel) rfl (by first | decide | omega) ?_
          refine x_aldC (np := 74) (x := 0) (n := 20) (i := u820) (q := (h 50 u820)) (by decide +kernel) (by decide +kernel) (by first | decide | omega) (by first | decide | omega) (by decide) rfl (fun l828 => ?_)
          refine x_addA (by rw [tb_b123]; decide +kernel) (by first | decide | omega) l828 (fun v829 l830 => ?_)
          refine x_istore (np := 76) (x := 3) (lo' := [x_r 0, iv_c a1, iv_c a2, iv_c v829, iv_c v790, iv_c ((h ((h 0 8) + 2) (1 + 7 * u820)))]) (by decide +kernel) l830 (Nat.le_of_ble_eq_true rfl) rfl ?_
          refine x_iinc (np := 79) (i := 4) (j := 2147483649) (v := (1 + v790)) (lo' := [x_r 0, iv_c a1, iv_c a2, iv_c v829, iv_c (1 + v790), iv_c ((h ((h 0 8) + 2) (1 + 7 * u820)))]) (by decide +kernel) (by decide) (by decide) rfl (by first | decide | omega) (by first | decide | omega) (by first | decide | omega) rfl ?_
          refine x_goto (np := 82) (x := 10) (by decide +kernel) ?_
          exact i795 v829 (1 + v790) (iv_c ((h ((h 0 8) + 2) (1 + 7 * u820)))) (by first | decide | omega) (by first | decide | omega) (by first | decide | omega)
        have q802 : ¬ (a2 = 2147483648) := q802
        refine x_aload (np := 30) (x := 0) (by decide +kernel) rfl (x_nc_le (by decide)) ?_
        have q831 : h 0 1 = 45 := by have z := jB (e := 1) 0 hJ rg_0_1_0_1 (by decide) (by decide); omega
        refine x_getR (np := 33) (x := 641) (f := 1) (q := 45) (by decide +kernel) (by decide) (by decide +kernel) q831 ?_
        have q832 : h 45 2 = 48 := by have z := jB (e := 2) 0 hJ rg_45_2_0_1 (by decide) (by decide); omega
        refine x_getR (np := 36) (x := 66) (f := 2) (q := 48) (by decide +kernel) (by decide) (by decide +kernel) q832 ?_
        refine x_iload (np := 38) (x := 4) (by decide +kernel) rfl (by first | decide | omega) ?_
        obtain ⟨u833, q834⟩ : ∃ z, v790 = 2147483648 + z := ⟨v790 - 2147483648, by first | decide | omega⟩
        refine x_aldC (np := 39) (x := 0) (n := 20) (i := u833) (q := (h 48 u833)) (by decide +kernel) (by decide +kernel) (by first | decide | omega) (by first | decide | omega) (by decide) rfl (fun l835 => ?_)
        refine x_goto (np := 42) (x := 55) (by decide +kernel) ?_
        refine x_istore (np := 57) (x := 5) (lo' := [x_r 0, iv_c a1, iv_c a2, iv_c v788, iv_c v790, iv_c (h 48 u833)]) (by decide +kernel) l835 (Nat.le_of_ble_eq_true rfl) rfl ?_
        refine x_iload (np := 59) (x := 5) (by decide +kernel) rfl l835 ?_
        refine x_iload (np := 60) (x := 1) (by decide +kernel) rfl la1 ?_
        refine x_icmp (k := 1) (tg := 76) (np := 63) (by decide +kernel) (by decide) l835 la1 (fun q836 => ?_) (fun q837 => ?_)
        · have q836 : (h 48 u833) ≠ a1 := q836
          refine x_iinc (np := 79) (i := 4) (j := 2147483649) (v := (1 + v790)) (lo' := [x_r 0, iv_c a1, iv_c a2, iv_c v788, iv_c (1 + v790), iv_c (h 48 u833)]) (by decide +kernel) (by decide) (by decide) rfl (by first | decide | omega) (by first | decide | omega) (by first | decide | omega) rfl ?_
          refine x_goto (np := 82) (x := 10) (by decide +kernel) ?_
          exact i795 v788 (1 + v790) (iv_c (h 48 u833)) (by first | decide | omega) (by first | decide | omega) (by first | decide | omega)
        have q837 : ¬ ((h 48 u833) ≠ a1) := q837
        refine x_iload (np := 64) (x := 3) (by decide +kernel) rfl (by first | decide | omega) ?_
        refine x_aload (np := 65) (x := 0) (by decide +kernel) rfl (x_nc_le (by decide)) ?_
        have q838 : h 0 1 = 45 := by have z := jB (e := 1) 0 hJ rg_0_1_0_1 (by decide) (by decide); omega
        refine x_getR (np := 68) (x := 641) (f := 1) (q := 45) (by decide +kernel) (by decide) (by decide +kernel) q838 ?_
        have q839 : h 45 4 = 50 := by have z := jB (e := 4) 0 hJ rg_45_4_0_1 (by decide) (by decide); omega
        refine x_getR (np := 71) (x := 68) (f := 4) (q := 50) (by decide +kernel) (by decide) (by decide +kernel) q839 ?_
        refine x_iload (np := 73) (x := 4) (by decide +kernel) rfl (by first | decide | omega) ?_
        refine x_aldC (np := 74) (x := 0) (n := 20) (i := u833) (q := (h 50 u833)) (by decide +kernel) (by decide +kernel) (by first | decide | omega) (by first | decide | omega) (by decide) rfl (fun l840 => ?_)
        refine x_addA (by rw [tb_b123]; decide +kernel) (by first | decide | omega) l840 (fun v841 l842 => ?_)
        refine x_istore (np := 76) (x := 3) (lo' := [x_r 0, iv_c a1, iv_c a2, iv_c v841, iv_c v790, iv_c (h 48 u833)]) (by decide +kernel) l842 (Nat.le_of_ble_eq_true rfl) rfl ?_
        refine x_iinc (np := 79) (i := 4) (j := 2147483649) (v := (1 + v790)) (lo' := [x_r 0, iv_c a1, iv_c a2, iv_c v841, iv_c (1 + v790), iv_c (h 48 u833)]) (by decide +kernel) (by decide) (by decide) rfl (by first | decide | omega) (by first | decide | omega) (by first | decide | omega) rfl ?_
        refine x_goto (np := 82) (x := 10) (by decide +kernel) ?_
        exact i795 v841 (1 + v790) (iv_c (h 48 u833)) (by first | decide | omega) (by first | decide | omega) (by first | decide | omega)
    exact p793 _ 2147483648 2147483648 147573952589676412928 (Nat.lt_succ_self _) (by first | decide | omega) (by first | decide | omega)
  have q7 : ¬ (a1 < (h (h 0 8) 7)) := q7
  refine x_thr (np := 18) (x := 2) (by decide +kernel) (by decide +kernel) (Nat.le_trans x_wn (by decide)) (Or.inr ⟨_, rfl, ?_⟩)
  refine Or.inr ⟨_, rfl, ?_⟩
  exact ⟨hJ, hF, by decide⟩
set_option maxHeartbeats 0 in
/-- LentNamesLaw.owes(LLentNames;IZ[J)I -/
theorem c292_0_97 {sc : Nat × Nat} {d a1 a2 : Nat} {h : xh} (hJ : J h) (ba1 : 0 ≤ a1 ∧ a1 ≤ 4294967295) (ba2 : 2147483648 ≤ a2 ∧ a2 ≤ 2147483649) : X sc 292 (d + 2) (xI fun r h' => J h' ∧ Fr 70368744177664 h h' ∧ (2147483648 ≤ r ∧ r ≤ 2147483649)) 0 0 0 [x_r 0, iv_c a1, iv_c a2, x_r 97, 147573952589676412928] [] h := by
  have la1 : a1 < 4294967296 := by first | decide | omega
  have la2 : a2 < 4294967296 := by first | decide | omega
  have hF := Fr.refl 70368744177664 h
  refine x_aload (np := 1) (x := 3) (by decide +kernel) rfl (x_nc_le (by decide)) ?_
  refine x_const (np := 2) (x := 9223372039002259456) (a := 2147483648) (by decide +kernel) (by decide) (by decide) ?_
  refine x_aload (np := 3) (x := 0) (by decide +kernel) rfl (x_nc_le (by decide)) ?_
  refine x_iload (np := 4) (x := 1) (by decide +kernel) rfl la1 ?_
  refine x_iload (np := 5) (x := 2) (by decide +kernel) rfl la2 ?_
  refine x_cT (t := 6) (mj := 123) (n := 3) (rc := 11) (ml := 6) (cc := 1) (ss := 6) (nr := 2) (np := 8) (as := [x_r 0, iv_c a1, iv_c a2]) (rest := [iv_c 2147483648, x_r 97]) (lo1 := [x_r 0, iv_c a1, iv_c a2, 147573952589676412928, 147573952589676412928, 147573952589676412928]) (by decide +kernel) (by decide) (by decide +kernel) (x_rb_of (by decide +kernel)) rfl rfl (x_wr (by decide) (x_wi la1 (x_wi la2 x_wn))) (x_wi (by decide) (x_wr (by decide) x_wn)) (by decide) rfl (c123_0 hJ  (by first | decide | omega) (by first | decide | omega)) (fun v1 h4 l2 q3 => ?_) (fun E6 h7 q5 => ?_)
  · obtain ⟨j8, f9, b10⟩ := q3
    have f11 := Fr.trans hF f9 (by decide)
    refine x_i2l (np := 9) (x := 0) (by decide +kernel) l2 ?_
    refine x_last (np := 10) (x := 0) (n := 1) (i := 0) (by decide +kernel) (by decide) (by decide +kernel) (by decide +kernel) (by first | decide | omega) (by first | decide | omega) (by decide) l2 ?_
    have j13 := jU (e := 0) (v := v1) 0 j8 rg_97_0_1_1 (by first | decide | omega) (by first | decide | omega) (by first | decide | omega)
    have f15 := jF (e := 0) (v := v1) 0 f11 rg_97_0_1_1 (by first | decide | omega) (by first | decide | omega) (by decide)
    generalize e14 : x_up h4 97 0 v1 = h12 at j13 f15 ⊢
    refine x_goto (np := 13) (x := 17) (by decide +kernel) ?_
    refine x_const (np := 18) (x := 9223372039002259456) (a := 2147483648) (by decide +kernel) (by decide) (by decide) ?_
    refine x_retI (np := 19) (x := 0) (by decide +kernel) (by decide) (Or.inl (by decide +kernel)) ⟨_, rfl, (by decide), ?_⟩
    exact ⟨j13, f15, (by first | decide | omega)⟩
  obtain ⟨j16, f17, e18⟩ := q5
  have f19 := Fr.trans hF f17 (by decide)
  rcases e18 with rfl
  · refine ⟨13, fun _ _ => rfl, ?_⟩
    refine x_astE (np := 15) (x := 4) (lo' := [x_r 0, iv_c a1, iv_c a2, x_r 97, 55340232221128654850]) (by decide +kernel) (Nat.le_of_ble_eq_true rfl) rfl ?_
    refine x_const (np := 16) (x := 9223372043297226753) (a := 2147483649) (by decide +kernel) (by decide) (by decide) ?_
    refine x_retI (np := 17) (x := 0) (by decide +kernel) (by decide) (Or.inl (by decide +kernel)) ⟨_, rfl, (by decide), ?_⟩
    exact ⟨j16, f19, (by first | decide | omega)⟩
set_option maxHeartbeats 0 in
/-- LentNames$Calendar.firstBorne(II)I -/
theorem c11_45 {sc : Nat × Nat} {d a1 a2 : Nat} {h : xh} (hJ : J h) (ba1 : 2147483648 ≤ a1 ∧ a1 ≤ 2147483653) (ba2 : 0 ≤ a2 ∧ a2 ≤ 4294967295) : X sc 11 (d + 2) (xI fun r h' => h' = h ∧ (2147483647 ≤ r ∧ r ≤ 2147483659)) 0 0 0 [x_r 45, iv_c a1, iv_c a2, 147573952589676412928] [] h := by
  have la1 : a1 < 4294967296 := by first | decide | omega
  have la2 : a2 < 4294967296 := by first | decide | omega
  refine x_iload (np := 1) (x := 2) (by decide +kernel) rfl la2 ?_
  refine x_const (np := 2) (x := 9223372039002259456) (a := 2147483648) (by decide +kernel) (by decide) (by decide) ?_
  refine x_max (np := 5) (by decide +kernel) la2 (by decide) (Nat.le_trans (x_wi (by decide) (x_wi la2 x_wn)) (by decide)) ?_
  obtain ⟨v1, q2⟩ : ∃ w, w = max a2 2147483648 := ⟨_, rfl⟩
  rw [← q2]
  have b3 : a2 ≤ v1 ∧ 2147483648 ≤ v1 := by first | decide | omega
  refine x_istore (np := 6) (x := 3) (lo' := [x_r 45, iv_c a1, iv_c a2, iv_c v1]) (by decide +kernel) (by first | decide | omega) (Nat.le_of_ble_eq_true rfl) rfl ?_
  have p15 : ∀ (n : Nat) (v13 : Nat), 4294967296 - v13 < n → (2147483648 ≤ v13 ∧ v13 ≤ 4294967295) → X sc 11 (d + 2) (xI fun r h' => h' = h ∧ (2147483647 ≤ r ∧ r ≤ 2147483659)) 0 0 6 [x_r 45, iv_c a1, iv_c a2, iv_c v13] [] h := by
    intro n
    induction n with
    | zero => intro v13 q16; exact absurd q16 (Nat.not_lt_zero _)
    | succ n i17 =>
      intro v13 q16 b14
      refine x_iload (np := 7) (x := 3) (by decide +kernel) rfl (by first | decide | omega) ?_
      refine x_const (np := 9) (x := 9223372090541867020) (a := 2147483660) (by decide +kernel) (by decide) (by decide) ?_
      refine x_icmp (k := 3) (tg := 30) (np := 12) (by decide +kernel) (by decide) (by first | decide | omega) (by decide) (fun q18 => ?_) (fun q19 => ?_)
      · have q18 : 2147483660 ≤ v13 := q18
        refine x_const (np := 31) (x := 9223372034707292159) (a := 2147483647) (by decide +kernel) (by decide) (by decide) ?_
        refine x_retI (np := 32) (x := 0) (by decide +kernel) (by decide) (Or.inl (by decide +kernel)) ⟨_, rfl, (by decide), ?_⟩
        exact ⟨rfl, (by first | decide | omega)⟩
      have q19 : ¬ (2147483660 ≤ v13) := q19
      refine x_aload (np := 13) (x := 0) (by decide +kernel) rfl (x_nc_le (by decide)) ?_
      refine x_iload (np := 14) (x := 1) (by decide +kernel) rfl la1 ?_
      refine x_iload (np := 15) (x := 3) (by decide +kernel) rfl (by first | decide | omega) ?_
      refine x_cP (t := 6) (mj := 5) (n := 3) (rc := 2) (ml := 3) (nr := 0) (np := 18) (as := [x_r 45, iv_c a1, iv_c v13]) (rest := []) (lo1 := [x_r 45, iv_c a1, iv_c v13]) (by decide +kernel) (by decide) (by decide +kernel) (x_rb_of (by decide +kernel)) rfl rfl (x_wr (by decide) (x_wi la1 (x_wi (by first | decide | omega) x_wn))) x_wn (by decide) rfl (c5_45 hJ  (by first | decide | omega) (by first | decide | omega)) (fun v20 l21 q22 => ?_)
      refine x_const (np := 19) (x := 9223372034707292159) (a := 2147483647) (by decide +kernel) (by decide) (by decide) ?_
      refine x_icmp (k := 0) (tg := 24) (np := 22) (by decide +kernel) (by decide) l21 (by decide) (fun q23 => ?_) (fun q24 => ?_)
      · have q23 : v20 = 2147483647 := q23
        refine x_iinc (np := 27) (i := 3) (j := 2147483649) (v := (1 + v13)) (lo' := [x_r 45, iv_c a1, iv_c a2, iv_c (1 + v13)]) (by decide +kernel) (by decide) (by decide) rfl (by first | decide | omega) (by first | decide | omega) (by first | decide | omega) rfl ?_
        refine x_goto (np := 30) (x := 6) (by decide +kernel) ?_
        exact i17 (1 + v13) (by first | decide | omega) (by first | decide | omega)
      have q24 : ¬ (v20 = 2147483647) := q24
      refine x_iload (np := 23) (x := 3) (by decide +kernel) rfl (by first | decide | omega) ?_
      refine x_retI (np := 24) (x := 0) (by decide +kernel) (by first | decide | omega) (Or.inl (by decide +kernel)) ⟨_, rfl, (by first | decide | omega), ?_⟩
      exact ⟨rfl, (by first | decide | omega)⟩
  exact p15 _ v1 (Nat.lt_succ_self _) (by first | decide | omega)
set_option maxHeartbeats 0 in
/-- LentNames.letter(II)I -/
theorem c124_0 {sc : Nat × Nat} {d a1 a2 : Nat} {h : xh} (hJ : J h) (ba1 : 0 ≤ a1 ∧ a1 ≤ 4294967295) (ba2 : 0 ≤ a2 ∧ a2 ≤ 4294967295) : X sc 124 (d + 3) (xT (fun r h' => J h' ∧ Fr 0 h h' ∧ (2147483647 ≤ r ∧ r ≤ 2147483659)) (fun E h' => J h' ∧ Fr 0 h h' ∧ (E = 2 ∨ E = 4))) 0 0 0 [x_r 0, iv_c a1, iv_c a2, 147573952589676412928, 147573952589676412928] [] h := by
  have la1 : a1 < 4294967296 := by first | decide | omega
  have la2 : a2 < 4294967296 := by first | decide | omega
  have hF := Fr.refl 0 h
  refine x_aload (np := 1) (x := 0) (by decide +kernel) rfl (x_nc_le (by decide)) ?_
  have t1 : tw (h 0 8) := hJ.2.1
  refine x_getR (np := 4) (x := 648) (f := 8) (q := (h 0 8)) (by decide +kernel) (by decide) (by decide +kernel) rfl ?_
  have q2 : h (h 0 8) 1 = ((h 0 8) + 3) := tf_0_1 hJ t1
  refine x_getR (np := 7) (x := 513) (f := 1) (q := ((h 0 8) + 3)) (by decide +kernel) (by decide) (tg_0_513_1_1 t1) q2 ?_
  refine x_iload (np := 8) (x := 1) (by decide +kernel) rfl la1 ?_
  refine x_nU (t := 0) (mj := 147) (n := 2) (rc := 0) (ml := 2) (cc := 1) (ss := 6) (nr := 0) (np := 11) (as := [x_r ((h 0 8) + 3), iv_c a1]) (rest := []) (lo1 := [x_r ((h 0 8) + 3), iv_c a1]) (by decide +kernel) (by decide) (by decide +kernel) (by decide +kernel) (Or.inl rfl) rfl rfl (x_wr (tn_3 t1) (x_wi la1 x_wn)) x_wn (by decide) rfl ?_
  refine x_iload (np := 1) (x := 1) (by decide +kernel) rfl la1 ?_
  refine x_ifz (k := 2) (tg := 12) (np := 4) (by decide +kernel) (by decide) la1 (fun q3 => ?_) (fun q4 => ?_)
  · have q3 : a1 < 2147483648 := q3
    refine x_thr (np := 15) (x := 2) (by decide +kernel) (by decide +kernel) (Nat.le_trans x_wn (by decide)) (Or.inr ⟨_, rfl, ?_⟩)
    refine Or.inr ⟨_, rfl, ?_⟩
    exact ⟨hJ, hF, by decide⟩
  have q4 : ¬ (a1 < 2147483648) := q4
  refine x_iload (np := 5) (x := 1) (by decide +kernel) rfl la1 ?_
  refine x_aload (np := 6) (x := 0) (by decide +kernel) rfl (x_nc_le (tn_3 t1)) ?_
  have b5 := jB (e := 2) 0 hJ (rg_T3_2_0_1 t1) (by first | decide | omega) (by first | decide | omega)
  refine x_getC (np := 9) (x := 386) (f := 2) (q := (h ((h 0 8) + 3) 2)) (by decide +kernel) (by decide) (tg_3_386_2_0 t1) rfl (fun l6 => ?_)
  refine x_icmp (k := 2) (tg := 23) (np := 12) (by decide +kernel) (by decide) la1 l6 (fun q7 => ?_) (fun q8 => ?_)
  · have q7 : a1 < (h ((h 0 8) + 3) 2) := q7
    refine x_retV (np := 24) (x := 0) (by decide +kernel) (by decide +kernel) (Or.inl ⟨rfl, ?_⟩)
    refine x_iload (np := 12) (x := 2) (by decide +kernel) rfl la2 ?_
    refine x_ifz (k := 2) (tg := 20) (np := 15) (by decide +kernel) (by decide) la2 (fun q9 => ?_) (fun q10 => ?_)
    · have q9 : a2 < 2147483648 := q9
      refine x_thrN (is := 238) (text := "a letter has no such number") rfl rfl (List.mem_of_getElem? (i := 9) rfl) (by rw [tb_b124]; decide +kernel) (by rw [tb_b124]; decide +kernel) (by rw [tb_b124]; decide +kernel) (by rw [tb_b124]; decide +kernel) (by rw [tb_b124]; decide +kernel) (by decide +kernel) (Nat.le_trans x_wn (by decide)) (Or.inr ⟨_, rfl, ?_⟩)
      exact ⟨hJ, hF, by decide⟩
    have q10 : ¬ (a2 < 2147483648) := q10
    refine x_iload (np := 16) (x := 2) (by decide +kernel) rfl la2 ?_
    refine x_const (np := 17) (x := 9223372047592194050) (a := 2147483650) (by decide +kernel) (by decide) (by decide) ?_
    refine x_icmp (k := 5) (tg := 30) (np := 20) (by decide +kernel) (by decide) la2 (by decide) (fun q11 => ?_) (fun q12 => ?_)
    · have q11 : a2 ≤ 2147483650 := q11
      refine x_aload (np := 31) (x := 0) (by decide +kernel) rfl (x_nc_le (by decide)) ?_
      refine x_getR (np := 34) (x := 648) (f := 8) (q := (h 0 8)) (by decide +kernel) (by decide) (by decide +kernel) rfl ?_
      have q13 : h (h 0 8) 1 = ((h 0 8) + 3) := tf_0_1 hJ t1
      refine x_getR (np := 37) (x := 513) (f := 1) (q := ((h 0 8) + 3)) (by decide +kernel) (by decide) (tg_0_513_1_1 t1) q13 ?_
      refine x_iload (np := 38) (x := 1) (by decide +kernel) rfl la1 ?_
      refine x_const (np := 39) (x := 9223372039002259456) (a := 2147483648) (by decide +kernel) (by decide) (by decide) ?_
      refine x_nI (t := 6) (mj := 68) (n := 3) (rc := 7) (ml := 4) (nr := 0) (np := 42) (as := [x_r ((h 0 8) + 3), iv_c a1, iv_c 2147483648]) (rest := []) (lo1 := [x_r ((h 0 8) + 3), iv_c a1, iv_c 2147483648, 147573952589676412928]) (by decide +kernel) (by decide) (by decide +kernel) (x_rb_of (tr_3_7 t1)) rfl rfl (x_wr (tn_3 t1) (x_wi la1 (x_wi (by decide) x_wn))) x_wn (by decide) rfl ?_
      refine x_iload (np := 1) (x := 1) (by decide +kernel) rfl la1 ?_
      refine x_ifz (k := 2) (tg := 28) (np := 4) (by decide +kernel) (by decide) la1 (fun q14 => ?_) (fun q15 => ?_)
      · have q14 : a1 < 2147483648 := q14
        exfalso; omega
      have q15 : ¬ (a1 < 2147483648) := q15
      refine x_iload (np := 5) (x := 1) (by decide +kernel) rfl la1 ?_
      refine x_aload (np := 6) (x := 0) (by decide +kernel) rfl (x_nc_le (tn_3 t1)) ?_
      refine x_getC (np := 9) (x := 386) (f := 2) (q := (h ((h 0 8) + 3) 2)) (by decide +kernel) (by decide) (tg_3_386_2_0 t1) rfl (fun l16 => ?_)
      refine x_icmp (k := 3) (tg := 28) (np := 12) (by decide +kernel) (by decide) la1 l6 (fun q17 => ?_) (fun q18 => ?_)
      · have q17 : (h ((h 0 8) + 3) 2) ≤ a1 := q17
        exfalso; omega
      have q18 : ¬ ((h ((h 0 8) + 3) 2) ≤ a1) := q18
      refine x_iload (np := 13) (x := 2) (by decide +kernel) rfl (by decide) ?_
      refine x_ifz (k := 2) (tg := 28) (np := 16) (by decide +kernel) (by decide) (by decide) (fun q19 => ?_) (fun q20 => ?_)
      · have q19 : 2147483648 < 2147483648 := q19
        exfalso; omega
      have q20 : ¬ (2147483648 < 2147483648) := q20
      refine x_iload (np := 17) (x := 2) (by decide +kernel) rfl (by decide) ?_
      refine x_aload (np := 18) (x := 0) (by decide +kernel) rfl (x_nc_le (tn_3 t1)) ?_
      have b21 := jB (e := 0) 0 hJ (rg_T3_0_0_1 t1) (by first | decide | omega) (by first | decide | omega)
      have q22 : (h ((h 0 8) + 3) 0) = 2147483652 := by first | decide | omega
      refine x_getC (np := 21) (x := 384) (f := 0) (q := 2147483652) (by decide +kernel) (by decide) (tg_3_384_0_0 t1) q22 (fun l23 => ?_)
      refine x_icmp (k := 3) (tg := 28) (np := 24) (by decide +kernel) (by decide) (by decide) (by decide) (fun q24 => ?_) (fun q25 => ?_)
      · have q24 : 2147483652 ≤ 2147483648 := q24
        exfalso; omega
      have q25 : ¬ (2147483652 ≤ 2147483648) := q25
      refine x_const (np := 25) (x := 9223372043297226753) (a := 2147483649) (by decide +kernel) (by decide) (by decide) ?_
      refine x_goto (np := 28) (x := 29) (by decide +kernel) ?_
      refine x_istore (np := 30) (x := 3) (lo' := [x_r ((h 0 8) + 3), iv_c a1, iv_c 2147483648, iv_c 2147483649]) (by decide +kernel) (by decide) (Nat.le_of_ble_eq_true rfl) rfl ?_
      refine x_iload (np := 31) (x := 3) (by decide +kernel) rfl (by decide) ?_
      refine x_ifz (k := 0) (tg := 50) (np := 34) (by decide +kernel) (by decide) (by decide) (fun q26 => ?_) (fun q27 => ?_)
      · have q26 : 2147483649 = 2147483648 := q26
        exfalso; omega
      have q27 : ¬ (2147483649 = 2147483648) := q27
      refine x_aload (np := 35) (x := 0) (by decide +kernel) rfl (x_nc_le (tn_3 t1)) ?_
      have q28 : h ((h 0 8) + 3) 1 = ((h 0 8) + 4) := tf_3_1 hJ t1
      refine x_getR (np := 38) (x := 385) (f := 1) (q := ((h 0 8) + 4)) (by decide +kernel) (by decide) (tg_3_385_1_1 t1) q28 ?_
      refine x_iload (np := 39) (x := 1) (by decide +kernel) rfl la1 ?_
      refine x_aload (np := 40) (x := 0) (by decide +kernel) rfl (x_nc_le (tn_3 t1)) ?_
      refine x_getC (np := 43) (x := 384) (f := 0) (q := 2147483652) (by decide +kernel) (by decide) (tg_3_384_0_0 t1) q22 (fun l29 => ?_)
      obtain ⟨u30, q31⟩ : ∃ z, a1 = 2147483648 + z := ⟨a1 - 2147483648, by first | decide | omega⟩
      refine x_imul (np := 44) (x := 0) (i := u30) (j := 4) (v := (2147483648 + 4 * u30)) (by decide +kernel) (by first | decide | omega) (by first | decide | omega) (by first | decide | omega) (by first | decide | omega) la1 (by decide) ?_
      refine x_iload (np := 45) (x := 2) (by decide +kernel) rfl (by decide) ?_
      refine x_iadd (np := 46) (x := 0) (v := (2147483648 + 4 * u30)) (by decide +kernel) (by first | decide | omega) (by decide) (by first | decide | omega) (by first | decide | omega) ?_
      have b33 := jB (e := (4 * u30)) u30 hJ (rg_T4_0_4_10 t1) (by first | decide | omega) (by first | decide | omega)
      refine x_aldC (np := 47) (x := 0) (n := 40) (i := (4 * u30)) (q := ((h ((h 0 8) + 4) (4 * u30)))) (by decide +kernel) (ta_4_40 t1) (by first | decide | omega) (by first | decide | omega) (by decide) rfl (fun l34 => ?_)
      refine x_goto (np := 50) (x := 51) (by decide +kernel) ?_
      refine x_retI (np := 52) (x := 0) (by decide +kernel) l34 (Or.inl (by decide +kernel)) ⟨_, rfl, l34, ?_⟩
      refine x_istore (np := 43) (x := 3) (lo' := [x_r 0, iv_c a1, iv_c a2, iv_c ((h ((h 0 8) + 4) (4 * u30))), 147573952589676412928]) (by decide +kernel) l34 (Nat.le_of_ble_eq_true rfl) rfl ?_
      refine x_iload (np := 44) (x := 2) (by decide +kernel) rfl la2 ?_
      refine x_ifz (k := 1) (tg := 68) (np := 47) (by decide +kernel) (by decide) la2 (fun q35 => ?_) (fun q36 => ?_)
      · have q35 : a2 ≠ 2147483648 := q35
        refine x_aload (np := 69) (x := 0) (by decide +kernel) rfl (x_nc_le (by decide)) ?_
        have q37 : h 0 1 = 45 := by have z := jB (e := 1) 0 hJ rg_0_1_0_1 (by decide) (by decide); omega
        refine x_getR (np := 72) (x := 641) (f := 1) (q := 45) (by decide +kernel) (by decide) (by decide +kernel) q37 ?_
        refine x_iload (np := 73) (x := 3) (by decide +kernel) rfl l34 ?_
        refine x_aload (np := 74) (x := 0) (by decide +kernel) rfl (x_nc_le (by decide)) ?_
        refine x_getR (np := 77) (x := 648) (f := 8) (q := (h 0 8)) (by decide +kernel) (by decide) (by decide +kernel) rfl ?_
        have q38 : h (h 0 8) 1 = ((h 0 8) + 3) := tf_0_1 hJ t1
        refine x_getR (np := 80) (x := 513) (f := 1) (q := ((h 0 8) + 3)) (by decide +kernel) (by decide) (tg_0_513_1_1 t1) q38 ?_
        refine x_iload (np := 81) (x := 1) (by decide +kernel) rfl la1 ?_
        refine x_const (np := 82) (x := 9223372047592194050) (a := 2147483650) (by decide +kernel) (by decide) (by decide) ?_
        refine x_nI (t := 6) (mj := 68) (n := 3) (rc := 7) (ml := 4) (nr := 2) (np := 85) (as := [x_r ((h 0 8) + 3), iv_c a1, iv_c 2147483650]) (rest := [iv_c ((h ((h 0 8) + 4) (4 * u30))), x_r 45]) (lo1 := [x_r ((h 0 8) + 3), iv_c a1, iv_c 2147483650, 147573952589676412928]) (by decide +kernel) (by decide) (by decide +kernel) (x_rb_of (tr_3_7 t1)) rfl rfl (x_wr (tn_3 t1) (x_wi la1 (x_wi (by decide) x_wn))) (x_wi l34 (x_wr (by decide) x_wn)) (by decide) rfl ?_
        refine x_iload (np := 1) (x := 1) (by decide +kernel) rfl la1 ?_
        refine x_ifz (k := 2) (tg := 28) (np := 4) (by decide +kernel) (by decide) la1 (fun q39 => ?_) (fun q40 => ?_)
        · have q39 : a1 < 2147483648 := q39
          exfalso; omega
        have q40 : ¬ (a1 < 2147483648) := q40
        refine x_iload (np := 5) (x := 1) (by decide +kernel) rfl la1 ?_
        refine x_aload (np := 6) (x := 0) (by decide +kernel) rfl (x_nc_le (tn_3 t1)) ?_
        refine x_getC (np := 9) (x := 386) (f := 2) (q := (h ((h 0 8) + 3) 2)) (by decide +kernel) (by decide) (tg_3_386_2_0 t1) rfl (fun l41 => ?_)
        refine x_icmp (k := 3) (tg := 28) (np := 12) (by decide +kernel) (by decide) la1 l6 (fun q42 => ?_) (fun q43 => ?_)
        · have q42 : (h ((h 0 8) + 3) 2) ≤ a1 := q42
          exfalso; omega
        have q43 : ¬ ((h ((h 0 8) + 3) 2) ≤ a1) := q43
        refine x_iload (np := 13) (x := 2) (by decide +kernel) rfl (by decide) ?_
        refine x_ifz (k := 2) (tg := 28) (np := 16) (by decide +kernel) (by decide) (by decide) (fun q44 => ?_) (fun q45 => ?_)
        · have q44 : 2147483650 < 2147483648 := q44
          exfalso; omega
        have q45 : ¬ (2147483650 < 2147483648) := q45
        refine x_iload (np := 17) (x := 2) (by decide +kernel) rfl (by decide) ?_
        refine x_aload (np := 18) (x := 0) (by decide +kernel) rfl (x_nc_le (tn_3 t1)) ?_
        refine x_getC (np := 21) (x := 384) (f := 0) (q := 2147483652) (by decide +kernel) (by decide) (tg_3_384_0_0 t1) q22 (fun l46 => ?_)
        refine x_icmp (k := 3) (tg := 28) (np := 24) (by decide +kernel) (by decide) (by decide) (by decide) (fun q47 => ?_) (fun q48 => ?_)
        · have q47 : 2147483652 ≤ 2147483650 := q47
          exfalso; omega
        have q48 : ¬ (2147483652 ≤ 2147483650) := q48
        refine x_const (np := 25) (x := 9223372043297226753) (a := 2147483649) (by decide +kernel) (by decide) (by decide) ?_
        refine x_goto (np := 28) (x := 29) (by decide +kernel) ?_
        refine x_istore (np := 30) (x := 3) (lo' := [x_r ((h 0 8) + 3), iv_c a1, iv_c 2147483650, iv_c 2147483649]) (by decide +kernel) (by decide) (Nat.le_of_ble_eq_true rfl) rfl ?_
        refine x_iload (np := 31) (x := 3) (by decide +kernel) rfl (by decide) ?_
        refine x_ifz (k := 0) (tg := 50) (np := 34) (by decide +kernel) (by decide) (by decide) (fun q49 => ?_) (fun q50 => ?_)
        · have q49 : 2147483649 = 2147483648 := q49
          exfalso; omega
        have q50 : ¬ (2147483649 = 2147483648) := q50
        refine x_aload (np := 35) (x := 0) (by decide +kernel) rfl (x_nc_le (tn_3 t1)) ?_
        have q51 : h ((h 0 8) + 3) 1 = ((h 0 8) + 4) := tf_3_1 hJ t1
        refine x_getR (np := 38) (x := 385) (f := 1) (q := ((h 0 8) + 4)) (by decide +kernel) (by decide) (tg_3_385_1_1 t1) q51 ?_
        refine x_iload (np := 39) (x := 1) (by decide +kernel) rfl la1 ?_
        refine x_aload (np := 40) (x := 0) (by decide +kernel) rfl (x_nc_le (tn_3 t1)) ?_
        refine x_getC (np := 43) (x := 384) (f := 0) (q := 2147483652) (by decide +kernel) (by decide) (tg_3_384_0_0 t1) q22 (fun l52 => ?_)
        refine x_imul (np := 44) (x := 0) (i := u30) (j := 4) (v := (2147483648 + 4 * u30)) (by decide +kernel) (by first | decide | omega) (by first | decide | omega) (by first | decide | omega) (by first | decide | omega) la1 (by decide) ?_
        refine x_iload (np := 45) (x := 2) (by decide +kernel) rfl (by decide) ?_
        refine x_iadd (np := 46) (x := 0) (v := (2147483650 + 4 * u30)) (by decide +kernel) (by first | decide | omega) (by decide) (by first | decide | omega) (by first | decide | omega) ?_
        refine x_aldC (np := 47) (x := 0) (n := 40) (i := (2 + 4 * u30)) (q := ((h ((h 0 8) + 4) (2 + 4 * u30)))) (by decide +kernel) (ta_4_40 t1) (by first | decide | omega) (by first | decide | omega) (by decide) rfl (fun l54 => ?_)
        refine x_goto (np := 50) (x := 51) (by decide +kernel) ?_
        refine x_retI (np := 52) (x := 0) (by decide +kernel) l54 (Or.inl (by decide +kernel)) ⟨_, rfl, l54, ?_⟩
        refine x_cP (t := 6) (mj := 11) (n := 3) (rc := 2) (ml := 4) (nr := 0) (np := 88) (as := [x_r 45, iv_c ((h ((h 0 8) + 4) (4 * u30))), iv_c ((h ((h 0 8) + 4) (2 + 4 * u30)))]) (rest := []) (lo1 := [x_r 45, iv_c ((h ((h 0 8) + 4) (4 * u30))), iv_c ((h ((h 0 8) + 4) (2 + 4 * u30))), 147573952589676412928]) (by decide +kernel) (by decide) (by decide +kernel) (x_rb_of (by decide +kernel)) rfl rfl (x_wr (by decide) (x_wi l34 (x_wi l54 x_wn))) x_wn (by decide) rfl (c11_45 hJ  (by first | decide | omega) (by first | decide | omega)) (fun v55 l56 q57 => ?_)
        refine x_istore (np := 90) (x := 4) (lo' := [x_r 0, iv_c a1, iv_c a2, iv_c ((h ((h 0 8) + 4) (4 * u30))), iv_c v55]) (by decide +kernel) l56 (Nat.le_of_ble_eq_true rfl) rfl ?_
        refine x_iload (np := 92) (x := 4) (by decide +kernel) rfl l56 ?_
        refine x_const (np := 93) (x := 9223372034707292159) (a := 2147483647) (by decide +kernel) (by decide) (by decide) ?_
        refine x_icmp (k := 0) (tg := 101) (np := 96) (by decide +kernel) (by decide) l56 (by decide) (fun q58 => ?_) (fun q59 => ?_)
        · have q58 : v55 = 2147483647 := q58
          refine x_iload (np := 103) (x := 4) (by decide +kernel) rfl l56 ?_
          refine x_retI (np := 104) (x := 0) (by decide +kernel) l56 (Or.inl (by decide +kernel)) (Or.inl ⟨_, rfl, l56, ?_⟩)
          exact ⟨hJ, hF, (by first | decide | omega)⟩
        have q59 : ¬ (v55 = 2147483647) := q59
        refine x_iload (np := 97) (x := 2) (by decide +kernel) rfl la2 ?_
        refine x_const (np := 98) (x := 9223372047592194050) (a := 2147483650) (by decide +kernel) (by decide) (by decide) ?_
        refine x_icmp (k := 1) (tg := 104) (np := 101) (by decide +kernel) (by decide) la2 (by decide) (fun q60 => ?_) (fun q61 => ?_)
        · have q60 : a2 ≠ 2147483650 := q60
          refine x_aload (np := 105) (x := 0) (by decide +kernel) rfl (x_nc_le (by decide)) ?_
          have q62 : h 0 1 = 45 := by have z := jB (e := 1) 0 hJ rg_0_1_0_1 (by decide) (by decide); omega
          refine x_getR (np := 108) (x := 641) (f := 1) (q := 45) (by decide +kernel) (by decide) (by decide +kernel) q62 ?_
          refine x_iload (np := 109) (x := 3) (by decide +kernel) rfl l34 ?_
          refine x_iload (np := 111) (x := 4) (by decide +kernel) rfl l56 ?_
          refine x_cP (t := 6) (mj := 5) (n := 3) (rc := 2) (ml := 3) (nr := 0) (np := 114) (as := [x_r 45, iv_c ((h ((h 0 8) + 4) (4 * u30))), iv_c v55]) (rest := []) (lo1 := [x_r 45, iv_c ((h ((h 0 8) + 4) (4 * u30))), iv_c v55]) (by decide +kernel) (by decide) (by decide +kernel) (x_rb_of (by decide +kernel)) rfl rfl (x_wr (by decide) (x_wi l34 (x_wi l56 x_wn))) x_wn (by decide) rfl (c5_45 hJ  (by first | decide | omega) (by first | decide | omega)) (fun v63 l64 q65 => ?_)
          refine x_retI (np := 115) (x := 0) (by decide +kernel) l64 (Or.inl (by decide +kernel)) (Or.inl ⟨_, rfl, l64, ?_⟩)
          exact ⟨hJ, hF, (by first | decide | omega)⟩
        have q61 : ¬ (a2 ≠ 2147483650) := q61
        refine x_iload (np := 103) (x := 4) (by decide +kernel) rfl l56 ?_
        refine x_retI (np := 104) (x := 0) (by decide +kernel) l56 (Or.inl (by decide +kernel)) (Or.inl ⟨_, rfl, l56, ?_⟩)
        exact ⟨hJ, hF, (by first | decide | omega)⟩
      have q36 : ¬ (a2 ≠ 2147483648) := q36
      refine x_aload (np := 48) (x := 0) (by decide +kernel) rfl (x_nc_le (by decide)) ?_
      have q66 : h 0 1 = 45 := by have z := jB (e := 1) 0 hJ rg_0_1_0_1 (by decide) (by decide); omega
      refine x_getR (np := 51) (x := 641) (f := 1) (q := 45) (by decide +kernel) (by decide) (by decide +kernel) q66 ?_
      refine x_iload (np := 52) (x := 3) (by decide +kernel) rfl l34 ?_
      refine x_aload (np := 53) (x := 0) (by decide +kernel) rfl (x_nc_le (by decide)) ?_
      refine x_getR (np := 56) (x := 648) (f := 8) (q := (h 0 8)) (by decide +kernel) (by decide) (by decide +kernel) rfl ?_
      have q67 : h (h 0 8) 1 = ((h 0 8) + 3) := tf_0_1 hJ t1
      refine x_getR (np := 59) (x := 513) (f := 1) (q := ((h 0 8) + 3)) (by decide +kernel) (by decide) (tg_0_513_1_1 t1) q67 ?_
      refine x_iload (np := 60) (x := 1) (by decide +kernel) rfl la1 ?_
      refine x_const (np := 61) (x := 9223372043297226753) (a := 2147483649) (by decide +kernel) (by decide) (by decide) ?_
      refine x_nI (t := 6) (mj := 68) (n := 3) (rc := 7) (ml := 4) (nr := 2) (np := 64) (as := [x_r ((h 0 8) + 3), iv_c a1, iv_c 2147483649]) (rest := [iv_c ((h ((h 0 8) + 4) (4 * u30))), x_r 45]) (lo1 := [x_r ((h 0 8) + 3), iv_c a1, iv_c 2147483649, 147573952589676412928]) (by decide +kernel) (by decide) (by decide +kernel) (x_rb_of (tr_3_7 t1)) rfl rfl (x_wr (tn_3 t1) (x_wi la1 (x_wi (by decide) x_wn))) (x_wi l34 (x_wr (by decide) x_wn)) (by decide) rfl ?_
      refine x_iload (np := 1) (x := 1) (by decide +kernel) rfl la1 ?_
      refine x_ifz (k := 2) (tg := 28) (np := 4) (by decide +kernel) (by decide) la1 (fun q68 => ?_) (fun q69 => ?_)
      · have q68 : a1 < 2147483648 := q68
        exfalso; omega
      have q69 : ¬ (a1 < 2147483648) := q69
      refine x_iload (np := 5) (x := 1) (by decide +kernel) rfl la1 ?_
      refine x_aload (np := 6) (x := 0) (by decide +kernel) rfl (x_nc_le (tn_3 t1)) ?_
      refine x_getC (np := 9) (x := 386) (f := 2) (q := (h ((h 0 8) + 3) 2)) (by decide +kernel) (by decide) (tg_3_386_2_0 t1) rfl (fun l70 => ?_)
      refine x_icmp (k := 3) (tg := 28) (np := 12) (by decide +kernel) (by decide) la1 l6 (fun q71 => ?_) (fun q72 => ?_)
      · have q71 : (h ((h 0 8) + 3) 2) ≤ a1 := q71
        exfalso; omega
      have q72 : ¬ ((h ((h 0 8) + 3) 2) ≤ a1) := q72
      refine x_iload (np := 13) (x := 2) (by decide +kernel) rfl (by decide) ?_
      refine x_ifz (k := 2) (tg := 28) (np := 16) (by decide +kernel) (by decide) (by decide) (fun q73 => ?_) (fun q74 => ?_)
      · have q73 : 2147483649 < 2147483648 := q73
        exfalso; omega
      have q74 : ¬ (2147483649 < 2147483648) := q74
      refine x_iload (np := 17) (x := 2) (by decide +kernel) rfl (by decide) ?_
      refine x_aload (np := 18) (x := 0) (by decide +kernel) rfl (x_nc_le (tn_3 t1)) ?_
      refine x_getC (np := 21) (x := 384) (f := 0) (q := 2147483652) (by decide +kernel) (by decide) (tg_3_384_0_0 t1) q22 (fun l75 => ?_)
      refine x_icmp (k := 3) (tg := 28) (np := 24) (by decide +kernel) (by decide) (by decide) (by decide) (fun q76 => ?_) (fun q77 => ?_)
      · have q76 : 2147483652 ≤ 2147483649 := q76
        exfalso; omega
      have q77 : ¬ (2147483652 ≤ 2147483649) := q77
      refine x_const (np := 25) (x := 9223372043297226753) (a := 2147483649) (by decide +kernel) (by decide) (by decide) ?_
      refine x_goto (np := 28) (x := 29) (by decide +kernel) ?_
      refine x_istore (np := 30) (x := 3) (lo' := [x_r ((h 0 8) + 3), iv_c a1, iv_c 2147483649, iv_c 2147483649]) (by decide +kernel) (by decide) (Nat.le_of_ble_eq_true rfl) rfl ?_
      refine x_iload (np := 31) (x := 3) (by decide +kernel) rfl (by decide) ?_
      refine x_ifz (k := 0) (tg := 50) (np := 34) (by decide +kernel) (by decide) (by decide) (fun q78 => ?_) (fun q79 => ?_)
      · have q78 : 2147483649 = 2147483648 := q78
        exfalso; omega
      have q79 : ¬ (2147483649 = 2147483648) := q79
      refine x_aload (np := 35) (x := 0) (by decide +kernel) rfl (x_nc_le (tn_3 t1)) ?_
      have q80 : h ((h 0 8) + 3) 1 = ((h 0 8) + 4) := tf_3_1 hJ t1
      refine x_getR (np := 38) (x := 385) (f := 1) (q := ((h 0 8) + 4)) (by decide +kernel) (by decide) (tg_3_385_1_1 t1) q80 ?_
      refine x_iload (np := 39) (x := 1) (by decide +kernel) rfl la1 ?_
      refine x_aload (np := 40) (x := 0) (by decide +kernel) rfl (x_nc_le (tn_3 t1)) ?_
      refine x_getC (np := 43) (x := 384) (f := 0) (q := 2147483652) (by decide +kernel) (by decide) (tg_3_384_0_0 t1) q22 (fun l81 => ?_)
      refine x_imul (np := 44) (x := 0) (i := u30) (j := 4) (v := (2147483648 + 4 * u30)) (by decide +kernel) (by first | decide | omega) (by first | decide | omega) (by first | decide | omega) (by first | decide | omega) la1 (by decide) ?_
      refine x_iload (np := 45) (x := 2) (by decide +kernel) rfl (by decide) ?_
      refine x_iadd (np := 46) (x := 0) (v := (2147483649 + 4 * u30)) (by decide +kernel) (by first | decide | omega) (by decide) (by first | decide | omega) (by first | decide | omega) ?_
      refine x_aldC (np := 47) (x := 0) (n := 40) (i := (1 + 4 * u30)) (q := ((h ((h 0 8) + 4) (1 + 4 * u30)))) (by decide +kernel) (ta_4_40 t1) (by first | decide | omega) (by first | decide | omega) (by decide) rfl (fun l83 => ?_)
      refine x_goto (np := 50) (x := 51) (by decide +kernel) ?_
      refine x_retI (np := 52) (x := 0) (by decide +kernel) l83 (Or.inl (by decide +kernel)) ⟨_, rfl, l83, ?_⟩
      refine x_cP (t := 6) (mj := 5) (n := 3) (rc := 2) (ml := 3) (nr := 0) (np := 67) (as := [x_r 45, iv_c ((h ((h 0 8) + 4) (4 * u30))), iv_c ((h ((h 0 8) + 4) (1 + 4 * u30)))]) (rest := []) (lo1 := [x_r 45, iv_c ((h ((h 0 8) + 4) (4 * u30))), iv_c ((h ((h 0 8) + 4) (1 + 4 * u30)))]) (by decide +kernel) (by decide) (by decide +kernel) (x_rb_of (by decide +kernel)) rfl rfl (x_wr (by decide) (x_wi l34 (x_wi l83 x_wn))) x_wn (by decide) rfl (c5_45 hJ  (by first | decide | omega) (by first | decide | omega)) (fun v84 l85 q86 => ?_)
      refine x_retI (np := 68) (x := 0) (by decide +kernel) l85 (Or.inl (by decide +kernel)) (Or.inl ⟨_, rfl, l85, ?_⟩)
      exact ⟨hJ, hF, (by first | decide | omega)⟩
    have q12 : ¬ (a2 ≤ 2147483650) := q12
    refine x_thrN (is := 238) (text := "a letter has no such number") rfl rfl (List.mem_of_getElem? (i := 9) rfl) (by rw [tb_b124]; decide +kernel) (by rw [tb_b124]; decide +kernel) (by rw [tb_b124]; decide +kernel) (by rw [tb_b124]; decide +kernel) (by rw [tb_b124]; decide +kernel) (by decide +kernel) (Nat.le_trans x_wn (by decide)) (Or.inr ⟨_, rfl, ?_⟩)
    exact ⟨hJ, hF, by decide⟩
  have q8 : ¬ (a1 < (h ((h 0 8) + 3) 2)) := q8
  refine x_thr (np := 15) (x := 2) (by decide +kernel) (by decide +kernel) (Nat.le_trans x_wn (by decide)) (Or.inr ⟨_, rfl, ?_⟩)
  refine Or.inr ⟨_, rfl, ?_⟩
  exact ⟨hJ, hF, by decide⟩
set_option maxHeartbeats 0 in
/-- LentNamesLaw.letter(LLentNames;II[J)I -/
theorem c293_0_97 {sc : Nat × Nat} {d a1 a2 : Nat} {h : xh} (hJ : J h) (ba1 : 0 ≤ a1 ∧ a1 ≤ 4294967295) (ba2 : 0 ≤ a2 ∧ a2 ≤ 4294967295) : X sc 293 (d + 4) (xI fun r h' => J h' ∧ Fr 70368744177664 h h' ∧ (2147483648 ≤ r ∧ r ≤ 2147483650)) 0 0 0 [x_r 0, iv_c a1, iv_c a2, x_r 97, 147573952589676412928] [] h := by
  have la1 : a1 < 4294967296 := by first | decide | omega
  have la2 : a2 < 4294967296 := by first | decide | omega
  have hF := Fr.refl 70368744177664 h
  refine x_aload (np := 1) (x := 3) (by decide +kernel) rfl (x_nc_le (by decide)) ?_
  refine x_const (np := 2) (x := 9223372039002259456) (a := 2147483648) (by decide +kernel) (by decide) (by decide) ?_
  refine x_aload (np := 3) (x := 0) (by decide +kernel) rfl (x_nc_le (by decide)) ?_
  refine x_iload (np := 4) (x := 1) (by decide +kernel) rfl la1 ?_
  refine x_iload (np := 5) (x := 2) (by decide +kernel) rfl la2 ?_
  refine x_cT (t := 6) (mj := 124) (n := 3) (rc := 11) (ml := 5) (cc := 2) (ss := 12) (nr := 2) (np := 8) (as := [x_r 0, iv_c a1, iv_c a2]) (rest := [iv_c 2147483648, x_r 97]) (lo1 := [x_r 0, iv_c a1, iv_c a2, 147573952589676412928, 147573952589676412928]) (by decide +kernel) (by decide) (by decide +kernel) (x_rb_of (by decide +kernel)) rfl rfl (x_wr (by decide) (x_wi la1 (x_wi la2 x_wn))) (x_wi (by decide) (x_wr (by decide) x_wn)) (by decide) rfl (c124_0 hJ  (by first | decide | omega) (by first | decide | omega)) (fun v1 h4 l2 q3 => ?_) (fun E6 h7 q5 => ?_)
  · obtain ⟨j8, f9, b10⟩ := q3
    have f11 := Fr.trans hF f9 (by decide)
    refine x_i2l (np := 9) (x := 0) (by decide +kernel) l2 ?_
    refine x_last (np := 10) (x := 0) (n := 1) (i := 0) (by decide +kernel) (by decide) (by decide +kernel) (by decide +kernel) (by first | decide | omega) (by first | decide | omega) (by decide) l2 ?_
    have j13 := jU (e := 0) (v := v1) 0 j8 rg_97_0_1_1 (by first | decide | omega) (by first | decide | omega) (by first | decide | omega)
    have f15 := jF (e := 0) (v := v1) 0 f11 rg_97_0_1_1 (by first | decide | omega) (by first | decide | omega) (by decide)
    generalize e14 : x_up h4 97 0 v1 = h12 at j13 f15 ⊢
    refine x_goto (np := 13) (x := 21) (by decide +kernel) ?_
    refine x_const (np := 22) (x := 9223372039002259456) (a := 2147483648) (by decide +kernel) (by decide) (by decide) ?_
    refine x_retI (np := 23) (x := 0) (by decide +kernel) (by decide) (Or.inl (by decide +kernel)) ⟨_, rfl, (by decide), ?_⟩
    exact ⟨j13, f15, (by first | decide | omega)⟩
  obtain ⟨j16, f17, e18⟩ := q5
  have f19 := Fr.trans hF f17 (by decide)
  rcases e18 with rfl | rfl
  · refine ⟨13, fun _ _ => rfl, ?_⟩
    refine x_astE (np := 15) (x := 4) (lo' := [x_r 0, iv_c a1, iv_c a2, x_r 97, 55340232221128654850]) (by decide +kernel) (Nat.le_of_ble_eq_true rfl) rfl ?_
    refine x_const (np := 16) (x := 9223372043297226753) (a := 2147483649) (by decide +kernel) (by decide) (by decide) ?_
    refine x_retI (np := 17) (x := 0) (by decide +kernel) (by decide) (Or.inl (by decide +kernel)) ⟨_, rfl, (by decide), ?_⟩
    exact ⟨j16, f19, (by first | decide | omega)⟩
  · refine ⟨17, fun _ _ => rfl, ?_⟩
    refine x_astE (np := 19) (x := 4) (lo' := [x_r 0, iv_c a1, iv_c a2, x_r 97, 55340232221128654850]) (by decide +kernel) (Nat.le_of_ble_eq_true rfl) rfl ?_
    refine x_const (np := 20) (x := 9223372047592194050) (a := 2147483650) (by decide +kernel) (by decide) (by decide) ?_
    refine x_retI (np := 21) (x := 0) (by decide +kernel) (by decide) (Or.inl (by decide +kernel)) ⟨_, rfl, (by decide), ?_⟩
    exact ⟨j16, f19, (by first | decide | omega)⟩
set_option maxHeartbeats 0 in
/-- LentNames.pays(I)I -/
theorem c128_0 {sc : Nat × Nat} {d a1 : Nat} {h : xh} (hJ : J h) (ba1 : 0 ≤ a1 ∧ a1 ≤ 4294967295) : X sc 128 (d + 3) (xT (fun r h' => J h' ∧ Fr 0 h h' ∧ (2147483647 ≤ r ∧ r ≤ 2147483653)) (fun E h' => J h' ∧ Fr 0 h h' ∧ (E = 2))) 0 0 0 [x_r 0, iv_c a1] [] h := by
  have la1 : a1 < 4294967296 := by first | decide | omega
  have hF := Fr.refl 0 h
  refine x_aload (np := 1) (x := 0) (by decide +kernel) rfl (x_nc_le (by decide)) ?_
  have t1 : tw (h 0 8) := hJ.2.1
  refine x_getR (np := 4) (x := 648) (f := 8) (q := (h 0 8)) (by decide +kernel) (by decide) (by decide +kernel) rfl ?_
  have q2 : h (h 0 8) 2 = ((h 0 8) + 5) := tf_0_2 hJ t1
  refine x_getR (np := 7) (x := 514) (f := 2) (q := ((h 0 8) + 5)) (by decide +kernel) (by decide) (tg_0_514_2_1 t1) q2 ?_
  refine x_iload (np := 8) (x := 1) (by decide +kernel) rfl la1 ?_
  refine x_nU (t := 0) (mj := 147) (n := 2) (rc := 0) (ml := 2) (cc := 1) (ss := 6) (nr := 0) (np := 11) (as := [x_r ((h 0 8) + 5), iv_c a1]) (rest := []) (lo1 := [x_r ((h 0 8) + 5), iv_c a1]) (by decide +kernel) (by decide) (by decide +kernel) (by decide +kernel) (Or.inl rfl) rfl rfl (x_wr (tn_5 t1) (x_wi la1 x_wn)) x_wn (by decide) rfl ?_
  refine x_iload (np := 1) (x := 1) (by decide +kernel) rfl la1 ?_
  refine x_ifz (k := 2) (tg := 12) (np := 4) (by decide +kernel) (by decide) la1 (fun q3 => ?_) (fun q4 => ?_)
  · have q3 : a1 < 2147483648 := q3
    refine x_thr (np := 15) (x := 2) (by decide +kernel) (by decide +kernel) (Nat.le_trans x_wn (by decide)) (Or.inr ⟨_, rfl, ?_⟩)
    refine Or.inr ⟨_, rfl, ?_⟩
    exact ⟨hJ, hF, by decide⟩
  have q4 : ¬ (a1 < 2147483648) := q4
  refine x_iload (np := 5) (x := 1) (by decide +kernel) rfl la1 ?_
  refine x_aload (np := 6) (x := 0) (by decide +kernel) rfl (x_nc_le (tn_5 t1)) ?_
  have b5 := jB (e := 2) 0 hJ (rg_T5_2_0_1 t1) (by first | decide | omega) (by first | decide | omega)
  refine x_getC (np := 9) (x := 386) (f := 2) (q := (h ((h 0 8) + 5) 2)) (by decide +kernel) (by decide) (tg_5_386_2_0 t1) rfl (fun l6 => ?_)
  refine x_icmp (k := 2) (tg := 23) (np := 12) (by decide +kernel) (by decide) la1 l6 (fun q7 => ?_) (fun q8 => ?_)
  · have q7 : a1 < (h ((h 0 8) + 5) 2) := q7
    refine x_retV (np := 24) (x := 0) (by decide +kernel) (by decide +kernel) (Or.inl ⟨rfl, ?_⟩)
    refine x_aload (np := 12) (x := 0) (by decide +kernel) rfl (x_nc_le (by decide)) ?_
    have q9 : h 0 1 = 45 := by have z := jB (e := 1) 0 hJ rg_0_1_0_1 (by decide) (by decide); omega
    refine x_getR (np := 15) (x := 641) (f := 1) (q := 45) (by decide +kernel) (by decide) (by decide +kernel) q9 ?_
    refine x_iload (np := 16) (x := 1) (by decide +kernel) rfl la1 ?_
    refine x_cP (t := 6) (mj := 12) (n := 2) (rc := 2) (ml := 4) (nr := 0) (np := 19) (as := [x_r 45, iv_c a1]) (rest := []) (lo1 := [x_r 45, iv_c a1, 147573952589676412928, 147573952589676412928]) (by decide +kernel) (by decide) (by decide +kernel) (x_rb_of (by decide +kernel)) rfl rfl (x_wr (by decide) (x_wi la1 x_wn)) x_wn (by decide) rfl (c12_45 hJ  (by first | decide | omega)) (fun v10 l11 q12 => ?_)
    refine x_retI (np := 20) (x := 0) (by decide +kernel) l11 (Or.inl (by decide +kernel)) (Or.inl ⟨_, rfl, l11, ?_⟩)
    exact ⟨hJ, hF, (by first | decide | omega)⟩
  have q8 : ¬ (a1 < (h ((h 0 8) + 5) 2)) := q8
  refine x_thr (np := 15) (x := 2) (by decide +kernel) (by decide +kernel) (Nat.le_trans x_wn (by decide)) (Or.inr ⟨_, rfl, ?_⟩)
  refine Or.inr ⟨_, rfl, ?_⟩
  exact ⟨hJ, hF, by decide⟩
set_option maxHeartbeats 0 in
/-- LentNamesLaw.pays(LLentNames;I[J)I -/
theorem c294_0_97 {sc : Nat × Nat} {d a1 : Nat} {h : xh} (hJ : J h) (ba1 : 0 ≤ a1 ∧ a1 ≤ 4294967295) : X sc 294 (d + 4) (xI fun r h' => J h' ∧ Fr 70368744177664 h h' ∧ (2147483648 ≤ r ∧ r ≤ 2147483649)) 0 0 0 [x_r 0, iv_c a1, x_r 97, 147573952589676412928] [] h := by
  have la1 : a1 < 4294967296 := by first | decide | omega
  have hF := Fr.refl 70368744177664 h
  refine x_aload (np := 1) (x := 2) (by decide +kernel) rfl (x_nc_le (by decide)) ?_
  refine x_const (np := 2) (x := 9223372039002259456) (a := 2147483648) (by decide +kernel) (by decide) (by decide) ?_
  refine x_aload (np := 3) (x := 0) (by decide +kernel) rfl (x_nc_le (by decide)) ?_
  refine x_iload (np := 4) (x := 1) (by decide +kernel) rfl la1 ?_
  refine x_cT (t := 6) (mj := 128) (n := 2) (rc := 11) (ml := 2) (cc := 1) (ss := 6) (nr := 2) (np := 7) (as := [x_r 0, iv_c a1]) (rest := [iv_c 2147483648, x_r 97]) (lo1 := [x_r 0, iv_c a1]) (by decide +kernel) (by decide) (by decide +kernel) (x_rb_of (by decide +kernel)) rfl rfl (x_wr (by decide) (x_wi la1 x_wn)) (x_wi (by decide) (x_wr (by decide) x_wn)) (by decide) rfl (c128_0 hJ  (by first | decide | omega)) (fun v1 h4 l2 q3 => ?_) (fun E6 h7 q5 => ?_)
  · obtain ⟨j8, f9, b10⟩ := q3
    have f11 := Fr.trans hF f9 (by decide)
    refine x_i2l (np := 8) (x := 0) (by decide +kernel) l2 ?_
    refine x_last (np := 9) (x := 0) (n := 1) (i := 0) (by decide +kernel) (by decide) (by decide +kernel) (by decide +kernel) (by first | decide | omega) (by first | decide | omega) (by decide) l2 ?_
    have j13 := jU (e := 0) (v := v1) 0 j8 rg_97_0_1_1 (by first | decide | omega) (by first | decide | omega) (by first | decide | omega)
    have f15 := jF (e := 0) (v := v1) 0 f11 rg_97_0_1_1 (by first | decide | omega) (by first | decide | omega) (by decide)
    generalize e14 : x_up h4 97 0 v1 = h12 at j13 f15 ⊢
    refine x_goto (np := 12) (x := 15) (by decide +kernel) ?_
    refine x_const (np := 16) (x := 9223372039002259456) (a := 2147483648) (by decide +kernel) (by decide) (by decide) ?_
    refine x_retI (np := 17) (x := 0) (by decide +kernel) (by decide) (Or.inl (by decide +kernel)) ⟨_, rfl, (by decide), ?_⟩
    exact ⟨j13, f15, (by first | decide | omega)⟩
  obtain ⟨j16, f17, e18⟩ := q5
  have f19 := Fr.trans hF f17 (by decide)
  rcases e18 with rfl
  · refine ⟨12, fun _ _ => rfl, ?_⟩
    refine x_astE (np := 13) (x := 3) (lo' := [x_r 0, iv_c a1, x_r 97, 55340232221128654850]) (by decide +kernel) (Nat.le_of_ble_eq_true rfl) rfl ?_
    refine x_const (np := 14) (x := 9223372043297226753) (a := 2147483649) (by decide +kernel) (by decide) (by decide) ?_
    refine x_retI (np := 15) (x := 0) (by decide +kernel) (by decide) (Or.inl (by decide +kernel)) ⟨_, rfl, (by decide), ?_⟩
    exact ⟨j16, f19, (by first | decide | omega)⟩
set_option maxHeartbeats 0 in
/-- LentNames.bill(I)I -/
theorem c129_0 {sc : Nat × Nat} {d a1 : Nat} {h : xh} (hJ : J h) (ba1 : 0 ≤ a1 ∧ a1 ≤ 4294967295) : X sc 129 (d + 3) (xT (fun r h' => J h' ∧ Fr 0 h h' ∧ (0 ≤ r ∧ r ≤ 4294967295)) (fun E h' => J h' ∧ Fr 0 h h' ∧ (E = 2))) 0 0 0 [x_r 0, iv_c a1, 147573952589676412928, 147573952589676412928] [] h := by
  have la1 : a1 < 4294967296 := by first | decide | omega
  have hF := Fr.refl 0 h
  refine x_aload (np := 1) (x := 0) (by decide +kernel) rfl (x_nc_le (by decide)) ?_
  refine x_iload (np := 2) (x := 1) (by decide +kernel) rfl la1 ?_
  refine x_nU (t := 6) (mj := 145) (n := 2) (rc := 11) (ml := 2) (cc := 1) (ss := 6) (nr := 0) (np := 5) (as := [x_r 0, iv_c a1]) (rest := []) (lo1 := [x_r 0, iv_c a1]) (by decide +kernel) (by decide) (by decide +kernel) (by decide +kernel) (x_rb_of (by decide +kernel)) rfl rfl (x_wr (by decide) (x_wi la1 x_wn)) x_wn (by decide) rfl ?_
  refine x_iload (np := 1) (x := 1) (by decide +kernel) rfl la1 ?_
  refine x_ifz (k := 2) (tg := 15) (np := 4) (by decide +kernel) (by decide) la1 (fun q1 => ?_) (fun q2 => ?_)
  · have q1 : a1 < 2147483648 := q1
    refine x_thr (np := 18) (x := 2) (by decide +kernel) (by decide +kernel) (Nat.le_trans x_wn (by decide)) (Or.inr ⟨_, rfl, ?_⟩)
    refine Or.inr ⟨_, rfl, ?_⟩
    exact ⟨hJ, hF, by decide⟩
  have q2 : ¬ (a1 < 2147483648) := q2
  refine x_iload (np := 5) (x := 1) (by decide +kernel) rfl la1 ?_
  refine x_aload (np := 6) (x := 0) (by decide +kernel) rfl (x_nc_le (by decide)) ?_
  have t3 : tw (h 0 8) := hJ.2.1
  refine x_getR (np := 9) (x := 648) (f := 8) (q := (h 0 8)) (by decide +kernel) (by decide) (by decide +kernel) rfl ?_
  have b4 := jB (e := 7) 0 hJ (rg_T0_7_0_1 t3) (by first | decide | omega) (by first | decide | omega)
  refine x_getC (np := 12) (x := 519) (f := 7) (q := (h (h 0 8) 7)) (by decide +kernel) (by decide) (tg_0_519_7_0 t3) rfl (fun l5 => ?_)
  refine x_icmp (k := 2) (tg := 26) (np := 15) (by decide +kernel) (by decide) la1 l5 (fun q6 => ?_) (fun q7 => ?_)
  · have q6 : a1 < (h (h 0 8) 7) := q6
    refine x_retV (np := 27) (x := 0) (by decide +kernel) (by decide +kernel) (Or.inl ⟨rfl, ?_⟩)
    refine x_const (np := 6) (x := 9223372039002259456) (a := 2147483648) (by decide +kernel) (by decide) (by decide) ?_
    refine x_istore (np := 7) (x := 2) (lo' := [x_r 0, iv_c a1, iv_c 2147483648, 147573952589676412928]) (by decide +kernel) (by decide) (Nat.le_of_ble_eq_true rfl) rfl ?_
    refine x_const (np := 8) (x := 9223372039002259456) (a := 2147483648) (by decide +kernel) (by decide) (by decide) ?_
    refine x_istore (np := 9) (x := 3) (lo' := [x_r 0, iv_c a1, iv_c 2147483648, iv_c 2147483648]) (by decide +kernel) (by decide) (Nat.le_of_ble_eq_true rfl) rfl ?_
    have p354 : ∀ (n : Nat) (v350 : Nat) (v352 : Nat), 4294967296 - v352 < n → (0 ≤ v350 ∧ v350 ≤ 4294967295) → (2147483648 ≤ v352 ∧ v352 ≤ 2147483658) → X sc 129 (d + 3) (xT (fun r h' => J h' ∧ Fr 0 h h' ∧ (0 ≤ r ∧ r ≤ 4294967295)) (fun E h' => J h' ∧ Fr 0 h h' ∧ (E = 2))) 1 6 9 [x_r 0, iv_c a1, iv_c v350, iv_c v352] [] h := by
      intro n
      induction n with
      | zero => intro v350 v352 q355; exact absurd q355 (Nat.not_lt_zero _)
      | succ n i356 =>
        intro v350 v352 q355 b351 b353
        refine x_iload (np := 10) (x := 3) (by decide +kernel) rfl (by first | decide | omega) ?_
        refine x_aload (np := 11) (x := 0) (by decide +kernel) rfl (x_nc_le (by decide)) ?_
        refine x_getR (np := 14) (x := 648) (f := 8) (q := (h 0 8)) (by decide +kernel) (by decide) (by decide +kernel) rfl ?_
        have q357 : h (h 0 8) 2 = ((h 0 8) + 5) := tf_0_2 hJ t3
        refine x_getR (np := 17) (x := 514) (f := 2) (q := ((h 0 8) + 5)) (by decide +kernel) (by decide) (tg_0_514_2_1 t3) q357 ?_
        have b358 := jB (e := 2) 0 hJ (rg_T5_2_0_1 t3) (by first | decide | omega) (by first | decide | omega)
        refine x_getC (np := 20) (x := 386) (f := 2) (q := (h ((h 0 8) + 5) 2)) (by decide +kernel) (by decide) (tg_5_386_2_0 t3) rfl (fun l359 => ?_)
        refine x_icmp (k := 3) (tg := 56) (np := 23) (by decide +kernel) (by decide) (by first | decide | omega) l359 (fun q360 => ?_) (fun q361 => ?_)
        · have q360 : (h ((h 0 8) + 5) 2) ≤ v352 := q360
          refine x_iload (np := 57) (x := 2) (by decide +kernel) rfl (by first | decide | omega) ?_
          refine x_retI (np := 58) (x := 0) (by decide +kernel) (by first | decide | omega) (Or.inl (by decide +kernel)) (Or.inl ⟨_, rfl, (by first | decide | omega), ?_⟩)
          exact ⟨hJ, hF, (by first | decide | omega)⟩
        have q361 : ¬ ((h ((h 0 8) + 5) 2) ≤ v352) := q361
        refine x_aload (np := 24) (x := 0) (by decide +kernel) rfl (x_nc_le (by decide)) ?_
        have q362 : h 0 1 = 45 := by have z := jB (e := 1) 0 hJ rg_0_1_0_1 (by decide) (by decide); omega
        refine x_getR (np := 27) (x := 641) (f := 1) (q := 45) (by decide +kernel) (by decide) (by decide +kernel) q362 ?_
        refine x_iload (np := 28) (x := 3) (by decide +kernel) rfl (by first | decide | omega) ?_
        refine x_cP (t := 6) (mj := 12) (n := 2) (rc := 2) (ml := 4) (nr := 0) (np := 31) (as := [x_r 45, iv_c v352]) (rest := []) (lo1 := [x_r 45, iv_c v352, 147573952589676412928, 147573952589676412928]) (by decide +kernel) (by decide) (by decide +kernel) (x_rb_of (by decide +kernel)) rfl rfl (x_wr (by decide) (x_wi (by first | decide | omega) x_wn)) x_wn (by decide) rfl (c12_45 hJ  (by first | decide | omega)) (fun v363 l364 q365 => ?_)
        refine x_iload (np := 32) (x := 1) (by decide +kernel) rfl la1 ?_
        refine x_icmp (k := 1) (tg := 50) (np := 35) (by decide +kernel) (by decide) l364 la1 (fun q366 => ?_) (fun q367 => ?_)
        · have q366 : v363 ≠ a1 := q366
          refine x_iinc (np := 53) (i := 3) (j := 2147483649) (v := (1 + v352)) (lo' := [x_r 0, iv_c a1, iv_c v350, iv_c (1 + v352)]) (by decide +kernel) (by decide) (by decide) rfl (by first | decide | omega) (by first | decide | omega) (by first | decide | omega) rfl ?_
          refine x_goto (np := 56) (x := 9) (by decide +kernel) ?_
          exact i356 v350 (1 + v352) (by first | decide | omega) (by first | decide | omega) (by first | decide | omega)
        have q367 : ¬ (v363 ≠ a1) := q367
        refine x_iload (np := 36) (x := 2) (by decide +kernel) rfl (by first | decide | omega) ?_
        refine x_aload (np := 37) (x := 0) (by decide +kernel) rfl (x_nc_le (by decide)) ?_
        refine x_getR (np := 40) (x := 648) (f := 8) (q := (h 0 8)) (by decide +kernel) (by decide) (by decide +kernel) rfl ?_
        have q368 : h (h 0 8) 2 = ((h 0 8) + 5) := tf_0_2 hJ t3
        refine x_getR (np := 43) (x := 514) (f := 2) (q := ((h 0 8) + 5)) (by decide +kernel) (by decide) (tg_0_514_2_1 t3) q368 ?_
        refine x_iload (np := 44) (x := 3) (by decide +kernel) rfl (by first | decide | omega) ?_
        refine x_const (np := 45) (x := 9223372051887161347) (a := 2147483651) (by decide +kernel) (by decide) (by decide) ?_
        refine x_nI (t := 6) (mj := 68) (n := 3) (rc := 7) (ml := 4) (nr := 1) (np := 48) (as := [x_r ((h 0 8) + 5), iv_c v352, iv_c 2147483651]) (rest := [iv_c v350]) (lo1 := [x_r ((h 0 8) + 5), iv_c v352, iv_c 2147483651, 147573952589676412928]) (by decide +kernel) (by decide) (by decide +kernel) (x_rb_of (tr_5_7 t3)) rfl rfl (x_wr (tn_5 t3) (x_wi (by first | decide | omega) (x_wi (by decide) x_wn))) (x_wi (by first | decide | omega) x_wn) (by decide) rfl ?_
        refine x_iload (np := 1) (x := 1) (by decide +kernel) rfl (by first | decide | omega) ?_
        refine x_ifz (k := 2) (tg := 28) (np := 4) (by decide +kernel) (by decide) (by first | decide | omega) (fun q369 => ?_) (fun q370 => ?_)
        · have q369 : v352 < 2147483648 := q369
          exfalso; omega
        have q370 : ¬ (v352 < 2147483648) := q370
        refine x_iload (np := 5) (x := 1) (by decide +kernel) rfl (by first | decide | omega) ?_
        refine x_aload (np := 6) (x := 0) (by decide +kernel) rfl (x_nc_le (tn_5 t3)) ?_
        refine x_getC (np := 9) (x := 386) (f := 2) (q := (h ((h 0 8) + 5) 2)) (by decide +kernel) (by decide) (tg_5_386_2_0 t3) rfl (fun l371 => ?_)
        refine x_icmp (k := 3) (tg := 28) (np := 12) (by decide +kernel) (by decide) (by first | decide | omega) l359 (fun q372 => ?_) (fun q373 => ?_)
        · have q372 : (h ((h 0 8) + 5) 2) ≤ v352 := q372
          exfalso; omega
        have q373 : ¬ ((h ((h 0 8) + 5) 2) ≤ v352) := q373
        refine x_iload (np := 13) (x := 2) (by decide +kernel) rfl (by decide) ?_
        refine x_ifz (k := 2) (tg := 28) (np := 16) (by decide +kernel) (by decide) (by decide) (fun q374 => ?_) (fun q375 => ?_)
        · have q374 : 2147483651 < 2147483648 := q374
          exfalso; omega
        have q375 : ¬ (2147483651 < 2147483648) := q375
        refine x_iload (np := 17) (x := 2) (by decide +kernel) rfl (by decide) ?_
        refine x_aload (np := 18) (x := 0) (by decide +kernel) rfl (x_nc_le (tn_5 t3)) ?_
        have b376 := jB (e := 0) 0 hJ (rg_T5_0_0_1 t3) (by first | decide | omega) (by first | decide | omega)
        have q377 : (h ((h 0 8) + 5) 0) = 2147483652 := by first | decide | omega
        refine x_getC (np := 21) (x := 384) (f := 0) (q := 2147483652) (by decide +kernel) (by decide) (tg_5_384_0_0 t3) q377 (fun l378 => ?_)
        refine x_icmp (k := 3) (tg := 28) (np := 24) (by decide +kernel) (by decide) (by decide) (by decide) (fun q379 => ?_) (fun q380 => ?_)
        · have q379 : 2147483652 ≤ 2147483651 := q379
          exfalso; omega
        have q380 : ¬ (2147483652 ≤ 2147483651) := q380
        refine x_const (np := 25) (x := 9223372043297226753) (a := 2147483649) (by decide +kernel) (by decide) (by decide) ?_
        refine x_goto (np := 28) (x := 29) (by decide +kernel) ?_
        refine x_istore (np := 30) (x := 3) (lo' := [x_r ((h 0 8) + 5), iv_c v352, iv_c 2147483651, iv_c 2147483649]) (by decide +kernel) (by decide) (Nat.le_of_ble_eq_true rfl) rfl ?_
        refine x_iload (np := 31) (x := 3) (by decide +kernel) rfl (by decide) ?_
        refine x_ifz (k := 0) (tg := 50) (np := 34) (by decide +kernel) (by decide) (by decide) (fun q381 => ?_) (fun q382 => ?_)
        · have q381 : 2147483649 = 2147483648 := q381
          exfalso; omega
        have q382 : ¬ (2147483649 = 2147483648) := q382
        refine x_aload (np := 35) (x := 0) (by decide +kernel) rfl (x_nc_le (tn_5 t3)) ?_
        have q383 : h ((h 0 8) + 5) 1 = ((h 0 8) + 6) := tf_5_1 hJ t3
        refine x_getR (np := 38) (x := 385) (f := 1) (q := ((h 0 8) + 6)) (by decide +kernel) (by decide) (tg_5_385_1_1 t3) q383 ?_
        refine x_iload (np := 39) (x := 1) (by decide +kernel) rfl (by first | decide | omega) ?_
        refine x_aload (np := 40) (x := 0) (by decide +kernel) rfl (x_nc_le (tn_5 t3)) ?_
        refine x_getC (np := 43) (x := 384) (f := 0) (q := 2147483652) (by decide +kernel) (by decide) (tg_5_384_0_0 t3) q377 (fun l384 => ?_)
        obtain ⟨u385, q386⟩ : ∃ z, v352 = 2147483648 + z := ⟨v352 - 2147483648, by first | decide | omega⟩
        refine x_imul (np := 44) (x := 0) (i := u385) (j := 4) (v := (2147483648 + 4 * u385)) (by decide +kernel) (by first | decide | omega) (by first | decide | omega) (by first | decide | omega) (by first | decide | omega) (by first | decide | omega) (by decide) ?_
        refine x_iload (np := 45) (x := 2) (by decide +kernel) rfl (by decide) ?_
        refine x_iadd (np := 46) (x := 0) (v := (2147483651 + 4 * u385)) (by decide +kernel) (by first | decide | omega) (by decide) (by first | decide | omega) (by first | decide | omega) ?_
        refine x_aldC (np := 47) (x := 0) (n := 40) (i := (3 + 4 * u385)) (q := ((h ((h 0 8) + 6) (3 + 4 * u385)))) (by decide +kernel) (ta_6_40 t3) (by first | decide | omega) (by first | decide | omega) (by decide) rfl (fun l388 => ?_)
        refine x_goto (np := 50) (x := 51) (by decide +kernel) ?_
        refine x_retI (np := 52) (x := 0) (by decide +kernel) l388 (Or.inl (by decide +kernel)) ⟨_, rfl, l388, ?_⟩
        refine x_addA (by rw [tb_b129]; decide +kernel) (by first | decide | omega) l388 (fun v389 l390 => ?_)
        refine x_istore (np := 50) (x := 2) (lo' := [x_r 0, iv_c a1, iv_c v389, iv_c v352]) (by decide +kernel) l390 (Nat.le_of_ble_eq_true rfl) rfl ?_
        refine x_iinc (np := 53) (i := 3) (j := 2147483649) (v := (1 + v352)) (lo' := [x_r 0, iv_c a1, iv_c v389, iv_c (1 + v352)]) (by decide +kernel) (by decide) (by decide) rfl (by first | decide | omega) (by first | decide | omega) (by first | decide | omega) rfl ?_
        refine x_goto (np := 56) (x := 9) (by decide +kernel) ?_
        exact i356 v389 (1 + v352) (by first | decide | omega) (by first | decide | omega) (by first | decide | omega)
    exact p354 _ 2147483648 2147483648 (Nat.lt_succ_self _) (by first | decide | omega) (by first | decide | omega)
  have q7 : ¬ (a1 < (h (h 0 8) 7)) := q7
  refine x_thr (np := 18) (x := 2) (by decide +kernel) (by decide +kernel) (Nat.le_trans x_wn (by decide)) (Or.inr ⟨_, rfl, ?_⟩)
  refine Or.inr ⟨_, rfl, ?_⟩
  exact ⟨hJ, hF, by decide⟩
set_option maxHeartbeats 0 in
/-- LentNamesLaw.bill(LLentNames;I[J)I -/
theorem c295_0_97 {sc : Nat × Nat} {d a1 : Nat} {h : xh} (hJ : J h) (ba1 : 0 ≤ a1 ∧ a1 ≤ 4294967295) : X sc 295 (d + 4) (xI fun r h' => J h' ∧ Fr 70368744177664 h h' ∧ (2147483648 ≤ r ∧ r ≤ 2147483649)) 0 0 0 [x_r 0, iv_c a1, x_r 97, 147573952589676412928] [] h := by
  have la1 : a1 < 4294967296 := by first | decide | omega
  have hF := Fr.refl 70368744177664 h
  refine x_aload (np := 1) (x := 2) (by decide +kernel) rfl (x_nc_le (by decide)) ?_
  refine x_const (np := 2) (x := 9223372039002259456) (a := 2147483648) (by decide +kernel) (by decide) (by decide) ?_
  refine x_aload (np := 3) (x := 0) (by decide +kernel) rfl (x_nc_le (by decide)) ?_
  refine x_iload (np := 4) (x := 1) (by decide +kernel) rfl la1 ?_
  refine x_cT (t := 6) (mj := 129) (n := 2) (rc := 11) (ml := 4) (cc := 1) (ss := 6) (nr := 2) (np := 7) (as := [x_r 0, iv_c a1]) (rest := [iv_c 2147483648, x_r 97]) (lo1 := [x_r 0, iv_c a1, 147573952589676412928, 147573952589676412928]) (by decide +kernel) (by decide) (by decide +kernel) (x_rb_of (by decide +kernel)) rfl rfl (x_wr (by decide) (x_wi la1 x_wn)) (x_wi (by decide) (x_wr (by decide) x_wn)) (by decide) rfl (c129_0 hJ  (by first | decide | omega)) (fun v1 h4 l2 q3 => ?_) (fun E6 h7 q5 => ?_)
  · obtain ⟨j8, f9, b10⟩ := q3
    have f11 := Fr.trans hF f9 (by decide)
    refine x_i2l (np := 8) (x := 0) (by decide +kernel) l2 ?_
    refine x_last (np := 9) (x := 0) (n := 1) (i := 0) (by decide +kernel) (by decide) (by decide +kernel) (by decide +kernel) (by first | decide | omega) (by first | decide | omega) (by decide) l2 ?_
    have j13 := jU (e := 0) (v := v1) 0 j8 rg_97_0_1_1 (by first | decide | omega) (by first | decide | omega) (by first | decide | omega)
    have f15 := jF (e := 0) (v := v1) 0 f11 rg_97_0_1_1 (by first | decide | omega) (by first | decide | omega) (by decide)
    generalize e14 : x_up h4 97 0 v1 = h12 at j13 f15 ⊢
    refine x_goto (np := 12) (x := 15) (by decide +kernel) ?_
    refine x_const (np := 16) (x := 9223372039002259456) (a := 2147483648) (by decide +kernel) (by decide) (by decide) ?_
    refine x_retI (np := 17) (x := 0) (by decide +kernel) (by decide) (Or.inl (by decide +kernel)) ⟨_, rfl, (by decide), ?_⟩
    exact ⟨j13, f15, (by first | decide | omega)⟩
  obtain ⟨j16, f17, e18⟩ := q5
  have f19 := Fr.trans hF f17 (by decide)
  rcases e18 with rfl
  · refine ⟨12, fun _ _ => rfl, ?_⟩
    refine x_astE (np := 13) (x := 3) (lo' := [x_r 0, iv_c a1, x_r 97, 55340232221128654850]) (by decide +kernel) (Nat.le_of_ble_eq_true rfl) rfl ?_
    refine x_const (np := 14) (x := 9223372043297226753) (a := 2147483649) (by decide +kernel) (by decide) (by decide) ?_
    refine x_retI (np := 15) (x := 0) (by decide +kernel) (by decide) (Or.inl (by decide +kernel)) ⟨_, rfl, (by decide), ?_⟩
    exact ⟨j16, f19, (by first | decide | omega)⟩
set_option maxHeartbeats 0 in
/-- LentNames$CustomReader.readPart()Z -/
theorem c50_62 {sc : Nat × Nat} {d  : Nat} {h : xh} {tB : Nat → Nat} {tN : Nat} (hJ : J h) (hr0 : (cl9 h) + 5 ≤ (h 1 2)) (hT : Tp tB tN h) : X sc 50 (d + 6) (xI fun r h' => J h' ∧ Fr 161 h h' ∧ (2147483648 ≤ r ∧ r ≤ 2147483649) ∧ (r = 2147483649 → h 1 2 + 1 ≤ h' 1 2) ∧ (r = 2147483649 → cl9 h' + h 1 2 ≤ h' 1 2 + cl9 h) ∧ (∀ l, G tB tN Kd.part l (h 1 2) (rs r (h' 1 2)))) 0 0 0 [x_r 62, 147573952589676412928, 147573952589676412928] [] h := by
  have hF := Fr.refl 161 h
  obtain ⟨r1, q2, t3⟩ : ∃ z, (h 62 1) = z + 11 ∧ tw z := by
    rcases hJ.2.2.2.2.2.2.2 with z | z
    · exact ⟨17, by rw [z], Or.inl rfl⟩
    · exact ⟨31, by rw [z], Or.inr rfl⟩
  have b4 := jB (e := 2) 0 hJ (rg_T11_2_0_1 t3) (by first | decide | omega) (by first | decide | omega)
  have e5 : cl9 h = (h (r1 + 11) 2) := (congrArg (fun z => h z 2) q2).trans rfl
  have b6 := jB (e := 2) 0 hJ rg_1_2_0_1 (by first | decide | omega) (by first | decide | omega)
  refine x_aload (np := 1) (x := 0) (by decide +kernel) rfl (x_nc_le (by decide)) ?_
  have q7 : h 62 0 = 1 := by have z := jB (e := 0) 0 hJ rg_62_0_0_1 (by decide) (by decide); omega
  refine x_getR (np := 4) (x := 192) (f := 0) (q := 1) (by decide +kernel) (by decide) (by decide +kernel) q7 ?_
  refine x_const (np := 5) (x := 9223372039002259456) (a := 2147483648) (by decide +kernel) (by decide) (by decide) ?_
  refine x_const (np := 8) (x := 9223376329674589159) (a := 2147484647) (by decide +kernel) (by decide) (by decide) ?_
  refine x_cI (t := 6) (mj := 79) (n := 3) (rc := 8) (ml := 5) (nr := 0) (np := 11) (as := [x_r 1, iv_c 2147483648, iv_c 2147484647]) (rest := []) (lo1 := [x_r 1, iv_c 2147483648, iv_c 2147484647, 147573952589676412928, 147573952589676412928]) (by decide +kernel) (by decide) (by decide +kernel) (x_rb_of (by decide +kernel)) rfl rfl (x_wr (by decide) (x_wi (by decide) (x_wi (by decide) x_wn))) x_wn (by decide) rfl (c79_1_c0 hJ   (by first | decide | omega) hT) (fun v8 h11 l9 q10 => ?_)
  obtain ⟨j12, f13, b14, c15, c16, c17, c18⟩ := q10
  have f19 := Fr.trans hF f13 (by decide)
  have b20 := jB (e := 2) 0 j12 rg_1_2_0_1 (by first | decide | omega) (by first | decide | omega)
  refine x_istore (np := 12) (x := 1) (lo' := [x_r 62, iv_c v8, 147573952589676412928]) (by decide +kernel) l9 (Nat.le_of_ble_eq_true rfl) rfl ?_
  refine x_iload (np := 13) (x := 1) (by decide +kernel) rfl l9 ?_
  refine x_const (np := 14) (x := 9223372034707292159) (a := 2147483647) (by decide +kernel) (by decide) (by decide) ?_
  refine x_icmp (k := 0) (tg := 26) (np := 17) (by decide +kernel) (by decide) l9 (by decide) (fun q21 => ?_) (fun q22 => ?_)
  · have q21 : v8 = 2147483647 := q21
    have b23 := c17 (by first | decide | omega)
    refine x_const (np := 27) (x := 9223372039002259456) (a := 2147483648) (by decide +kernel) (by decide) (by decide) ?_
    refine x_istore (np := 28) (x := 2) (lo' := [x_r 62, iv_c v8, iv_c 2147483648]) (by decide +kernel) (by decide) (Nat.le_of_ble_eq_true rfl) rfl ?_
    refine x_iload (np := 29) (x := 2) (by decide +kernel) rfl (by decide) ?_
    refine x_const (np := 30) (x := 9223372060477095941) (a := 2147483653) (by decide +kernel) (by decide) (by decide) ?_
    refine x_icmp (k := 4) (tg := 66) (np := 33) (by decide +kernel) (by decide) (by decide) (by decide) (fun q24 => ?_) (fun q25 => ?_)
    · have q24 : 2147483653 < 2147483648 := q24
      exfalso; omega
    have q25 : ¬ (2147483653 < 2147483648) := q25
    refine x_aload (np := 34) (x := 0) (by decide +kernel) rfl (x_nc_le (by decide)) ?_
    have q26 : h11 62 0 = 1 := by have z := jB (e := 0) 0 j12 rg_62_0_0_1 (by decide) (by decide); omega
    refine x_getR (np := 37) (x := 192) (f := 0) (q := 1) (by decide +kernel) (by decide) (by decide +kernel) q26 ?_
    refine x_iload (np := 38) (x := 2) (by decide +kernel) rfl (by decide) ?_
    refine x_cS1 (t := 0) (mj := 51) (n := 1) (rc := 0) (ml := 1) (nr := 1) (np := 41) (as := [iv_c 2147483648]) (rest := [x_r 1]) (lo1 := [iv_c 2147483648]) (by decide +kernel) (by decide) (by decide +kernel) (Or.inl rfl) rfl rfl (x_wi (by decide) x_wn) (x_wr (by decide) x_wn) (by decide) rfl c51_0 (by decide) ?_
    have m32 := Tp.fr hT f13 (by decide) (by decide)
    refine x_cI (t := 6) (mj := 78) (n := 2) (rc := 8) (ml := 2) (nr := 0) (np := 44) (as := [x_r 1, x_b (2 + 1)]) (rest := []) (lo1 := [x_r 1, x_b (2 + 1)]) (by decide +kernel) (by decide) (by decide +kernel) (x_rb_of (by decide +kernel)) rfl rfl (x_wr (by decide) (x_wB (by decide) x_wn)) x_wn (by decide) rfl (c78_1_S0 j12  (by decide) m32) (fun v29 h33 l30 q31 => ?_)
    obtain ⟨j34, f35, b36, c37, c38, c39⟩ := q31
    have f40 := Fr.trans f19 f35 (by decide)
    have b41 := jB (e := 2) 0 j34 rg_1_2_0_1 (by first | decide | omega) (by first | decide | omega)
    have b42 : iv_tl 2 = 3 := by decide
    refine x_ifz (k := 0) (tg := 60) (np := 47) (by decide +kernel) (by decide) l30 (fun q43 => ?_) (fun q44 => ?_)
    · have q43 : v29 = 2147483648 := q43
      have b45 := c38 (by first | decide | omega)
      refine x_iinc (np := 63) (i := 2) (j := 2147483649) (v := 2147483649) (lo' := [x_r 62, iv_c v8, iv_c 2147483649]) (by decide +kernel) (by decide) (by decide) rfl (by decide) (by first | decide | omega) (by first | decide | omega) rfl ?_
      refine x_goto (np := 66) (x := 28) (by decide +kernel) ?_
      refine x_iload (np := 29) (x := 2) (by decide +kernel) rfl (by decide) ?_
      refine x_const (np := 30) (x := 9223372060477095941) (a := 2147483653) (by decide +kernel) (by decide) (by decide) ?_
      refine x_icmp (k := 4) (tg := 66) (np := 33) (by decide +kernel) (by decide) (by decide) (by decide) (fun q46 => ?_) (fun q47 => ?_)
      · have q46 : 2147483653 < 2147483649 := q46
        exfalso; omega
      have q47 : ¬ (2147483653 < 2147483649) := q47
      refine x_aload (np := 34) (x := 0) (by decide +kernel) rfl (x_nc_le (by decide)) ?_
      have q48 : h33 62 0 = 1 := by have z := jB (e := 0) 0 j34 rg_62_0_0_1 (by decide) (by decide); omega
      refine x_getR (np := 37) (x := 192) (f := 0) (q := 1) (by decide +kernel) (by decide) (by decide +kernel) q48 ?_
      refine x_iload (np := 38) (x := 2) (by decide +kernel) rfl (by decide) ?_
      refine x_cS1 (t := 0) (mj := 51) (n := 1) (rc := 0) (ml := 1) (nr := 1) (np := 41) (as := [iv_c 2147483649]) (rest := [x_r 1]) (lo1 := [iv_c 2147483649]) (by decide +kernel) (by decide) (by decide +kernel) (Or.inl rfl) rfl rfl (x_wi (by decide) x_wn) (x_wr (by decide) x_wn) (by decide) rfl c51_1 (by decide) ?_
      have m54 := Tp.fr m32 f35 (by decide) (by decide)
      refine x_cI (t := 6) (mj := 78) (n := 2) (rc := 8) (ml := 2) (nr := 0) (np := 44) (as := [x_r 1, x_b (27 + 1)]) (rest := []) (lo1 := [x_r 1, x_b (27 + 1)]) (by decide +kernel) (by decide) (by decide +kernel) (x_rb_of (by decide +kernel)) rfl rfl (x_wr (by decide) (x_wB (by decide) x_wn)) x_wn (by decide) rfl (c78_1_S0 j34  (by decide) m54) (fun v51 h55 l52 q53 => ?_)
      obtain ⟨j56, f57, b58, c59, c60, c61⟩ := q53
      have f62 := Fr.trans f40 f57 (by decide)
      have b63 := jB (e := 2) 0 j56 rg_1_2_0_1 (by first | decide | omega) (by first | decide | omega)
      have b64 : iv_tl 27 = 4 := by decide
      refine x_ifz (k := 0) (tg := 60) (np := 47) (by decide +kernel) (by decide) l52 (fun q65 => ?_) (fun q66 => ?_)
      · have q65 : v51 = 2147483648 := q65
        have b67 := c60 (by first | decide | omega)
        refine x_iinc (np := 63) (i := 2) (j := 2147483649) (v := 2147483650) (lo' := [x_r 62, iv_c v8, iv_c 2147483650]) (by decide +kernel) (by decide) (by decide) rfl (by decide) (by first | decide | omega) (by first | decide | omega) rfl ?_
        refine x_goto (np := 66) (x := 28) (by decide +kernel) ?_
        refine x_iload (np := 29) (x := 2) (by decide +kernel) rfl (by decide) ?_
        refine x_const (np := 30) (x := 9223372060477095941) (a := 2147483653) (by decide +kernel) (by decide) (by decide) ?_
        refine x_icmp (k := 4) (tg := 66) (np := 33) (by decide +kernel) (by decide) (by decide) (by decide) (fun q68 => ?_) (fun q69 => ?_)
        · have q68 : 2147483653 < 2147483650 := q68
          exfalso; omega
        have q69 : ¬ (2147483653 < 2147483650) := q69
        refine x_aload (np := 34) (x := 0) (by decide +kernel) rfl (x_nc_le (by decide)) ?_
        have q70 : h55 62 0 = 1 := by have z := jB (e := 0) 0 j56 rg_62_0_0_1 (by decide) (by decide); omega
        refine x_getR (np := 37) (x := 192) (f := 0) (q := 1) (by decide +kernel) (by decide) (by decide +kernel) q70 ?_
        refine x_iload (np := 38) (x := 2) (by decide +kernel) rfl (by decide) ?_
        refine x_cS1 (t := 0) (mj := 51) (n := 1) (rc := 0) (ml := 1) (nr := 1) (np := 41) (as := [iv_c 2147483650]) (rest := [x_r 1]) (lo1 := [iv_c 2147483650]) (by decide +kernel) (by decide) (by decide +kernel) (Or.inl rfl) rfl rfl (x_wi (by decide) x_wn) (x_wr (by decide) x_wn) (by decide) rfl c51_2 (by decide) ?_
        have m76 := Tp.fr m54 f57 (by decide) (by decide)
        refine x_cI (t := 6) (mj := 78) (n := 2) (rc := 8) (ml := 2) (nr := 0) (np := 44) (as := [x_r 1, x_b (5 + 1)]) (rest := []) (lo1 := [x_r 1, x_b (5 + 1)]) (by decide +kernel) (by decide) (by decide +kernel) (x_rb_of (by decide +kernel)) rfl rfl (x_wr (by decide) (x_wB (by decide) x_wn)) x_wn (by decide) rfl (c78_1_S0 j56  (by decide) m76) (fun v73 h77 l74 q75 => ?_)
        obtain ⟨j78, f79, b80, c81, c82, c83⟩ := q75
        have f84 := Fr.trans f62 f79 (by decide)
        have b85 := jB (e := 2) 0 j78 rg_1_2_0_1 (by first | decide | omega) (by first | decide | omega)
        have b86 : iv_tl 5 = 6 := by decide
        refine x_ifz (k := 0) (tg := 60) (np := 47) (by decide +kernel) (by decide) l74 (fun q87 => ?_) (fun q88 => ?_)
        · have q87 : v73 = 2147483648 := q87
          have b89 := c82 (by first | decide | omega)
          refine x_iinc (np := 63) (i := 2) (j := 2147483649) (v := 2147483651) (lo' := [x_r 62, iv_c v8, iv_c 2147483651]) (by decide +kernel) (by decide) (by decide) rfl (by decide) (by first | decide | omega) (by first | decide | omega) rfl ?_
          refine x_goto (np := 66) (x := 28) (by decide +kernel) ?_
          refine x_iload (np := 29) (x := 2) (by decide +kernel) rfl (by decide) ?_
          refine x_const (np := 30) (x := 9223372060477095941) (a := 2147483653) (by decide +kernel) (by decide) (by decide) ?_
          refine x_icmp (k := 4) (tg := 66) (np := 33) (by decide +kernel) (by decide) (by decide) (by decide) (fun q90 => ?_) (fun q91 => ?_)
          · have q90 : 2147483653 < 2147483651 := q90
            exfalso; omega
          have q91 : ¬ (2147483653 < 2147483651) := q91
          refine x_aload (np := 34) (x := 0) (by decide +kernel) rfl (x_nc_le (by decide)) ?_
          have q92 : h77 62 0 = 1 := by have z := jB (e := 0) 0 j78 rg_62_0_0_1 (by decide) (by decide); omega
          refine x_getR (np := 37) (x := 192) (f := 0) (q := 1) (by decide +kernel) (by decide) (by decide +kernel) q92 ?_
          refine x_iload (np := 38) (x := 2) (by decide +kernel) rfl (by decide) ?_
          refine x_cS1 (t := 0) (mj := 51) (n := 1) (rc := 0) (ml := 1) (nr := 1) (np := 41) (as := [iv_c 2147483651]) (rest := [x_r 1]) (lo1 := [iv_c 2147483651]) (by decide +kernel) (by decide) (by decide +kernel) (Or.inl rfl) rfl rfl (x_wi (by decide) x_wn) (x_wr (by decide) x_wn) (by decide) rfl c51_3 (by decide) ?_
          have m98 := Tp.fr m76 f79 (by decide) (by decide)
          refine x_cI (t := 6) (mj := 78) (n := 2) (rc := 8) (ml := 2) (nr := 0) (np := 44) (as := [x_r 1, x_b (28 + 1)]) (rest := []) (lo1 := [x_r 1, x_b (28 + 1)]) (by decide +kernel) (by decide) (by decide +kernel) (x_rb_of (by decide +kernel)) rfl rfl (x_wr (by decide) (x_wB (by decide) x_wn)) x_wn (by decide) rfl (c78_1_S0 j78  (by decide) m98) (fun v95 h99 l96 q97 => ?_)
          obtain ⟨j100, f101, b102, c103, c104, c105⟩ := q97
          have f106 := Fr.trans f84 f101 (by decide)
          have b107 := jB (e := 2) 0 j100 rg_1_2_0_1 (by first | decide | omega) (by first | decide | omega)
          have b108 : iv_tl 28 = 4 := by decide
          refine x_ifz (k := 0) (tg := 60) (np := 47) (by decide +kernel) (by decide) l96 (fun q109 => ?_) (fun q110 => ?_)
          · have q109 : v95 = 2147483648 := q109
            have b111 := c104 (by first | decide | omega)
            refine x_iinc (np := 63) (i := 2) (j := 2147483649) (v := 2147483652) (lo' := [x_r 62, iv_c v8, iv_c 2147483652]) (by decide +kernel) (by decide) (by decide) rfl (by decide) (by first | decide | omega) (by first | decide | omega) rfl ?_
            refine x_goto (np := 66) (x := 28) (by decide +kernel) ?_
            refine x_iload (np := 29) (x := 2) (by decide +kernel) rfl (by decide) ?_
            refine x_const (np := 30) (x := 9223372060477095941) (a := 2147483653) (by decide +kernel) (by decide) (by decide) ?_
            refine x_icmp (k := 4) (tg := 66) (np := 33) (by decide +kernel) (by decide) (by decide) (by decide) (fun q112 => ?_) (fun q113 => ?_)
            · have q112 : 2147483653 < 2147483652 := q112
              exfalso; omega
            have q113 : ¬ (2147483653 < 2147483652) := q113
            refine x_aload (np := 34) (x := 0) (by decide +kernel) rfl (x_nc_le (by decide)) ?_
            have q114 : h99 62 0 = 1 := by have z := jB (e := 0) 0 j100 rg_62_0_0_1 (by decide) (by decide); omega
            refine x_getR (np := 37) (x := 192) (f := 0) (q := 1) (by decide +kernel) (by decide) (by decide +kernel) q114 ?_
            refine x_iload (np := 38) (x := 2) (by decide +kernel) rfl (by decide) ?_
            refine x_cS1 (t := 0) (mj := 51) (n := 1) (rc := 0) (ml := 1) (nr := 1) (np := 41) (as := [iv_c 2147483652]) (rest := [x_r 1]) (lo1 := [iv_c 2147483652]) (by decide +kernel) (by decide) (by decide +kernel) (Or.inl rfl) rfl rfl (x_wi (by decide) x_wn) (x_wr (by decide) x_wn) (by decide) rfl c51_4 (by decide) ?_
            have m120 := Tp.fr m98 f101 (by decide) (by decide)
            refine x_cI (t := 6) (mj := 78) (n := 2) (rc := 8) (ml := 2) (nr := 0) (np := 44) (as := [x_r 1, x_b (29 + 1)]) (rest := []) (lo1 := [x_r 1, x_b (29 + 1)]) (by decide +kernel) (by decide) (by decide +kernel) (x_rb_of (by decide +kernel)) rfl rfl (x_wr (by decide) (x_wB (by decide) x_wn)) x_wn (by decide) rfl (c78_1_S0 j100  (by decide) m120) (fun v117 h121 l118 q119 => ?_)
            obtain ⟨j122, f123, b124, c125, c126, c127⟩ := q119
            have f128 := Fr.trans f106 f123 (by decide)
            have b129 := jB (e := 2) 0 j122 rg_1_2_0_1 (by first | decide | omega) (by first | decide | omega)
            have b130 : iv_tl 29 = 5 := by decide
            refine x_ifz (k := 0) (tg := 60) (np := 47) (by decide +kernel) (by decide) l118 (fun q131 => ?_) (fun q132 => ?_)
            · have q131 : v117 = 2147483648 := q131
              have b133 := c126 (by first | decide | omega)
              refine x_iinc (np := 63) (i := 2) (j := 2147483649) (v := 2147483653) (lo' := [x_r 62, iv_c v8, iv_c 2147483653]) (by decide +kernel) (by decide) (by decide) rfl (by decide) (by first | decide | omega) (by first | decide | omega) rfl ?_
              refine x_goto (np := 66) (x := 28) (by decide +kernel) ?_
              refine x_iload (np := 29) (x := 2) (by decide +kernel) rfl (by decide) ?_
              refine x_const (np := 30) (x := 9223372060477095941) (a := 2147483653) (by decide +kernel) (by decide) (by decide) ?_
              refine x_icmp (k := 4) (tg := 66) (np := 33) (by decide +kernel) (by decide) (by decide) (by decide) (fun q134 => ?_) (fun q135 => ?_)
              · have q134 : 2147483653 < 2147483653 := q134
                exfalso; omega
              have q135 : ¬ (2147483653 < 2147483653) := q135
              refine x_aload (np := 34) (x := 0) (by decide +kernel) rfl (x_nc_le (by decide)) ?_
              have q136 : h121 62 0 = 1 := by have z := jB (e := 0) 0 j122 rg_62_0_0_1 (by decide) (by decide); omega
              refine x_getR (np := 37) (x := 192) (f := 0) (q := 1) (by decide +kernel) (by decide) (by decide +kernel) q136 ?_
              refine x_iload (np := 38) (x := 2) (by decide +kernel) rfl (by decide) ?_
              refine x_cS1 (t := 0) (mj := 51) (n := 1) (rc := 0) (ml := 1) (nr := 1) (np := 41) (as := [iv_c 2147483653]) (rest := [x_r 1]) (lo1 := [iv_c 2147483653]) (by decide +kernel) (by decide) (by decide +kernel) (Or.inl rfl) rfl rfl (x_wi (by decide) x_wn) (x_wr (by decide) x_wn) (by decide) rfl c51_5 (by decide) ?_
              have m142 := Tp.fr m120 f123 (by decide) (by decide)
              refine x_cI (t := 6) (mj := 78) (n := 2) (rc := 8) (ml := 2) (nr := 0) (np := 44) (as := [x_r 1, x_b (30 + 1)]) (rest := []) (lo1 := [x_r 1, x_b (30 + 1)]) (by decide +kernel) (by decide) (by decide +kernel) (x_rb_of (by decide +kernel)) rfl rfl (x_wr (by decide) (x_wB (by decide) x_wn)) x_wn (by decide) rfl (c78_1_S0 j122  (by decide) m142) (fun v139 h143 l140 q141 => ?_)
              obtain ⟨j144, f145, b146, c147, c148, c149⟩ := q141
              have f150 := Fr.trans f128 f145 (by decide)
              have b151 := jB (e := 2) 0 j144 rg_1_2_0_1 (by first | decide | omega) (by first | decide | omega)
              have b152 : iv_tl 30 = 5 := by decide
              refine x_ifz (k := 0) (tg := 60) (np := 47) (by decide +kernel) (by decide) l140 (fun q153 => ?_) (fun q154 => ?_)
              · have q153 : v139 = 2147483648 := q153
                have b155 := c148 (by first | decide | omega)
                refine x_iinc (np := 63) (i := 2) (j := 2147483649) (v := 2147483654) (lo' := [x_r 62, iv_c v8, iv_c 2147483654]) (by decide +kernel) (by decide) (by decide) rfl (by decide) (by first | decide | omega) (by first | decide | omega) rfl ?_
                refine x_goto (np := 66) (x := 28) (by decide +kernel) ?_
                refine x_iload (np := 29) (x := 2) (by decide +kernel) rfl (by decide) ?_
                refine x_const (np := 30) (x := 9223372060477095941) (a := 2147483653) (by decide +kernel) (by decide) (by decide) ?_
                refine x_icmp (k := 4) (tg := 66) (np := 33) (by decide +kernel) (by decide) (by decide) (by decide) (fun q156 => ?_) (fun q157 => ?_)
                · have q156 : 2147483653 < 2147483654 := q156
                  refine x_const (np := 67) (x := 9223372039002259456) (a := 2147483648) (by decide +kernel) (by decide) (by decide) ?_
                  have q158 : h143 62 1 = h121 62 1 := f145 62 1 (by decide +kernel)
                  have q159 : h121 62 1 = h99 62 1 := f123 62 1 (by decide +kernel)
                  have q160 : h99 62 1 = h77 62 1 := f101 62 1 (by decide +kernel)
                  have q161 : h77 62 1 = h55 62 1 := f79 62 1 (by decide +kernel)
                  have q162 : h55 62 1 = h33 62 1 := f57 62 1 (by decide +kernel)
                  have q163 : h33 62 1 = h11 62 1 := f35 62 1 (by decide +kernel)
                  have q164 : h11 62 1 = h 62 1 := f13 62 1 (by decide +kernel)
                  have q165 : h143 (r1 + 11) 2 = h121 (r1 + 11) 2 := jK 0 f145 (rg_T11_2_0_1 t3) (by first | decide | omega) (by first | decide | omega) (by decide)
                  have q166 : h121 (r1 + 11) 2 = h99 (r1 + 11) 2 := jK 0 f123 (rg_T11_2_0_1 t3) (by first | decide | omega) (by first | decide | omega) (by decide)
                  have q167 : h99 (r1 + 11) 2 = h77 (r1 + 11) 2 := jK 0 f101 (rg_T11_2_0_1 t3) (by first | decide | omega) (by first | decide | omega) (by decide)
                  have q168 : h77 (r1 + 11) 2 = h55 (r1 + 11) 2 := jK 0 f79 (rg_T11_2_0_1 t3) (by first | decide | omega) (by first | decide | omega) (by decide)
                  have q169 : h55 (r1 + 11) 2 = h33 (r1 + 11) 2 := jK 0 f57 (rg_T11_2_0_1 t3) (by first | decide | omega) (by first | decide | omega) (by decide)
                  have q170 : h33 (r1 + 11) 2 = h11 (r1 + 11) 2 := jK 0 f35 (rg_T11_2_0_1 t3) (by first | decide | omega) (by first | decide | omega) (by decide)
                  have q171 : h11 (r1 + 11) 2 = h (r1 + 11) 2 := jK 0 f13 (rg_T11_2_0_1 t3) (by first | decide | omega) (by first | decide | omega) (by decide)
                  have e172 : cl9 h143 = (h (r1 + 11) 2) := (congrArg (fun z => h143 z 2) (((((((q158.trans q159).trans q160).trans q161).trans q162).trans q163).trans q164).trans q2)).trans ((((((q165.trans q166).trans q167).trans q168).trans q169).trans q170).trans q171)
                  obtain ⟨w173, e174⟩ := Tk.no c39 (by first | decide | omega)
                  have w175 : ¬ Wd tB tN 2 (h 1 2) := by rw [show h 1 2 = h11 1 2 from (show h11 1 2 = h 1 2 by first | decide | omega).symm]; exact w173
                  obtain ⟨w176, e177⟩ := Tk.no c61 (by first | decide | omega)
                  have w178 : ¬ Wd tB tN 27 (h 1 2) := by rw [show h 1 2 = h33 1 2 from (show h33 1 2 = h 1 2 by first | decide | omega).symm]; exact w176
                  obtain ⟨w179, e180⟩ := Tk.no c83 (by first | decide | omega)
                  have w181 : ¬ Wd tB tN 5 (h 1 2) := by rw [show h 1 2 = h55 1 2 from (show h55 1 2 = h 1 2 by first | decide | omega).symm]; exact w179
                  obtain ⟨w182, e183⟩ := Tk.no c105 (by first | decide | omega)
                  have w184 : ¬ Wd tB tN 28 (h 1 2) := by rw [show h 1 2 = h77 1 2 from (show h77 1 2 = h 1 2 by first | decide | omega).symm]; exact w182
                  obtain ⟨w185, e186⟩ := Tk.no c127 (by first | decide | omega)
                  have w187 : ¬ Wd tB tN 29 (h 1 2) := by rw [show h 1 2 = h99 1 2 from (show h99 1 2 = h 1 2 by first | decide | omega).symm]; exact w185
                  obtain ⟨w188, e189⟩ := Tk.no c149 (by first | decide | omega)
                  have w190 : ¬ Wd tB tN 30 (h 1 2) := by rw [show h 1 2 = h121 1 2 from (show h121 1 2 = h 1 2 by first | decide | omega).symm]; exact w188
                  refine x_retI (np := 68) (x := 0) (by decide +kernel) (by decide) (Or.inr ⟨by decide +kernel, by first | decide | omega, by first | decide | omega⟩) ⟨_, rfl, (by decide), ?_⟩
                  exact ⟨j144, f150, (by first | decide | omega), (fun z => by first | decide | omega), (fun z => by first | decide | omega), (fun l => gP_no (Nr.nb c18 (by first | decide | omega)) w175 w178 w181 w184 w187 w190 (by first | decide | omega))⟩
                have q157 : ¬ (2147483653 < 2147483654) := q157
                exfalso; omega
              have q154 : ¬ (v139 = 2147483648) := q154
              have b191 := c147 (by first | decide | omega)
              refine x_aload (np := 48) (x := 0) (by decide +kernel) rfl (x_nc_le (by decide)) ?_
              have q192 : h143 62 1 = h121 62 1 := f145 62 1 (by decide +kernel)
              have q193 : h121 62 1 = h99 62 1 := f123 62 1 (by decide +kernel)
              have q194 : h99 62 1 = h77 62 1 := f101 62 1 (by decide +kernel)
              have q195 : h77 62 1 = h55 62 1 := f79 62 1 (by decide +kernel)
              have q196 : h55 62 1 = h33 62 1 := f57 62 1 (by decide +kernel)
              have q197 : h33 62 1 = h11 62 1 := f35 62 1 (by decide +kernel)
              have q198 : h11 62 1 = h 62 1 := f13 62 1 (by decide +kernel)
              refine x_getR (np := 51) (x := 193) (f := 1) (q := (r1 + 11)) (by decide +kernel) (by decide) (by decide +kernel) (((((((q192.trans q193).trans q194).trans q195).trans q196).trans q197).trans q198).trans q2) ?_
              refine x_const (np := 54) (x := 9223376333969556456) (a := 2147484648) (by decide +kernel) (by decide) (by decide) ?_
              refine x_iload (np := 55) (x := 2) (by decide +kernel) rfl (by decide) ?_
              refine x_iadd (np := 56) (x := 0) (v := 2147484653) (by decide +kernel) (by decide) (by decide) (by first | decide | omega) (by first | decide | omega) ?_
              refine x_nI (t := 6) (mj := 36) (n := 2) (rc := 3) (ml := 2) (nr := 0) (np := 59) (as := [x_r (r1 + 11), iv_c 2147484653]) (rest := []) (lo1 := [x_r (r1 + 11), iv_c 2147484653]) (by decide +kernel) (by decide) (by decide +kernel) (x_rb_of (tr_11_3 t3)) rfl rfl (x_wr (tn_11 t3) (x_wi (by decide) x_wn)) x_wn (by decide) rfl ?_
              refine x_aload (np := 1) (x := 0) (by decide +kernel) rfl (x_nc_le (tn_11 t3)) ?_
              have q199 : h143 (r1 + 11) 2 = h121 (r1 + 11) 2 := jK 0 f145 (rg_T11_2_0_1 t3) (by first | decide | omega) (by first | decide | omega) (by decide)
              have q200 : h121 (r1 + 11) 2 = h99 (r1 + 11) 2 := jK 0 f123 (rg_T11_2_0_1 t3) (by first | decide | omega) (by first | decide | omega) (by decide)
              have q201 : h99 (r1 + 11) 2 = h77 (r1 + 11) 2 := jK 0 f101 (rg_T11_2_0_1 t3) (by first | decide | omega) (by first | decide | omega) (by decide)
              have q202 : h77 (r1 + 11) 2 = h55 (r1 + 11) 2 := jK 0 f79 (rg_T11_2_0_1 t3) (by first | decide | omega) (by first | decide | omega) (by decide)
              have q203 : h55 (r1 + 11) 2 = h33 (r1 + 11) 2 := jK 0 f57 (rg_T11_2_0_1 t3) (by first | decide | omega) (by first | decide | omega) (by decide)
              have q204 : h33 (r1 + 11) 2 = h11 (r1 + 11) 2 := jK 0 f35 (rg_T11_2_0_1 t3) (by first | decide | omega) (by first | decide | omega) (by decide)
              have q205 : h11 (r1 + 11) 2 = h (r1 + 11) 2 := jK 0 f13 (rg_T11_2_0_1 t3) (by first | decide | omega) (by first | decide | omega) (by decide)
              refine x_getC (np := 4) (x := 130) (f := 2) (q := (h (r1 + 11) 2)) (by decide +kernel) (by decide) (tg_11_130_2_0 t3) ((((((q199.trans q200).trans q201).trans q202).trans q203).trans q204).trans q205) (fun l206 => ?_)
              refine x_const (np := 7) (x := 9223373756989178256) (a := 2147484048) (by decide +kernel) (by decide) (by decide) ?_
              refine x_icmp (k := 2) (tg := 12) (np := 10) (by decide +kernel) (by decide) l206 (by decide) (fun q207 => ?_) (fun q208 => ?_)
              · have q207 : (h (r1 + 11) 2) < 2147484048 := q207
                refine x_aload (np := 13) (x := 0) (by decide +kernel) rfl (x_nc_le (tn_11 t3)) ?_
                have q209 : h143 (r1 + 11) 0 = (r1 + 12) := tf_11_0 j144 t3
                refine x_getR (np := 16) (x := 128) (f := 0) (q := (r1 + 12)) (by decide +kernel) (by decide) (tg_11_128_0_1 t3) q209 ?_
                refine x_aload (np := 17) (x := 0) (by decide +kernel) rfl (x_nc_le (tn_11 t3)) ?_
                have q210 : h143 (r1 + 11) 2 = h121 (r1 + 11) 2 := jK 0 f145 (rg_T11_2_0_1 t3) (by first | decide | omega) (by first | decide | omega) (by decide)
                have q211 : h121 (r1 + 11) 2 = h99 (r1 + 11) 2 := jK 0 f123 (rg_T11_2_0_1 t3) (by first | decide | omega) (by first | decide | omega) (by decide)
                have q212 : h99 (r1 + 11) 2 = h77 (r1 + 11) 2 := jK 0 f101 (rg_T11_2_0_1 t3) (by first | decide | omega) (by first | decide | omega) (by decide)
                have q213 : h77 (r1 + 11) 2 = h55 (r1 + 11) 2 := jK 0 f79 (rg_T11_2_0_1 t3) (by first | decide | omega) (by first | decide | omega) (by decide)
                have q214 : h55 (r1 + 11) 2 = h33 (r1 + 11) 2 := jK 0 f57 (rg_T11_2_0_1 t3) (by first | decide | omega) (by first | decide | omega) (by decide)
                have q215 : h33 (r1 + 11) 2 = h11 (r1 + 11) 2 := jK 0 f35 (rg_T11_2_0_1 t3) (by first | decide | omega) (by first | decide | omega) (by decide)
                have q216 : h11 (r1 + 11) 2 = h (r1 + 11) 2 := jK 0 f13 (rg_T11_2_0_1 t3) (by first | decide | omega) (by first | decide | omega) (by decide)
                refine x_getC (np := 20) (x := 130) (f := 2) (q := (h (r1 + 11) 2)) (by decide +kernel) (by decide) (tg_11_130_2_0 t3) ((((((q210.trans q211).trans q212).trans q213).trans q214).trans q215).trans q216) (fun l217 => ?_)
                refine x_iload (np := 21) (x := 1) (by decide +kernel) rfl (by decide) ?_
                obtain ⟨u218, q219⟩ : ∃ z, (h (r1 + 11) 2) = 2147483648 + z := ⟨(h (r1 + 11) 2) - 2147483648, by first | decide | omega⟩
                refine x_ast (np := 22) (x := 0) (kd := 1) (n := 400) (i := u218) (by decide +kernel) (Or.inl rfl) (ta_12_400 t3) (by first | decide | omega) (by first | decide | omega) (by decide) (by decide) (fun z => absurd z (by decide)) ?_
                have j221 := jU (e := u218) (v := 2147484653) u218 j144 (rg_T12_0_1_400 t3) (by first | decide | omega) (by first | decide | omega) (by first | decide | omega)
                have f223 := jF (e := u218) (v := 2147484653) u218 f150 (rg_T12_0_1_400 t3) (by first | decide | omega) (by first | decide | omega) (by decide)
                generalize e222 : x_up h143 (r1 + 12) u218 2147484653 = h220 at j221 f223 ⊢
                refine x_aload (np := 23) (x := 0) (by decide +kernel) rfl (x_nc_le (tn_11 t3)) ?_
                refine x_dup (np := 24) (x := 0) (by decide +kernel) (by have z := x_nc_le (k := (r1 + 11)) (tn_11 t3); unfold x_r; omega) ?_
                have q224 : h220 (r1 + 11) 2 = h143 (r1 + 11) 2 := by rw [← e222]; exact x_up_k tof_11_12
                have q225 : h143 (r1 + 11) 2 = h121 (r1 + 11) 2 := jK 0 f145 (rg_T11_2_0_1 t3) (by first | decide | omega) (by first | decide | omega) (by decide)
                have q226 : h121 (r1 + 11) 2 = h99 (r1 + 11) 2 := jK 0 f123 (rg_T11_2_0_1 t3) (by first | decide | omega) (by first | decide | omega) (by decide)
                have q227 : h99 (r1 + 11) 2 = h77 (r1 + 11) 2 := jK 0 f101 (rg_T11_2_0_1 t3) (by first | decide | omega) (by first | decide | omega) (by decide)
                have q228 : h77 (r1 + 11) 2 = h55 (r1 + 11) 2 := jK 0 f79 (rg_T11_2_0_1 t3) (by first | decide | omega) (by first | decide | omega) (by decide)
                have q229 : h55 (r1 + 11) 2 = h33 (r1 + 11) 2 := jK 0 f57 (rg_T11_2_0_1 t3) (by first | decide | omega) (by first | decide | omega) (by decide)
                have q230 : h33 (r1 + 11) 2 = h11 (r1 + 11) 2 := jK 0 f35 (rg_T11_2_0_1 t3) (by first | decide | omega) (by first | decide | omega) (by decide)
                have q231 : h11 (r1 + 11) 2 = h (r1 + 11) 2 := jK 0 f13 (rg_T11_2_0_1 t3) (by first | decide | omega) (by first | decide | omega) (by decide)
                refine x_getC (np := 27) (x := 130) (f := 2) (q := (h (r1 + 11) 2)) (by decide +kernel) (by decide) (tg_11_130_2_0 t3) (((((((q224.trans q225).trans q226).trans q227).trans q228).trans q229).trans q230).trans q231) (fun l232 => ?_)
                refine x_const (np := 28) (x := 9223372043297226753) (a := 2147483649) (by decide +kernel) (by decide) (by decide) ?_
                refine x_iadd (np := 29) (x := 0) (v := (1 + (h (r1 + 11) 2))) (by decide +kernel) l206 (by decide) (by first | decide | omega) (by first | decide | omega) ?_
                refine x_putI (np := 32) (x := 130) (f := 2) (by decide +kernel) (tg_11_130_2_0 t3) (by first | decide | omega) (Or.inl (by decide)) ?_
                have j234 := jU (e := 2) (v := (1 + (h (r1 + 11) 2))) 0 j221 (rg_T11_2_0_1 t3) (by first | decide | omega) (by first | decide | omega) (by first | decide | omega)
                have f236 := jF (e := 2) (v := (1 + (h (r1 + 11) 2))) 0 f223 (rg_T11_2_0_1 t3) (by first | decide | omega) (by first | decide | omega) (by decide)
                generalize e235 : x_up h220 (r1 + 11) 2 (1 + (h (r1 + 11) 2)) = h233 at j234 f236 ⊢
                refine x_const (np := 33) (x := 9223372043297226753) (a := 2147483649) (by decide +kernel) (by decide) (by decide) ?_
                refine x_retI (np := 34) (x := 0) (by decide +kernel) (by decide) (Or.inr ⟨by decide +kernel, by first | decide | omega, by first | decide | omega⟩) ⟨_, rfl, (by decide), ?_⟩
                have q237 : h233 1 2 = h220 1 2 := by rw [← e235]; exact x_up_k (Ne.symm (tne_11_1 t3))
                have q238 : h220 1 2 = h143 1 2 := by rw [← e222]; exact x_up_k (Ne.symm (tne_12_1 t3))
                have q239 : h233 62 1 = h220 62 1 := by rw [← e235]; exact x_up_k (Ne.symm (tne_11_62 t3))
                have q240 : h220 62 1 = h143 62 1 := by rw [← e222]; exact x_up_k (Ne.symm (tne_12_62 t3))
                have q241 : h143 62 1 = h121 62 1 := f145 62 1 (by decide +kernel)
                have q242 : h121 62 1 = h99 62 1 := f123 62 1 (by decide +kernel)
                have q243 : h99 62 1 = h77 62 1 := f101 62 1 (by decide +kernel)
                have q244 : h77 62 1 = h55 62 1 := f79 62 1 (by decide +kernel)
                have q245 : h55 62 1 = h33 62 1 := f57 62 1 (by decide +kernel)
                have q246 : h33 62 1 = h11 62 1 := f35 62 1 (by decide +kernel)
                have q247 : h11 62 1 = h 62 1 := f13 62 1 (by decide +kernel)
                have q248 : h233 (r1 + 11) 2 = (1 + (h (r1 + 11) 2)) := by rw [← e235]; exact x_up_at
                have e249 : cl9 h233 = (1 + (h (r1 + 11) 2)) := (congrArg (fun z => h233 z 2) (((((((((q239.trans q240).trans q241).trans q242).trans q243).trans q244).trans q245).trans q246).trans q247).trans q2)).trans q248
                have q250 : h233 1 2 = h220 1 2 := by rw [← e235]; exact x_up_k (Ne.symm (tne_11_1 t3))
                have q251 : h220 1 2 = h143 1 2 := by rw [← e222]; exact x_up_k (Ne.symm (tne_12_1 t3))
                obtain ⟨w252, e253⟩ := Tk.no c39 (by first | decide | omega)
                have w254 : ¬ Wd tB tN 2 (h 1 2) := by rw [show h 1 2 = h11 1 2 from (show h11 1 2 = h 1 2 by first | decide | omega).symm]; exact w252
                obtain ⟨w255, e256⟩ := Tk.no c61 (by first | decide | omega)
                have w257 : ¬ Wd tB tN 27 (h 1 2) := by rw [show h 1 2 = h33 1 2 from (show h33 1 2 = h 1 2 by first | decide | omega).symm]; exact w255
                obtain ⟨w258, e259⟩ := Tk.no c83 (by first | decide | omega)
                have w260 : ¬ Wd tB tN 5 (h 1 2) := by rw [show h 1 2 = h55 1 2 from (show h55 1 2 = h 1 2 by first | decide | omega).symm]; exact w258
                obtain ⟨w261, e262⟩ := Tk.no c105 (by first | decide | omega)
                have w263 : ¬ Wd tB tN 28 (h 1 2) := by rw [show h 1 2 = h77 1 2 from (show h77 1 2 = h 1 2 by first | decide | omega).symm]; exact w261
                obtain ⟨w264, e265⟩ := Tk.no c127 (by first | decide | omega)
                have w266 : ¬ Wd tB tN 29 (h 1 2) := by rw [show h 1 2 = h99 1 2 from (show h99 1 2 = h 1 2 by first | decide | omega).symm]; exact w264
                obtain ⟨w267, e268⟩ := Tk.yes c149 (by first | decide | omega)
                have q269 : h233 1 2 = h220 1 2 := by rw [← e235]; exact x_up_k (Ne.symm (tne_11_1 t3))
                have q270 : h220 1 2 = h143 1 2 := by rw [← e222]; exact x_up_k (Ne.symm (tne_12_1 t3))
                refine x_retI (np := 60) (x := 0) (by decide +kernel) (by decide) (Or.inr ⟨by decide +kernel, by first | decide | omega, by first | decide | omega⟩) ⟨_, rfl, (by decide), ?_⟩
                exact ⟨j234, f236, (by first | decide | omega), (fun z => by first | decide | omega), (fun z => by first | decide | omega), (fun l => gP_wd (i := 30) (by unfold six; decide) w267 (show h121 1 2 = h 1 2 by first | decide | omega) e268 (by first | decide | omega) (show h143 1 2 = h233 1 2 by first | decide | omega))⟩
              have q208 : ¬ ((h (r1 + 11) 2) < 2147484048) := q208
              exfalso; omega
            have q132 : ¬ (v117 = 2147483648) := q132
            have b271 := c125 (by first | decide | omega)
            refine x_aload (np := 48) (x := 0) (by decide +kernel) rfl (x_nc_le (by decide)) ?_
            have q272 : h121 62 1 = h99 62 1 := f123 62 1 (by decide +kernel)
            have q273 : h99 62 1 = h77 62 1 := f101 62 1 (by decide +kernel)
            have q274 : h77 62 1 = h55 62 1 := f79 62 1 (by decide +kernel)
            have q275 : h55 62 1 = h33 62 1 := f57 62 1 (by decide +kernel)
            have q276 : h33 62 1 = h11 62 1 := f35 62 1 (by decide +kernel)
            have q277 : h11 62 1 = h 62 1 := f13 62 1 (by decide +kernel)
            refine x_getR (np := 51) (x := 193) (f := 1) (q := (r1 + 11)) (by decide +kernel) (by decide) (by decide +kernel) ((((((q272.trans q273).trans q274).trans q275).trans q276).trans q277).trans q2) ?_
            refine x_const (np := 54) (x := 9223376333969556456) (a := 2147484648) (by decide +kernel) (by decide) (by decide) ?_
            refine x_iload (np := 55) (x := 2) (by decide +kernel) rfl (by decide) ?_
            refine x_iadd (np := 56) (x := 0) (v := 2147484652) (by decide +kernel) (by decide) (by decide) (by first | decide | omega) (by first | decide | omega) ?_
            refine x_nI (t := 6) (mj := 36) (n := 2) (rc := 3) (ml := 2) (nr := 0) (np := 59) (as := [x_r (r1 + 11), iv_c 2147484652]) (rest := []) (lo1 := [x_r (r1 + 11), iv_c 2147484652]) (by decide +kernel) (by decide) (by decide +kernel) (x_rb_of (tr_11_3 t3)) rfl rfl (x_wr (tn_11 t3) (x_wi (by decide) x_wn)) x_wn (by decide) rfl ?_
            refine x_aload (np := 1) (x := 0) (by decide +kernel) rfl (x_nc_le (tn_11 t3)) ?_
            have q278 : h121 (r1 + 11) 2 = h99 (r1 + 11) 2 := jK 0 f123 (rg_T11_2_0_1 t3) (by first | decide | omega) (by first | decide | omega) (by decide)
            have q279 : h99 (r1 + 11) 2 = h77 (r1 + 11) 2 := jK 0 f101 (rg_T11_2_0_1 t3) (by first | decide | omega) (by first | decide | omega) (by decide)
            have q280 : h77 (r1 + 11) 2 = h55 (r1 + 11) 2 := jK 0 f79 (rg_T11_2_0_1 t3) (by first | decide | omega) (by first | decide | omega) (by decide)
            have q281 : h55 (r1 + 11) 2 = h33 (r1 + 11) 2 := jK 0 f57 (rg_T11_2_0_1 t3) (by first | decide | omega) (by first | decide | omega) (by decide)
            have q282 : h33 (r1 + 11) 2 = h11 (r1 + 11) 2 := jK 0 f35 (rg_T11_2_0_1 t3) (by first | decide | omega) (by first | decide | omega) (by decide)
            have q283 : h11 (r1 + 11) 2 = h (r1 + 11) 2 := jK 0 f13 (rg_T11_2_0_1 t3) (by first | decide | omega) (by first | decide | omega) (by decide)
            refine x_getC (np := 4) (x := 130) (f := 2) (q := (h (r1 + 11) 2)) (by decide +kernel) (by decide) (tg_11_130_2_0 t3) (((((q278.trans q279).trans q280).trans q281).trans q282).trans q283) (fun l284 => ?_)
            refine x_const (np := 7) (x := 9223373756989178256) (a := 2147484048) (by decide +kernel) (by decide) (by decide) ?_
            refine x_icmp (k := 2) (tg := 12) (np := 10) (by decide +kernel) (by decide) l284 (by decide) (fun q285 => ?_) (fun q286 => ?_)
            · have q285 : (h (r1 + 11) 2) < 2147484048 := q285
              refine x_aload (np := 13) (x := 0) (by decide +kernel) rfl (x_nc_le (tn_11 t3)) ?_
              have q287 : h121 (r1 + 11) 0 = (r1 + 12) := tf_11_0 j122 t3
              refine x_getR (np := 16) (x := 128) (f := 0) (q := (r1 + 12)) (by decide +kernel) (by decide) (tg_11_128_0_1 t3) q287 ?_
              refine x_aload (np := 17) (x := 0) (by decide +kernel) rfl (x_nc_le (tn_11 t3)) ?_
              have q288 : h121 (r1 + 11) 2 = h99 (r1 + 11) 2 := jK 0 f123 (rg_T11_2_0_1 t3) (by first | decide | omega) (by first | decide | omega) (by decide)
              have q289 : h99 (r1 + 11) 2 = h77 (r1 + 11) 2 := jK 0 f101 (rg_T11_2_0_1 t3) (by first | decide | omega) (by first | decide | omega) (by decide)
              have q290 : h77 (r1 + 11) 2 = h55 (r1 + 11) 2 := jK 0 f79 (rg_T11_2_0_1 t3) (by first | decide | omega) (by first | decide | omega) (by decide)
              have q291 : h55 (r1 + 11) 2 = h33 (r1 + 11) 2 := jK 0 f57 (rg_T11_2_0_1 t3) (by first | decide | omega) (by first | decide | omega) (by decide)
              have q292 : h33 (r1 + 11) 2 = h11 (r1 + 11) 2 := jK 0 f35 (rg_T11_2_0_1 t3) (by first | decide | omega) (by first | decide | omega) (by decide)
              have q293 : h11 (r1 + 11) 2 = h (r1 + 11) 2 := jK 0 f13 (rg_T11_2_0_1 t3) (by first | decide | omega) (by first | decide | omega) (by decide)
              refine x_getC (np := 20) (x := 130) (f := 2) (q := (h (r1 + 11) 2)) (by decide +kernel) (by decide) (tg_11_130_2_0 t3) (((((q288.trans q289).trans q290).trans q291).trans q292).trans q293) (fun l294 => ?_)
              refine x_iload (np := 21) (x := 1) (by decide +kernel) rfl (by decide) ?_
              obtain ⟨u295, q296⟩ : ∃ z, (h (r1 + 11) 2) = 2147483648 + z := ⟨(h (r1 + 11) 2) - 2147483648, by first | decide | omega⟩
              refine x_ast (np := 22) (x := 0) (kd := 1) (n := 400) (i := u295) (by decide +kernel) (Or.inl rfl) (ta_12_400 t3) (by first | decide | omega) (by first | decide | omega) (by decide) (by decide) (fun z => absurd z (by decide)) ?_
              have j298 := jU (e := u295) (v := 2147484652) u295 j122 (rg_T12_0_1_400 t3) (by first | decide | omega) (by first | decide | omega) (by first | decide | omega)
              have f300 := jF (e := u295) (v := 2147484652) u295 f128 (rg_T12_0_1_400 t3) (by first | decide | omega) (by first | decide | omega) (by decide)
              generalize e299 : x_up h121 (r1 + 12) u295 2147484652 = h297 at j298 f300 ⊢
              refine x_aload (np := 23) (x := 0) (by decide +kernel) rfl (x_nc_le (tn_11 t3)) ?_
              refine x_dup (np := 24) (x := 0) (by decide +kernel) (by have z := x_nc_le (k := (r1 + 11)) (tn_11 t3); unfold x_r; omega) ?_
              have q301 : h297 (r1 + 11) 2 = h121 (r1 + 11) 2 := by rw [← e299]; exact x_up_k tof_11_12
              have q302 : h121 (r1 + 11) 2 = h99 (r1 + 11) 2 := jK 0 f123 (rg_T11_2_0_1 t3) (by first | decide | omega) (by first | decide | omega) (by decide)
              have q303 : h99 (r1 + 11) 2 = h77 (r1 + 11) 2 := jK 0 f101 (rg_T11_2_0_1 t3) (by first | decide | omega) (by first | decide | omega) (by decide)
              have q304 : h77 (r1 + 11) 2 = h55 (r1 + 11) 2 := jK 0 f79 (rg_T11_2_0_1 t3) (by first | decide | omega) (by first | decide | omega) (by decide)
              have q305 : h55 (r1 + 11) 2 = h33 (r1 + 11) 2 := jK 0 f57 (rg_T11_2_0_1 t3) (by first | decide | omega) (by first | decide | omega) (by decide)
              have q306 : h33 (r1 + 11) 2 = h11 (r1 + 11) 2 := jK 0 f35 (rg_T11_2_0_1 t3) (by first | decide | omega) (by first | decide | omega) (by decide)
              have q307 : h11 (r1 + 11) 2 = h (r1 + 11) 2 := jK 0 f13 (rg_T11_2_0_1 t3) (by first | decide | omega) (by first | decide | omega) (by decide)
              refine x_getC (np := 27) (x := 130) (f := 2) (q := (h (r1 + 11) 2)) (by decide +kernel) (by decide) (tg_11_130_2_0 t3) ((((((q301.trans q302).trans q303).trans q304).trans q305).trans q306).trans q307) (fun l308 => ?_)
              refine x_const (np := 28) (x := 9223372043297226753) (a := 2147483649) (by decide +kernel) (by decide) (by decide) ?_
              refine x_iadd (np := 29) (x := 0) (v := (1 + (h (r1 + 11) 2))) (by decide +kernel) l284 (by decide) (by first | decide | omega) (by first | decide | omega) ?_
              refine x_putI (np := 32) (x := 130) (f := 2) (by decide +kernel) (tg_11_130_2_0 t3) (by first | decide | omega) (Or.inl (by decide)) ?_
              have j310 := jU (e := 2) (v := (1 + (h (r1 + 11) 2))) 0 j298 (rg_T11_2_0_1 t3) (by first | decide | omega) (by first | decide | omega) (by first | decide | omega)
              have f312 := jF (e := 2) (v := (1 + (h (r1 + 11) 2))) 0 f300 (rg_T11_2_0_1 t3) (by first | decide | omega) (by first | decide | omega) (by decide)
              generalize e311 : x_up h297 (r1 + 11) 2 (1 + (h (r1 + 11) 2)) = h309 at j310 f312 ⊢
              refine x_const (np := 33) (x := 9223372043297226753) (a := 2147483649) (by decide +kernel) (by decide) (by decide) ?_
              refine x_retI (np := 34) (x := 0) (by decide +kernel) (by decide) (Or.inr ⟨by decide +kernel, by first | decide | omega, by first | decide | omega⟩) ⟨_, rfl, (by decide), ?_⟩
              have q313 : h309 1 2 = h297 1 2 := by rw [← e311]; exact x_up_k (Ne.symm (tne_11_1 t3))
              have q314 : h297 1 2 = h121 1 2 := by rw [← e299]; exact x_up_k (Ne.symm (tne_12_1 t3))
              have q315 : h309 62 1 = h297 62 1 := by rw [← e311]; exact x_up_k (Ne.symm (tne_11_62 t3))
              have q316 : h297 62 1 = h121 62 1 := by rw [← e299]; exact x_up_k (Ne.symm (tne_12_62 t3))
              have q317 : h121 62 1 = h99 62 1 := f123 62 1 (by decide +kernel)
              have q318 : h99 62 1 = h77 62 1 := f101 62 1 (by decide +kernel)
              have q319 : h77 62 1 = h55 62 1 := f79 62 1 (by decide +kernel)
              have q320 : h55 62 1 = h33 62 1 := f57 62 1 (by decide +kernel)
              have q321 : h33 62 1 = h11 62 1 := f35 62 1 (by decide +kernel)
              have q322 : h11 62 1 = h 62 1 := f13 62 1 (by decide +kernel)
              have q323 : h309 (r1 + 11) 2 = (1 + (h (r1 + 11) 2)) := by rw [← e311]; exact x_up_at
              have e324 : cl9 h309 = (1 + (h (r1 + 11) 2)) := (congrArg (fun z => h309 z 2) ((((((((q315.trans q316).trans q317).trans q318).trans q319).trans q320).trans q321).trans q322).trans q2)).trans q323
              have q325 : h309 1 2 = h297 1 2 := by rw [← e311]; exact x_up_k (Ne.symm (tne_11_1 t3))
              have q326 : h297 1 2 = h121 1 2 := by rw [← e299]; exact x_up_k (Ne.symm (tne_12_1 t3))
              obtain ⟨w327, e328⟩ := Tk.no c39 (by first | decide | omega)
              have w329 : ¬ Wd tB tN 2 (h 1 2) := by rw [show h 1 2 = h11 1 2 from (show h11 1 2 = h 1 2 by first | decide | omega).symm]; exact w327
              obtain ⟨w330, e331⟩ := Tk.no c61 (by first | decide | omega)
              have w332 : ¬ Wd tB tN 27 (h 1 2) := by rw [show h 1 2 = h33 1 2 from (show h33 1 2 = h 1 2 by first | decide | omega).symm]; exact w330
              obtain ⟨w333, e334⟩ := Tk.no c83 (by first | decide | omega)
              have w335 : ¬ Wd tB tN 5 (h 1 2) := by rw [show h 1 2 = h55 1 2 from (show h55 1 2 = h 1 2 by first | decide | omega).symm]; exact w333
              obtain ⟨w336, e337⟩ := Tk.no c105 (by first | decide | omega)
              have w338 : ¬ Wd tB tN 28 (h 1 2) := by rw [show h 1 2 = h77 1 2 from (show h77 1 2 = h 1 2 by first | decide | omega).symm]; exact w336
              obtain ⟨w339, e340⟩ := Tk.yes c127 (by first | decide | omega)
              have q341 : h309 1 2 = h297 1 2 := by rw [← e311]; exact x_up_k (Ne.symm (tne_11_1 t3))
              have q342 : h297 1 2 = h121 1 2 := by rw [← e299]; exact x_up_k (Ne.symm (tne_12_1 t3))
              refine x_retI (np := 60) (x := 0) (by decide +kernel) (by decide) (Or.inr ⟨by decide +kernel, by first | decide | omega, by first | decide | omega⟩) ⟨_, rfl, (by decide), ?_⟩
              exact ⟨j310, f312, (by first | decide | omega), (fun z => by first | decide | omega), (fun z => by first | decide | omega), (fun l => gP_wd (i := 29) (by unfold six; decide) w339 (show h99 1 2 = h 1 2 by first | decide | omega) e340 (by first | decide | omega) (show h121 1 2 = h309 1 2 by first | decide | omega))⟩
            have q286 : ¬ ((h (r1 + 11) 2) < 2147484048) := q286
            exfalso; omega
          have q110 : ¬ (v95 = 2147483648) := q110
          have b343 := c103 (by first | decide | omega)
          refine x_aload (np := 48) (x := 0) (by decide +kernel) rfl (x_nc_le (by decide)) ?_
          have q344 : h99 62 1 = h77 62 1 := f101 62 1 (by decide +kernel)
          have q345 : h77 62 1 = h55 62 1 := f79 62 1 (by decide +kernel)
          have q346 : h55 62 1 = h33 62 1 := f57 62 1 (by decide +kernel)
          have q347 : h33 62 1 = h11 62 1 := f35 62 1 (by decide +kernel)
          have q348 : h11 62 1 = h 62 1 := f13 62 1 (by decide +kernel)
          refine x_getR (np := 51) (x := 193) (f := 1) (q := (r1 + 11)) (by decide +kernel) (by decide) (by decide +kernel) (((((q344.trans q345).trans q346).trans q347).trans q348).trans q2) ?_
          refine x_const (np := 54) (x := 9223376333969556456) (a := 2147484648) (by decide +kernel) (by decide) (by decide) ?_
          refine x_iload (np := 55) (x := 2) (by decide +kernel) rfl (by decide) ?_
          refine x_iadd (np := 56) (x := 0) (v := 2147484651) (by decide +kernel) (by decide) (by decide) (by first | decide | omega) (by first | decide | omega) ?_
          refine x_nI (t := 6) (mj := 36) (n := 2) (rc := 3) (ml := 2) (nr := 0) (np := 59) (as := [x_r (r1 + 11), iv_c 2147484651]) (rest := []) (lo1 := [x_r (r1 + 11), iv_c 2147484651]) (by decide +kernel) (by decide) (by decide +kernel) (x_rb_of (tr_11_3 t3)) rfl rfl (x_wr (tn_11 t3) (x_wi (by decide) x_wn)) x_wn (by decide) rfl ?_
          refine x_aload (np := 1) (x := 0) (by decide +kernel) rfl (x_nc_le (tn_11 t3)) ?_
          have q349 : h99 (r1 + 11) 2 = h77 (r1 + 11) 2 := jK 0 f101 (rg_T11_2_0_1 t3) (by first | decide | omega) (by first | decide | omega) (by decide)
          have q350 : h77 (r1 + 11) 2 = h55 (r1 + 11) 2 := jK 0 f79 (rg_T11_2_0_1 t3) (by first | decide | omega) (by first | decide | omega) (by decide)
          have q351 : h55 (r1 + 11) 2 = h33 (r1 + 11) 2 := jK 0 f57 (rg_T11_2_0_1 t3) (by first | decide | omega) (by first | decide | omega) (by decide)
          have q352 : h33 (r1 + 11) 2 = h11 (r1 + 11) 2 := jK 0 f35 (rg_T11_2_0_1 t3) (by first | decide | omega) (by first | decide | omega) (by decide)
          have q353 : h11 (r1 + 11) 2 = h (r1 + 11) 2 := jK 0 f13 (rg_T11_2_0_1 t3) (by first | decide | omega) (by first | decide | omega) (by decide)
          refine x_getC (np := 4) (x := 130) (f := 2) (q := (h (r1 + 11) 2)) (by decide +kernel) (by decide) (tg_11_130_2_0 t3) ((((q349.trans q350).trans q351).trans q352).trans q353) (fun l354 => ?_)
          refine x_const (np := 7) (x := 9223373756989178256) (a := 2147484048) (by decide +kernel) (by decide) (by decide) ?_
          refine x_icmp (k := 2) (tg := 12) (np := 10) (by decide +kernel) (by decide) l354 (by decide) (fun q355 => ?_) (fun q356 => ?_)
          · have q355 : (h (r1 + 11) 2) < 2147484048 := q355
            refine x_aload (np := 13) (x := 0) (by decide +kernel) rfl (x_nc_le (tn_11 t3)) ?_
            have q357 : h99 (r1 + 11) 0 = (r1 + 12) := tf_11_0 j100 t3
            refine x_getR (np := 16) (x := 128) (f := 0) (q := (r1 + 12)) (by decide +kernel) (by decide) (tg_11_128_0_1 t3) q357 ?_
            refine x_aload (np := 17) (x := 0) (by decide +kernel) rfl (x_nc_le (tn_11 t3)) ?_
            have q358 : h99 (r1 + 11) 2 = h77 (r1 + 11) 2 := jK 0 f101 (rg_T11_2_0_1 t3) (by first | decide | omega) (by first | decide | omega) (by decide)
            have q359 : h77 (r1 + 11) 2 = h55 (r1 + 11) 2 := jK 0 f79 (rg_T11_2_0_1 t3) (by first | decide | omega) (by first | decide | omega) (by decide)
            have q360 : h55 (r1 + 11) 2 = h33 (r1 + 11) 2 := jK 0 f57 (rg_T11_2_0_1 t3) (by first | decide | omega) (by first | decide | omega) (by decide)
            have q361 : h33 (r1 + 11) 2 = h11 (r1 + 11) 2 := jK 0 f35 (rg_T11_2_0_1 t3) (by first | decide | omega) (by first | decide | omega) (by decide)
            have q362 : h11 (r1 + 11) 2 = h (r1 + 11) 2 := jK 0 f13 (rg_T11_2_0_1 t3) (by first | decide | omega) (by first | decide | omega) (by decide)
            refine x_getC (np := 20) (x := 130) (f := 2) (q := (h (r1 + 11) 2)) (by decide +kernel) (by decide) (tg_11_130_2_0 t3) ((((q358.trans q359).trans q360).trans q361).trans q362) (fun l363 => ?_)
            refine x_iload (np := 21) (x := 1) (by decide +kernel) rfl (by decide) ?_
            obtain ⟨u364, q365⟩ : ∃ z, (h (r1 + 11) 2) = 2147483648 + z := ⟨(h (r1 + 11) 2) - 2147483648, by first | decide | omega⟩
            refine x_ast (np := 22) (x := 0) (kd := 1) (n := 400) (i := u364) (by decide +kernel) (Or.inl rfl) (ta_12_400 t3) (by first | decide | omega) (by first | decide | omega) (by decide) (by decide) (fun z => absurd z (by decide)) ?_
            have j367 := jU (e := u364) (v := 2147484651) u364 j100 (rg_T12_0_1_400 t3) (by first | decide | omega) (by first | decide | omega) (by first | decide | omega)
            have f369 := jF (e := u364) (v := 2147484651) u364 f106 (rg_T12_0_1_400 t3) (by first | decide | omega) (by first | decide | omega) (by decide)
            generalize e368 : x_up h99 (r1 + 12) u364 2147484651 = h366 at j367 f369 ⊢
            refine x_aload (np := 23) (x := 0) (by decide +kernel) rfl (x_nc_le (tn_11 t3)) ?_
            refine x_dup (np := 24) (x := 0) (by decide +kernel) (by have z := x_nc_le (k := (r1 + 11)) (tn_11 t3); unfold x_r; omega) ?_
            have q370 : h366 (r1 + 11) 2 = h99 (r1 + 11) 2 := by rw [← e368]; exact x_up_k tof_11_12
            have q371 : h99 (r1 + 11) 2 = h77 (r1 + 11) 2 := jK 0 f101 (rg_T11_2_0_1 t3) (by first | decide | omega) (by first | decide | omega) (by decide)
            have q372 : h77 (r1 + 11) 2 = h55 (r1 + 11) 2 := jK 0 f79 (rg_T11_2_0_1 t3) (by first | decide | omega) (by first | decide | omega) (by decide)
            have q373 : h55 (r1 + 11) 2 = h33 (r1 + 11) 2 := jK 0 f57 (rg_T11_2_0_1 t3) (by first | decide | omega) (by first | decide | omega) (by decide)
            have q374 : h33 (r1 + 11) 2 = h11 (r1 + 11) 2 := jK 0 f35 (rg_T11_2_0_1 t3) (by first | decide | omega) (by first | decide | omega) (by decide)
            have q375 : h11 (r1 + 11) 2 = h (r1 + 11) 2 := jK 0 f13 (rg_T11_2_0_1 t3) (by first | decide | omega) (by first | decide | omega) (by decide)
            refine x_getC (np := 27) (x := 130) (f := 2) (q := (h (r1 + 11) 2)) (by decide +kernel) (by decide) (tg_11_130_2_0 t3) (((((q370.trans q371).trans q372).trans q373).trans q374).trans q375) (fun l376 => ?_)
            refine x_const (np := 28) (x := 9223372043297226753) (a := 2147483649) (by decide +kernel) (by decide) (by decide) ?_
            refine x_iadd (np := 29) (x := 0) (v := (1 + (h (r1 + 11) 2))) (by decide +kernel) l354 (by decide) (by first | decide | omega) (by first | decide | omega) ?_
            refine x_putI (np := 32) (x := 130) (f := 2) (by decide +kernel) (tg_11_130_2_0 t3) (by first | decide | omega) (Or.inl (by decide)) ?_
            have j378 := jU (e := 2) (v := (1 + (h (r1 + 11) 2))) 0 j367 (rg_T11_2_0_1 t3) (by first | decide | omega) (by first | decide | omega) (by first | decide | omega)
            have f380 := jF (e := 2) (v := (1 + (h (r1 + 11) 2))) 0 f369 (rg_T11_2_0_1 t3) (by first | decide | omega) (by first | decide | omega) (by decide)
            generalize e379 : x_up h366 (r1 + 11) 2 (1 + (h (r1 + 11) 2)) = h377 at j378 f380 ⊢
            refine x_const (np := 33) (x := 9223372043297226753) (a := 2147483649) (by decide +kernel) (by decide) (by decide) ?_
            refine x_retI (np := 34) (x := 0) (by decide +kernel) (by decide) (Or.inr ⟨by decide +kernel, by first | decide | omega, by first | decide | omega⟩) ⟨_, rfl, (by decide), ?_⟩
            have q381 : h377 1 2 = h366 1 2 := by rw [← e379]; exact x_up_k (Ne.symm (tne_11_1 t3))
            have q382 : h366 1 2 = h99 1 2 := by rw [← e368]; exact x_up_k (Ne.symm (tne_12_1 t3))
            have q383 : h377 62 1 = h366 62 1 := by rw [← e379]; exact x_up_k (Ne.symm (tne_11_62 t3))
            have q384 : h366 62 1 = h99 62 1 := by rw [← e368]; exact x_up_k (Ne.symm (tne_12_62 t3))
            have q385 : h99 62 1 = h77 62 1 := f101 62 1 (by decide +kernel)
            have q386 : h77 62 1 = h55 62 1 := f79 62 1 (by decide +kernel)
            have q387 : h55 62 1 = h33 62 1 := f57 62 1 (by decide +kernel)
            have q388 : h33 62 1 = h11 62 1 := f35 62 1 (by decide +kernel)
            have q389 : h11 62 1 = h 62 1 := f13 62 1 (by decide +kernel)
            have q390 : h377 (r1 + 11) 2 = (1 + (h (r1 + 11) 2)) := by rw [← e379]; exact x_up_at
            have e391 : cl9 h377 = (1 + (h (r1 + 11) 2)) := (congrArg (fun z => h377 z 2) (((((((q383.trans q384).trans q385).trans q386).trans q387).trans q388).trans q389).trans q2)).trans q390
            have q392 : h377 1 2 = h366 1 2 := by rw [← e379]; exact x_up_k (Ne.symm (tne_11_1 t3))
            have q393 : h366 1 2 = h99 1 2 := by rw [← e368]; exact x_up_k (Ne.symm (tne_12_1 t3))
            obtain ⟨w394, e395⟩ := Tk.no c39 (by first | decide | omega)
            have w396 : ¬ Wd tB tN 2 (h 1 2) := by rw [show h 1 2 = h11 1 2 from (show h11 1 2 = h 1 2 by first | decide | omega).symm]; exact w394
            obtain ⟨w397, e398⟩ := Tk.no c61 (by first | decide | omega)
            have w399 : ¬ Wd tB tN 27 (h 1 2) := by rw [show h 1 2 = h33 1 2 from (show h33 1 2 = h 1 2 by first | decide | omega).symm]; exact w397
            obtain ⟨w400, e401⟩ := Tk.no c83 (by first | decide | omega)
            have w402 : ¬ Wd tB tN 5 (h 1 2) := by rw [show h 1 2 = h55 1 2 from (show h55 1 2 = h 1 2 by first | decide | omega).symm]; exact w400
            obtain ⟨w403, e404⟩ := Tk.yes c105 (by first | decide | omega)
            have q405 : h377 1 2 = h366 1 2 := by rw [← e379]; exact x_up_k (Ne.symm (tne_11_1 t3))
            have q406 : h366 1 2 = h99 1 2 := by rw [← e368]; exact x_up_k (Ne.symm (tne_12_1 t3))
            refine x_retI (np := 60) (x := 0) (by decide +kernel) (by decide) (Or.inr ⟨by decide +kernel, by first | decide | omega, by first | decide | omega⟩) ⟨_, rfl, (by decide), ?_⟩
            exact ⟨j378, f380, (by first | decide | omega), (fun z => by first | decide | omega), (fun z => by first | decide | omega), (fun l => gP_wd (i := 28) (by unfold six; decide) w403 (show h77 1 2 = h 1 2 by first | decide | omega) e404 (by first | decide | omega) (show h99 1 2 = h377 1 2 by first | decide | omega))⟩
          have q356 : ¬ ((h (r1 + 11) 2) < 2147484048) := q356
          exfalso; omega
        have q88 : ¬ (v73 = 2147483648) := q88
        have b407 := c81 (by first | decide | omega)
        refine x_aload (np := 48) (x := 0) (by decide +kernel) rfl (x_nc_le (by decide)) ?_
        have q408 : h77 62 1 = h55 62 1 := f79 62 1 (by decide +kernel)
        have q409 : h55 62 1 = h33 62 1 := f57 62 1 (by decide +kernel)
        have q410 : h33 62 1 = h11 62 1 := f35 62 1 (by decide +kernel)
        have q411 : h11 62 1 = h 62 1 := f13 62 1 (by decide +kernel)
        refine x_getR (np := 51) (x := 193) (f := 1) (q := (r1 + 11)) (by decide +kernel) (by decide) (by decide +kernel) ((((q408.trans q409).trans q410).trans q411).trans q2) ?_
        refine x_const (np := 54) (x := 9223376333969556456) (a := 2147484648) (by decide +kernel) (by decide) (by decide) ?_
        refine x_iload (np := 55) (x := 2) (by decide +kernel) rfl (by decide) ?_
        refine x_iadd (np := 56) (x := 0) (v := 2147484650) (by decide +kernel) (by decide) (by decide) (by first | decide | omega) (by first | decide | omega) ?_
        refine x_nI (t := 6) (mj := 36) (n := 2) (rc := 3) (ml := 2) (nr := 0) (np := 59) (as := [x_r (r1 + 11), iv_c 2147484650]) (rest := []) (lo1 := [x_r (r1 + 11), iv_c 2147484650]) (by decide +kernel) (by decide) (by decide +kernel) (x_rb_of (tr_11_3 t3)) rfl rfl (x_wr (tn_11 t3) (x_wi (by decide) x_wn)) x_wn (by decide) rfl ?_
        refine x_aload (np := 1) (x := 0) (by decide +kernel) rfl (x_nc_le (tn_11 t3)) ?_
        have q412 : h77 (r1 + 11) 2 = h55 (r1 + 11) 2 := jK 0 f79 (rg_T11_2_0_1 t3) (by first | decide | omega) (by first | decide | omega) (by decide)
        have q413 : h55 (r1 + 11) 2 = h33 (r1 + 11) 2 := jK 0 f57 (rg_T11_2_0_1 t3) (by first | decide | omega) (by first | decide | omega) (by decide)
        have q414 : h33 (r1 + 11) 2 = h11 (r1 + 11) 2 := jK 0 f35 (rg_T11_2_0_1 t3) (by first | decide | omega) (by first | decide | omega) (by decide)
        have q415 : h11 (r1 + 11) 2 = h (r1 + 11) 2 := jK 0 f13 (rg_T11_2_0_1 t3) (by first | decide | omega) (by first | decide | omega) (by decide)
        refine x_getC (np := 4) (x := 130) (f := 2) (q := (h (r1 + 11) 2)) (by decide +kernel) (by decide) (tg_11_130_2_0 t3) (((q412.trans q413).trans q414).trans q415) (fun l416 => ?_)
        refine x_const (np := 7) (x := 9223373756989178256) (a := 2147484048) (by decide +kernel) (by decide) (by decide) ?_
        refine x_icmp (k := 2) (tg := 12) (np := 10) (by decide +kernel) (by decide) l416 (by decide) (fun q417 => ?_) (fun q418 => ?_)
        · have q417 : (h (r1 + 11) 2) < 2147484048 := q417
          refine x_aload (np := 13) (x := 0) (by decide +kernel) rfl (x_nc_le (tn_11 t3)) ?_
          have q419 : h77 (r1 + 11) 0 = (r1 + 12) := tf_11_0 j78 t3
          refine x_getR (np := 16) (x := 128) (f := 0) (q := (r1 + 12)) (by decide +kernel) (by decide) (tg_11_128_0_1 t3) q419 ?_
          refine x_aload (np := 17) (x := 0) (by decide +kernel) rfl (x_nc_le (tn_11 t3)) ?_
          have q420 : h77 (r1 + 11) 2 = h55 (r1 + 11) 2 := jK 0 f79 (rg_T11_2_0_1 t3) (by first | decide | omega) (by first | decide | omega) (by decide)
          have q421 : h55 (r1 + 11) 2 = h33 (r1 + 11) 2 := jK 0 f57 (rg_T11_2_0_1 t3) (by first | decide | omega) (by first | decide | omega) (by decide)
          have q422 : h33 (r1 + 11) 2 = h11 (r1 + 11) 2 := jK 0 f35 (rg_T11_2_0_1 t3) (by first | decide | omega) (by first | decide | omega) (by decide)
          have q423 : h11 (r1 + 11) 2 = h (r1 + 11) 2 := jK 0 f13 (rg_T11_2_0_1 t3) (by first | decide | omega) (by first | decide | omega) (by decide)
          refine x_getC (np := 20) (x := 130) (f := 2) (q := (h (r1 + 11) 2)) (by decide +kernel) (by decide) (tg_11_130_2_0 t3) (((q420.trans q421).trans q422).trans q423) (fun l424 => ?_)
          refine x_iload (np := 21) (x := 1) (by decide +kernel) rfl (by decide) ?_
          obtain ⟨u425, q426⟩ : ∃ z, (h (r1 + 11) 2) = 2147483648 + z := ⟨(h (r1 + 11) 2) - 2147483648, by first | decide | omega⟩
          refine x_ast (np := 22) (x := 0) (kd := 1) (n := 400) (i := u425) (by decide +kernel) (Or.inl rfl) (ta_12_400 t3) (by first | decide | omega) (by first | decide | omega) (by decide) (by decide) (fun z => absurd z (by decide)) ?_
          have j428 := jU (e := u425) (v := 2147484650) u425 j78 (rg_T12_0_1_400 t3) (by first | decide | omega) (by first | decide | omega) (by first | decide | omega)
          have f430 := jF (e := u425) (v := 2147484650) u425 f84 (rg_T12_0_1_400 t3) (by first | decide | omega) (by first | decide | omega) (by decide)
          generalize e429 : x_up h77 (r1 + 12) u425 2147484650 = h427 at j428 f430 ⊢
          refine x_aload (np := 23) (x := 0) (by decide +kernel) rfl (x_nc_le (tn_11 t3)) ?_
          refine x_dup (np := 24) (x := 0) (by decide +kernel) (by have z := x_nc_le (k := (r1 + 11)) (tn_11 t3); unfold x_r; omega) ?_
          have q431 : h427 (r1 + 11) 2 = h77 (r1 + 11) 2 := by rw [← e429]; exact x_up_k tof_11_12
          have q432 : h77 (r1 + 11) 2 = h55 (r1 + 11) 2 := jK 0 f79 (rg_T11_2_0_1 t3) (by first | decide | omega) (by first | decide | omega) (by decide)
          have q433 : h55 (r1 + 11) 2 = h33 (r1 + 11) 2 := jK 0 f57 (rg_T11_2_0_1 t3) (by first | decide | omega) (by first | decide | omega) (by decide)
          have q434 : h33 (r1 + 11) 2 = h11 (r1 + 11) 2 := jK 0 f35 (rg_T11_2_0_1 t3) (by first | decide | omega) (by first | decide | omega) (by decide)
          have q435 : h11 (r1 + 11) 2 = h (r1 + 11) 2 := jK 0 f13 (rg_T11_2_0_1 t3) (by first | decide | omega) (by first | decide | omega) (by decide)
          refine x_getC (np := 27) (x := 130) (f := 2) (q := (h (r1 + 11) 2)) (by decide +kernel) (by decide) (tg_11_130_2_0 t3) ((((q431.trans q432).trans q433).trans q434).trans q435) (fun l436 => ?_)
          refine x_const (np := 28) (x := 9223372043297226753) (a := 2147483649) (by decide +kernel) (by decide) (by decide) ?_
          refine x_iadd (np := 29) (x := 0) (v := (1 + (h (r1 + 11) 2))) (by decide +kernel) l416 (by decide) (by first | decide | omega) (by first | decide | omega) ?_
          refine x_putI (np := 32) (x := 130) (f := 2) (by decide +kernel) (tg_11_130_2_0 t3) (by first | decide | omega) (Or.inl (by decide)) ?_
          have j438 := jU (e := 2) (v := (1 + (h (r1 + 11) 2))) 0 j428 (rg_T11_2_0_1 t3) (by first | decide | omega) (by first | decide | omega) (by first | decide | omega)
          have f440 := jF (e := 2) (v := (1 + (h (r1 + 11) 2))) 0 f430 (rg_T11_2_0_1 t3) (by first | decide | omega) (by first | decide | omega) (by decide)
          generalize e439 : x_up h427 (r1 + 11) 2 (1 + (h (r1 + 11) 2)) = h437 at j438 f440 ⊢
          refine x_const (np := 33) (x := 9223372043297226753) (a := 2147483649) (by decide +kernel) (by decide) (by decide) ?_
          refine x_retI (np := 34) (x := 0) (by decide +kernel) (by decide) (Or.inr ⟨by decide +kernel, by first | decide | omega, by first | decide | omega⟩) ⟨_, rfl, (by decide), ?_⟩
          have q441 : h437 1 2 = h427 1 2 := by rw [← e439]; exact x_up_k (Ne.symm (tne_11_1 t3))
          have q442 : h427 1 2 = h77 1 2 := by rw [← e429]; exact x_up_k (Ne.symm (tne_12_1 t3))
          have q443 : h437 62 1 = h427 62 1 := by rw [← e439]; exact x_up_k (Ne.symm (tne_11_62 t3))
          have q444 : h427 62 1 = h77 62 1 := by rw [← e429]; exact x_up_k (Ne.symm (tne_12_62 t3))
          have q445 : h77 62 1 = h55 62 1 := f79 62 1 (by decide +kernel)
          have q446 : h55 62 1 = h33 62 1 := f57 62 1 (by decide +kernel)
          have q447 : h33 62 1 = h11 62 1 := f35 62 1 (by decide +kernel)
          have q448 : h11 62 1 = h 62 1 := f13 62 1 (by decide +kernel)
          have q449 : h437 (r1 + 11) 2 = (1 + (h (r1 + 11) 2)) := by rw [← e439]; exact x_up_at
          have e450 : cl9 h437 = (1 + (h (r1 + 11) 2)) := (congrArg (fun z => h437 z 2) ((((((q443.trans q444).trans q445).trans q446).trans q447).trans q448).trans q2)).trans q449
          have q451 : h437 1 2 = h427 1 2 := by rw [← e439]; exact x_up_k (Ne.symm (tne_11_1 t3))
          have q452 : h427 1 2 = h77 1 2 := by rw [← e429]; exact x_up_k (Ne.symm (tne_12_1 t3))
          obtain ⟨w453, e454⟩ := Tk.no c39 (by first | decide | omega)
          have w455 : ¬ Wd tB tN 2 (h 1 2) := by rw [show h 1 2 = h11 1 2 from (show h11 1 2 = h 1 2 by first | decide | omega).symm]; exact w453
          obtain ⟨w456, e457⟩ := Tk.no c61 (by first | decide | omega)
          have w458 : ¬ Wd tB tN 27 (h 1 2) := by rw [show h 1 2 = h33 1 2 from (show h33 1 2 = h 1 2 by first | decide | omega).symm]; exact w456
          obtain ⟨w459, e460⟩ := Tk.yes c83 (by first | decide | omega)
          have q461 : h437 1 2 = h427 1 2 := by rw [← e439]; exact x_up_k (Ne.symm (tne_11_1 t3))
          have q462 : h427 1 2 = h77 1 2 := by rw [← e429]; exact x_up_k (Ne.symm (tne_12_1 t3))
          refine x_retI (np := 60) (x := 0) (by decide +kernel) (by decide) (Or.inr ⟨by decide +kernel, by first | decide | omega, by first | decide | omega⟩) ⟨_, rfl, (by decide), ?_⟩
          exact ⟨j438, f440, (by first | decide | omega), (fun z => by first | decide | omega), (fun z => by first | decide | omega), (fun l => gP_wd (i := 5) (by unfold six; decide) w459 (show h55 1 2 = h 1 2 by first | decide | omega) e460 (by first | decide | omega) (show h77 1 2 = h437 1 2 by first | decide | omega))⟩
        have q418 : ¬ ((h (r1 + 11) 2) < 2147484048) := q418
        exfalso; omega
      have q66 : ¬ (v51 = 2147483648) := q66
      have b463 := c59 (by first | decide | omega)
      refine x_aload (np := 48) (x := 0) (by decide +kernel) rfl (x_nc_le (by decide)) ?_
      have q464 : h55 62 1 = h33 62 1 := f57 62 1 (by decide +kernel)
      have q465 : h33 62 1 = h11 62 1 := f35 62 1 (by decide +kernel)
      have q466 : h11 62 1 = h 62 1 := f13 62 1 (by decide +kernel)
      refine x_getR (np := 51) (x := 193) (f := 1) (q := (r1 + 11)) (by decide +kernel) (by decide) (by decide +kernel) (((q464.trans q465).trans q466).trans q2) ?_
      refine x_const (np := 54) (x := 9223376333969556456) (a := 2147484648) (by decide +kernel) (by decide) (by decide) ?_
      refine x_iload (np := 55) (x := 2) (by decide +kernel) rfl (by decide) ?_
      refine x_iadd (np := 56) (x := 0) (v := 2147484649) (by decide +kernel) (by decide) (by decide) (by first | decide | omega) (by first | decide | omega) ?_
      refine x_nI (t := 6) (mj := 36) (n := 2) (rc := 3) (ml := 2) (nr := 0) (np := 59) (as := [x_r (r1 + 11), iv_c 2147484649]) (rest := []) (lo1 := [x_r (r1 + 11), iv_c 2147484649]) (by decide +kernel) (by decide) (by decide +kernel) (x_rb_of (tr_11_3 t3)) rfl rfl (x_wr (tn_11 t3) (x_wi (by decide) x_wn)) x_wn (by decide) rfl ?_
      refine x_aload (np := 1) (x := 0) (by decide +kernel) rfl (x_nc_le (tn_11 t3)) ?_
      have q467 : h55 (r1 + 11) 2 = h33 (r1 + 11) 2 := jK 0 f57 (rg_T11_2_0_1 t3) (by first | decide | omega) (by first | decide | omega) (by decide)
      have q468 : h33 (r1 + 11) 2 = h11 (r1 + 11) 2 := jK 0 f35 (rg_T11_2_0_1 t3) (by first | decide | omega) (by first | decide | omega) (by decide)
      have q469 : h11 (r1 + 11) 2 = h (r1 + 11) 2 := jK 0 f13 (rg_T11_2_0_1 t3) (by first | decide | omega) (by first | decide | omega) (by decide)
      refine x_getC (np := 4) (x := 130) (f := 2) (q := (h (r1 + 11) 2)) (by decide +kernel) (by decide) (tg_11_130_2_0 t3) ((q467.trans q468).trans q469) (fun l470 => ?_)
      refine x_const (np := 7) (x := 9223373756989178256) (a := 2147484048) (by decide +kernel) (by decide) (by decide) ?_
      refine x_icmp (k := 2) (tg := 12) (np := 10) (by decide +kernel) (by decide) l470 (by decide) (fun q471 => ?_) (fun q472 => ?_)
      · have q471 : (h (r1 + 11) 2) < 2147484048 := q471
        refine x_aload (np := 13) (x := 0) (by decide +kernel) rfl (x_nc_le (tn_11 t3)) ?_
        have q473 : h55 (r1 + 11) 0 = (r1 + 12) := tf_11_0 j56 t3
        refine x_getR (np := 16) (x := 128) (f := 0) (q := (r1 + 12)) (by decide +kernel) (by decide) (tg_11_128_0_1 t3) q473 ?_
        refine x_aload (np := 17) (x := 0) (by decide +kernel) rfl (x_nc_le (tn_11 t3)) ?_
        have q474 : h55 (r1 + 11) 2 = h33 (r1 + 11) 2 := jK 0 f57 (rg_T11_2_0_1 t3) (by first | decide | omega) (by first | decide | omega) (by decide)
        have q475 : h33 (r1 + 11) 2 = h11 (r1 + 11) 2 := jK 0 f35 (rg_T11_2_0_1 t3) (by first | decide | omega) (by first | decide | omega) (by decide)
        have q476 : h11 (r1 + 11) 2 = h (r1 + 11) 2 := jK 0 f13 (rg_T11_2_0_1 t3) (by first | decide | omega) (by first | decide | omega) (by decide)
        refine x_getC (np := 20) (x := 130) (f := 2) (q := (h (r1 + 11) 2)) (by decide +kernel) (by decide) (tg_11_130_2_0 t3) ((q474.trans q475).trans q476) (fun l477 => ?_)
        refine x_iload (np := 21) (x := 1) (by decide +kernel) rfl (by decide) ?_
        obtain ⟨u478, q479⟩ : ∃ z, (h (r1 + 11) 2) = 2147483648 + z := ⟨(h (r1 + 11) 2) - 2147483648, by first | decide | omega⟩
        refine x_ast (np := 22) (x := 0) (kd := 1) (n := 400) (i := u478) (by decide +kernel) (Or.inl rfl) (ta_12_400 t3) (by first | decide | omega) (by first | decide | omega) (by decide) (by decide) (fun z => absurd z (by decide)) ?_
        have j481 := jU (e := u478) (v := 2147484649) u478 j56 (rg_T12_0_1_400 t3) (by first | decide | omega) (by first | decide | omega) (by first | decide | omega)
        have f483 := jF (e := u478) (v := 2147484649) u478 f62 (rg_T12_0_1_400 t3) (by first | decide | omega) (by first | decide | omega) (by decide)
        generalize e482 : x_up h55 (r1 + 12) u478 2147484649 = h480 at j481 f483 ⊢
        refine x_aload (np := 23) (x := 0) (by decide +kernel) rfl (x_nc_le (tn_11 t3)) ?_
        refine x_dup (np := 24) (x := 0) (by decide +kernel) (by have z := x_nc_le (k := (r1 + 11)) (tn_11 t3); unfold x_r; omega) ?_
        have q484 : h480 (r1 + 11) 2 = h55 (r1 + 11) 2 := by rw [← e482]; exact x_up_k tof_11_12
        have q485 : h55 (r1 + 11) 2 = h33 (r1 + 11) 2 := jK 0 f57 (rg_T11_2_0_1 t3) (by first | decide | omega) (by first | decide | omega) (by decide)
        have q486 : h33 (r1 + 11) 2 = h11 (r1 + 11) 2 := jK 0 f35 (rg_T11_2_0_1 t3) (by first | decide | omega) (by first | decide | omega) (by decide)
        have q487 : h11 (r1 + 11) 2 = h (r1 + 11) 2 := jK 0 f13 (rg_T11_2_0_1 t3) (by first | decide | omega) (by first | decide | omega) (by decide)
        refine x_getC (np := 27) (x := 130) (f := 2) (q := (h (r1 + 11) 2)) (by decide +kernel) (by decide) (tg_11_130_2_0 t3) (((q484.trans q485).trans q486).trans q487) (fun l488 => ?_)
        refine x_const (np := 28) (x := 9223372043297226753) (a := 2147483649) (by decide +kernel) (by decide) (by decide) ?_
        refine x_iadd (np := 29) (x := 0) (v := (1 + (h (r1 + 11) 2))) (by decide +kernel) l470 (by decide) (by first | decide | omega) (by first | decide | omega) ?_
        refine x_putI (np := 32) (x := 130) (f := 2) (by decide +kernel) (tg_11_130_2_0 t3) (by first | decide | omega) (Or.inl (by decide)) ?_
        have j490 := jU (e := 2) (v := (1 + (h (r1 + 11) 2))) 0 j481 (rg_T11_2_0_1 t3) (by first | decide | omega) (by first | decide | omega) (by first | decide | omega)
        have f492 := jF (e := 2) (v := (1 + (h (r1 + 11) 2))) 0 f483 (rg_T11_2_0_1 t3) (by first | decide | omega) (by first | decide | omega) (by decide)
        generalize e491 : x_up h480 (r1 + 11) 2 (1 + (h (r1 + 11) 2)) = h489 at j490 f492 ⊢
        refine x_const (np := 33) (x := 9223372043297226753) (a := 2147483649) (by decide +kernel) (by decide) (by decide) ?_
        refine x_retI (np := 34) (x := 0) (by decide +kernel) (by decide) (Or.inr ⟨by decide +kernel, by first | decide | omega, by first | decide | omega⟩) ⟨_, rfl, (by decide), ?_⟩
        have q493 : h489 1 2 = h480 1 2 := by rw [← e491]; exact x_up_k (Ne.symm (tne_11_1 t3))
        have q494 : h480 1 2 = h55 1 2 := by rw [← e482]; exact x_up_k (Ne.symm (tne_12_1 t3))
        have q495 : h489 62 1 = h480 62 1 := by rw [← e491]; exact x_up_k (Ne.symm (tne_11_62 t3))
        have q496 : h480 62 1 = h55 62 1 := by rw [← e482]; exact x_up_k (Ne.symm (tne_12_62 t3))
        have q497 : h55 62 1 = h33 62 1 := f57 62 1 (by decide +kernel)
        have q498 : h33 62 1 = h11 62 1 := f35 62 1 (by decide +kernel)
        have q499 : h11 62 1 = h 62 1 := f13 62 1 (by decide +kernel)
        have q500 : h489 (r1 + 11) 2 = (1 + (h (r1 + 11) 2)) := by rw [← e491]; exact x_up_at
        have e501 : cl9 h489 = (1 + (h (r1 + 11) 2)) := (congrArg (fun z => h489 z 2) (((((q495.trans q496).trans q497).trans q498).trans q499).trans q2)).trans q500
        have q502 : h489 1 2 = h480 1 2 := by rw [← e491]; exact x_up_k (Ne.symm (tne_11_1 t3))
        have q503 : h480 1 2 = h55 1 2 := by rw [← e482]; exact x_up_k (Ne.symm (tne_12_1 t3))
        obtain ⟨w504, e505⟩ := Tk.no c39 (by first | decide | omega)
        have w506 : ¬ Wd tB tN 2 (h 1 2) := by rw [show h 1 2 = h11 1 2 from (show h11 1 2 = h 1 2 by first | decide | omega).symm]; exact w504
        obtain ⟨w507, e508⟩ := Tk.yes c61 (by first | decide | omega)
        have q509 : h489 1 2 = h480 1 2 := by rw [← e491]; exact x_up_k (Ne.symm (tne_11_1 t3))
        have q510 : h480 1 2 = h55 1 2 := by rw [← e482]; exact x_up_k (Ne.symm (tne_12_1 t3))
        refine x_retI (np := 60) (x := 0) (by decide +kernel) (by decide) (Or.inr ⟨by decide +kernel, by first | decide | omega, by first | decide | omega⟩) ⟨_, rfl, (by decide), ?_⟩
        exact ⟨j490, f492, (by first | decide | omega), (fun z => by first | decide | omega), (fun z => by first | decide | omega), (fun l => gP_wd (i := 27) (by unfold six; decide) w507 (show h33 1 2 = h 1 2 by first | decide | omega) e508 (by first | decide | omega) (show h55 1 2 = h489 1 2 by first | decide | omega))⟩
      have q472 : ¬ ((h (r1 + 11) 2) < 2147484048) := q472
      exfalso; omega
    have q44 : ¬ (v29 = 2147483648) := q44
    have b511 := c37 (by first | decide | omega)
    refine x_aload (np := 48) (x := 0) (by decide +kernel) rfl (x_nc_le (by decide)) ?_
    have q512 : h33 62 1 = h11 62 1 := f35 62 1 (by decide +kernel)
    have q513 : h11 62 1 = h 62 1 := f13 62 1 (by decide +kernel)
    refine x_getR (np := 51) (x := 193) (f := 1) (q := (r1 + 11)) (by decide +kernel) (by decide) (by decide +kernel) ((q512.trans q513).trans q2) ?_
    refine x_const (np := 54) (x := 9223376333969556456) (a := 2147484648) (by decide +kernel) (by decide) (by decide) ?_
    refine x_iload (np := 55) (x := 2) (by decide +kernel) rfl (by decide) ?_
    refine x_iadd (np := 56) (x := 0) (v := 2147484648) (by decide +kernel) (by decide) (by decide) (by first | decide | omega) (by first | decide | omega) ?_
    refine x_nI (t := 6) (mj := 36) (n := 2) (rc := 3) (ml := 2) (nr := 0) (np := 59) (as := [x_r (r1 + 11), iv_c 2147484648]) (rest := []) (lo1 := [x_r (r1 + 11), iv_c 2147484648]) (by decide +kernel) (by decide) (by decide +kernel) (x_rb_of (tr_11_3 t3)) rfl rfl (x_wr (tn_11 t3) (x_wi (by decide) x_wn)) x_wn (by decide) rfl ?_
    refine x_aload (np := 1) (x := 0) (by decide +kernel) rfl (x_nc_le (tn_11 t3)) ?_
    have q514 : h33 (r1 + 11) 2 = h11 (r1 + 11) 2 := jK 0 f35 (rg_T11_2_0_1 t3) (by first | decide | omega) (by first | decide | omega) (by decide)
    have q515 : h11 (r1 + 11) 2 = h (r1 + 11) 2 := jK 0 f13 (rg_T11_2_0_1 t3) (by first | decide | omega) (by first | decide | omega) (by decide)
    refine x_getC (np := 4) (x := 130) (f := 2) (q := (h (r1 + 11) 2)) (by decide +kernel) (by decide) (tg_11_130_2_0 t3) (q514.trans q515) (fun l516 => ?_)
    refine x_const (np := 7) (x := 9223373756989178256) (a := 2147484048) (by decide +kernel) (by decide) (by decide) ?_
    refine x_icmp (k := 2) (tg := 12) (np := 10) (by decide +kernel) (by decide) l516 (by decide) (fun q517 => ?_) (fun q518 => ?_)
    · have q517 : (h (r1 + 11) 2) < 2147484048 := q517
      refine x_aload (np := 13) (x := 0) (by decide +kernel) rfl (x_nc_le (tn_11 t3)) ?_
      have q519 : h33 (r1 + 11) 0 = (r1 + 12) := tf_11_0 j34 t3
      refine x_getR (np := 16) (x := 128) (f := 0) (q := (r1 + 12)) (by decide +kernel) (by decide) (tg_11_128_0_1 t3) q519 ?_
      refine x_aload (np := 17) (x := 0) (by decide +kernel) rfl (x_nc_le (tn_11 t3)) ?_
      have q520 : h33 (r1 + 11) 2 = h11 (r1 + 11) 2 := jK 0 f35 (rg_T11_2_0_1 t3) (by first | decide | omega) (by first | decide | omega) (by decide)
      have q521 : h11 (r1 + 11) 2 = h (r1 + 11) 2 := jK 0 f13 (rg_T11_2_0_1 t3) (by first | decide | omega) (by first | decide | omega) (by decide)
      refine x_getC (np := 20) (x := 130) (f := 2) (q := (h (r1 + 11) 2)) (by decide +kernel) (by decide) (tg_11_130_2_0 t3) (q520.trans q521) (fun l522 => ?_)
      refine x_iload (np := 21) (x := 1) (by decide +kernel) rfl (by decide) ?_
      obtain ⟨u523, q524⟩ : ∃ z, (h (r1 + 11) 2) = 2147483648 + z := ⟨(h (r1 + 11) 2) - 2147483648, by first | decide | omega⟩
      refine x_ast (np := 22) (x := 0) (kd := 1) (n := 400) (i := u523) (by decide +kernel) (Or.inl rfl) (ta_12_400 t3) (by first | decide | omega) (by first | decide | omega) (by decide) (by decide) (fun z => absurd z (by decide)) ?_
      have j526 := jU (e := u523) (v := 2147484648) u523 j34 (rg_T12_0_1_400 t3) (by first | decide | omega) (by first | decide | omega) (by first | decide | omega)
      have f528 := jF (e := u523) (v := 2147484648) u523 f40 (rg_T12_0_1_400 t3) (by first | decide | omega) (by first | decide | omega) (by decide)
      generalize e527 : x_up h33 (r1 + 12) u523 2147484648 = h525 at j526 f528 ⊢
      refine x_aload (np := 23) (x := 0) (by decide +kernel) rfl (x_nc_le (tn_11 t3)) ?_
      refine x_dup (np := 24) (x := 0) (by decide +kernel) (by have z := x_nc_le (k := (r1 + 11)) (tn_11 t3); unfold x_r; omega) ?_
      have q529 : h525 (r1 + 11) 2 = h33 (r1 + 11) 2 := by rw [← e527]; exact x_up_k tof_11_12
      have q530 : h33 (r1 + 11) 2 = h11 (r1 + 11) 2 := jK 0 f35 (rg_T11_2_0_1 t3) (by first | decide | omega) (by first | decide | omega) (by decide)
      have q531 : h11 (r1 + 11) 2 = h (r1 + 11) 2 := jK 0 f13 (rg_T11_2_0_1 t3) (by first | decide | omega) (by first | decide | omega) (by decide)
      refine x_getC (np := 27) (x := 130) (f := 2) (q := (h (r1 + 11) 2)) (by decide +kernel) (by decide) (tg_11_130_2_0 t3) ((q529.trans q530).trans q531) (fun l532 => ?_)
      refine x_const (np := 28) (x := 9223372043297226753) (a := 2147483649) (by decide +kernel) (by decide) (by decide) ?_
      refine x_iadd (np := 29) (x := 0) (v := (1 + (h (r1 + 11) 2))) (by decide +kernel) l516 (by decide) (by first | decide | omega) (by first | decide | omega) ?_
      refine x_putI (np := 32) (x := 130) (f := 2) (by decide +kernel) (tg_11_130_2_0 t3) (by first | decide | omega) (Or.inl (by decide)) ?_
      have j534 := jU (e := 2) (v := (1 + (h (r1 + 11) 2))) 0 j526 (rg_T11_2_0_1 t3) (by first | decide | omega) (by first | decide | omega) (by first | decide | omega)
      have f536 := jF (e := 2) (v := (1 + (h (r1 + 11) 2))) 0 f528 (rg_T11_2_0_1 t3) (by first | decide | omega) (by first | decide | omega) (by decide)
      generalize e535 : x_up h525 (r1 + 11) 2 (1 + (h (r1 + 11) 2)) = h533 at j534 f536 ⊢
      refine x_const (np := 33) (x := 9223372043297226753) (a := 2147483649) (by decide +kernel) (by decide) (by decide) ?_
      refine x_retI (np := 34) (x := 0) (by decide +kernel) (by decide) (Or.inr ⟨by decide +kernel, by first | decide | omega, by first | decide | omega⟩) ⟨_, rfl, (by decide), ?_⟩
      have q537 : h533 1 2 = h525 1 2 := by rw [← e535]; exact x_up_k (Ne.symm (tne_11_1 t3))
      have q538 : h525 1 2 = h33 1 2 := by rw [← e527]; exact x_up_k (Ne.symm (tne_12_1 t3))
      have q539 : h533 62 1 = h525 62 1 := by rw [← e535]; exact x_up_k (Ne.symm (tne_11_62 t3))
      have q540 : h525 62 1 = h33 62 1 := by rw [← e527]; exact x_up_k (Ne.symm (tne_12_62 t3))
      have q541 : h33 62 1 = h11 62 1 := f35 62 1 (by decide +kernel)
      have q542 : h11 62 1 = h 62 1 := f13 62 1 (by decide +kernel)
      have q543 : h533 (r1 + 11) 2 = (1 + (h (r1 + 11) 2)) := by rw [← e535]; exact x_up_at
      have e544 : cl9 h533 = (1 + (h (r1 + 11) 2)) := (congrArg (fun z => h533 z 2) ((((q539.trans q540).trans q541).trans q542).trans q2)).trans q543
      have q545 : h533 1 2 = h525 1 2 := by rw [← e535]; exact x_up_k (Ne.symm (tne_11_1 t3))
      have q546 : h525 1 2 = h33 1 2 := by rw [← e527]; exact x_up_k (Ne.symm (tne_12_1 t3))
      obtain ⟨w547, e548⟩ := Tk.yes c39 (by first | decide | omega)
      have q549 : h533 1 2 = h525 1 2 := by rw [← e535]; exact x_up_k (Ne.symm (tne_11_1 t3))
      have q550 : h525 1 2 = h33 1 2 := by rw [← e527]; exact x_up_k (Ne.symm (tne_12_1 t3))
      refine x_retI (np := 60) (x := 0) (by decide +kernel) (by decide) (Or.inr ⟨by decide +kernel, by first | decide | omega, by first | decide | omega⟩) ⟨_, rfl, (by decide), ?_⟩
      exact ⟨j534, f536, (by first | decide | omega), (fun z => by first | decide | omega), (fun z => by first | decide | omega), (fun l => gP_wd (i := 2) (by unfold six; decide) w547 (show h11 1 2 = h 1 2 by first | decide | omega) e548 (by first | decide | omega) (show h33 1 2 = h533 1 2 by first | decide | omega))⟩
    have q518 : ¬ ((h (r1 + 11) 2) < 2147484048) := q518
    exfalso; omega
  have q22 : ¬ (v8 = 2147483647) := q22
  have b551 := c16 (by first | decide | omega)
  refine x_aload (np := 18) (x := 0) (by decide +kernel) rfl (x_nc_le (by decide)) ?_
  have q552 : h11 62 1 = h 62 1 := f13 62 1 (by decide +kernel)
  refine x_getR (np := 21) (x := 193) (f := 1) (q := (r1 + 11)) (by decide +kernel) (by decide) (by decide +kernel) (q552.trans q2) ?_
  refine x_iload (np := 22) (x := 1) (by decide +kernel) rfl l9 ?_
  refine x_nI (t := 6) (mj := 36) (n := 2) (rc := 3) (ml := 2) (nr := 0) (np := 25) (as := [x_r (r1 + 11), iv_c v8]) (rest := []) (lo1 := [x_r (r1 + 11), iv_c v8]) (by decide +kernel) (by decide) (by decide +kernel) (x_rb_of (tr_11_3 t3)) rfl rfl (x_wr (tn_11 t3) (x_wi l9 x_wn)) x_wn (by decide) rfl ?_
  refine x_aload (np := 1) (x := 0) (by decide +kernel) rfl (x_nc_le (tn_11 t3)) ?_
  have q553 : h11 (r1 + 11) 2 = h (r1 + 11) 2 := jK 0 f13 (rg_T11_2_0_1 t3) (by first | decide | omega) (by first | decide | omega) (by decide)
  refine x_getC (np := 4) (x := 130) (f := 2) (q := (h (r1 + 11) 2)) (by decide +kernel) (by decide) (tg_11_130_2_0 t3) q553 (fun l554 => ?_)
  refine x_const (np := 7) (x := 9223373756989178256) (a := 2147484048) (by decide +kernel) (by decide) (by decide) ?_
  refine x_icmp (k := 2) (tg := 12) (np := 10) (by decide +kernel) (by decide) l554 (by decide) (fun q555 => ?_) (fun q556 => ?_)
  · have q555 : (h (r1 + 11) 2) < 2147484048 := q555
    refine x_aload (np := 13) (x := 0) (by decide +kernel) rfl (x_nc_le (tn_11 t3)) ?_
    have q557 : h11 (r1 + 11) 0 = (r1 + 12) := tf_11_0 j12 t3
    refine x_getR (np := 16) (x := 128) (f := 0) (q := (r1 + 12)) (by decide +kernel) (by decide) (tg_11_128_0_1 t3) q557 ?_
    refine x_aload (np := 17) (x := 0) (by decide +kernel) rfl (x_nc_le (tn_11 t3)) ?_
    have q558 : h11 (r1 + 11) 2 = h (r1 + 11) 2 := jK 0 f13 (rg_T11_2_0_1 t3) (by first | decide | omega) (by first | decide | omega) (by decide)
    refine x_getC (np := 20) (x := 130) (f := 2) (q := (h (r1 + 11) 2)) (by decide +kernel) (by decide) (tg_11_130_2_0 t3) q558 (fun l559 => ?_)
    refine x_iload (np := 21) (x := 1) (by decide +kernel) rfl l9 ?_
    obtain ⟨u560, q561⟩ : ∃ z, (h (r1 + 11) 2) = 2147483648 + z := ⟨(h (r1 + 11) 2) - 2147483648, by first | decide | omega⟩
    refine x_ast (np := 22) (x := 0) (kd := 1) (n := 400) (i := u560) (by decide +kernel) (Or.inl rfl) (ta_12_400 t3) (by first | decide | omega) (by first | decide | omega) (by decide) l9 (fun z => absurd z (by decide)) ?_
    have j563 := jU (e := u560) (v := v8) u560 j12 (rg_T12_0_1_400 t3) (by first | decide | omega) (by first | decide | omega) (by first | decide | omega)
    have f565 := jF (e := u560) (v := v8) u560 f19 (rg_T12_0_1_400 t3) (by first | decide | omega) (by first | decide | omega) (by decide)
    generalize e564 : x_up h11 (r1 + 12) u560 v8 = h562 at j563 f565 ⊢
    refine x_aload (np := 23) (x := 0) (by decide +kernel) rfl (x_nc_le (tn_11 t3)) ?_
    refine x_dup (np := 24) (x := 0) (by decide +kernel) (by have z := x_nc_le (k := (r1 + 11)) (tn_11 t3); unfold x_r; omega) ?_
    have q566 : h562 (r1 + 11) 2 = h11 (r1 + 11) 2 := by rw [← e564]; exact x_up_k tof_11_12
    have q567 : h11 (r1 + 11) 2 = h (r1 + 11) 2 := jK 0 f13 (rg_T11_2_0_1 t3) (by first | decide | omega) (by first | decide | omega) (by decide)
    refine x_getC (np := 27) (x := 130) (f := 2) (q := (h (r1 + 11) 2)) (by decide +kernel) (by decide) (tg_11_130_2_0 t3) (q566.trans q567) (fun l568 => ?_)
    refine x_const (np := 28) (x := 9223372043297226753) (a := 2147483649) (by decide +kernel) (by decide) (by decide) ?_
    refine x_iadd (np := 29) (x := 0) (v := (1 + (h (r1 + 11) 2))) (by decide +kernel) l554 (by decide) (by first | decide | omega) (by first | decide | omega) ?_
    refine x_putI (np := 32) (x := 130) (f := 2) (by decide +kernel) (tg_11_130_2_0 t3) (by first | decide | omega) (Or.inl (by decide)) ?_
    have j570 := jU (e := 2) (v := (1 + (h (r1 + 11) 2))) 0 j563 (rg_T11_2_0_1 t3) (by first | decide | omega) (by first | decide | omega) (by first | decide | omega)
    have f572 := jF (e := 2) (v := (1 + (h (r1 + 11) 2))) 0 f565 (rg_T11_2_0_1 t3) (by first | decide | omega) (by first | decide | omega) (by decide)
    generalize e571 : x_up h562 (r1 + 11) 2 (1 + (h (r1 + 11) 2)) = h569 at j570 f572 ⊢
    refine x_const (np := 33) (x := 9223372043297226753) (a := 2147483649) (by decide +kernel) (by decide) (by decide) ?_
    refine x_retI (np := 34) (x := 0) (by decide +kernel) (by decide) (Or.inr ⟨by decide +kernel, by first | decide | omega, by first | decide | omega⟩) ⟨_, rfl, (by decide), ?_⟩
    have q573 : h569 1 2 = h562 1 2 := by rw [← e571]; exact x_up_k (Ne.symm (tne_11_1 t3))
    have q574 : h562 1 2 = h11 1 2 := by rw [← e564]; exact x_up_k (Ne.symm (tne_12_1 t3))
    have q575 : h569 62 1 = h562 62 1 := by rw [← e571]; exact x_up_k (Ne.symm (tne_11_62 t3))
    have q576 : h562 62 1 = h11 62 1 := by rw [← e564]; exact x_up_k (Ne.symm (tne_12_62 t3))
    have q577 : h11 62 1 = h 62 1 := f13 62 1 (by decide +kernel)
    have q578 : h569 (r1 + 11) 2 = (1 + (h (r1 + 11) 2)) := by rw [← e571]; exact x_up_at
    have e579 : cl9 h569 = (1 + (h (r1 + 11) 2)) := (congrArg (fun z => h569 z 2) (((q575.trans q576).trans q577).trans q2)).trans q578
    have q580 : h569 1 2 = h562 1 2 := by rw [← e571]; exact x_up_k (Ne.symm (tne_11_1 t3))
    have q581 : h562 1 2 = h11 1 2 := by rw [← e564]; exact x_up_k (Ne.symm (tne_12_1 t3))
    have q582 : h569 1 2 = h562 1 2 := by rw [← e571]; exact x_up_k (Ne.symm (tne_11_1 t3))
    have q583 : h562 1 2 = h11 1 2 := by rw [← e564]; exact x_up_k (Ne.symm (tne_12_1 t3))
    refine x_retI (np := 26) (x := 0) (by decide +kernel) (by decide) (Or.inr ⟨by decide +kernel, by first | decide | omega, by first | decide | omega⟩) ⟨_, rfl, (by decide), ?_⟩
    exact ⟨j570, f572, (by first | decide | omega), (fun z => by first | decide | omega), (fun z => by first | decide | omega), (fun l => gP_num c18 rfl (by first | decide | omega) (by first | decide | omega) (show h11 1 2 = h569 1 2 by first | decide | omega))⟩
  have q556 : ¬ ((h (r1 + 11) 2) < 2147484048) := q556
  exfalso; omega
set_option maxHeartbeats 0 in
/-- LentNames$CustomReader.readSum()Z -/
theorem c49_62 {sc : Nat × Nat} {d  : Nat} {h : xh} {tB : Nat → Nat} {tN : Nat} (hJ : J h) (hr0 : (cl9 h) + 5 ≤ (h 1 2)) (hT : Tp tB tN h) : X sc 49 (d + 7) (xI fun r h' => J h' ∧ Fr 161 h h' ∧ (2147483648 ≤ r ∧ r ≤ 2147483649) ∧ (r = 2147483649 → h 1 2 + 1 ≤ h' 1 2) ∧ (r = 2147483649 → cl9 h' + h 1 2 ≤ h' 1 2 + cl9 h) ∧ (∀ l, G tB tN (Kd.seq 0) l (h 1 2) (rs r (h' 1 2)))) 0 0 0 [x_r 62, 147573952589676412928] [] h := by
  have hF := Fr.refl 161 h
  obtain ⟨r1, q2, t3⟩ : ∃ z, (h 62 1) = z + 11 ∧ tw z := by
    rcases hJ.2.2.2.2.2.2.2 with z | z
    · exact ⟨17, by rw [z], Or.inl rfl⟩
    · exact ⟨31, by rw [z], Or.inr rfl⟩
  have b4 := jB (e := 2) 0 hJ (rg_T11_2_0_1 t3) (by first | decide | omega) (by first | decide | omega)
  have e5 : cl9 h = (h (r1 + 11) 2) := (congrArg (fun z => h z 2) q2).trans rfl
  have b6 := jB (e := 2) 0 hJ rg_1_2_0_1 (by first | decide | omega) (by first | decide | omega)
  refine x_aload (np := 1) (x := 0) (by decide +kernel) rfl (x_nc_le (by decide)) ?_
  refine x_cI (t := 6) (mj := 50) (n := 1) (rc := 4) (ml := 3) (nr := 0) (np := 4) (as := [x_r 62]) (rest := []) (lo1 := [x_r 62, 147573952589676412928, 147573952589676412928]) (by decide +kernel) (by decide) (by decide +kernel) (x_rb_of (by decide +kernel)) rfl rfl (x_wr (by decide) x_wn) x_wn (by decide) rfl (c50_62 hJ  (by first | decide | omega) hT) (fun v7 h10 l8 q9 => ?_)
  obtain ⟨j11, f12, b13, c14, c15, c16⟩ := q9
  have f17 := Fr.trans hF f12 (by decide)
  have b18 := jB (e := 2) 0 j11 rg_1_2_0_1 (by first | decide | omega) (by first | decide | omega)
  have q19 : h10 62 1 = h 62 1 := f12 62 1 (by decide +kernel)
  have b20 := jB (e := 2) 0 j11 (rg_T11_2_0_1 t3) (by first | decide | omega) (by first | decide | omega)
  have e21 : cl9 h10 = (h10 (r1 + 11) 2) := (congrArg (fun z => h10 z 2) (q19.trans q2)).trans rfl
  refine x_ifz (k := 1) (tg := 9) (np := 7) (by decide +kernel) (by decide) l8 (fun q22 => ?_) (fun q23 => ?_)
  · have q22 : v7 ≠ 2147483648 := q22
    have b24 := c14 (by first | decide | omega)
    have b25 := c15 (by first | decide | omega)
    refine x_const (np := 10) (x := 9223372039002259456) (a := 2147483648) (by decide +kernel) (by decide) (by decide) ?_
    refine x_istore (np := 11) (x := 1) (lo' := [x_r 62, iv_c 2147483648]) (by decide +kernel) (by decide) (Nat.le_of_ble_eq_true rfl) rfl ?_
    have p2043 : ∀ (n : Nat) (v2038 : Nat) (h2040 : xh), 4294967296 - v2038 < n → (2147483648 ≤ v2038 ∧ v2038 ≤ 2147484047) → cl9 h2040 + h 1 2 ≤ h2040 1 2 + cl9 h → h 1 2 + 1 ≤ h2040 1 2 → v2038 ≤ h2040 1 2 → J h2040 → Fr 161 h10 h2040 → (∀ l, Res tB tN (Kd.lp 0) l (h2040 1 2) (Kd.seq 0) l (h 1 2)) → X sc 49 (d + 7) (xI fun r h' => J h' ∧ Fr 161 h h' ∧ (2147483648 ≤ r ∧ r ≤ 2147483649) ∧ (r = 2147483649 → h 1 2 + 1 ≤ h' 1 2) ∧ (r = 2147483649 → cl9 h' + h 1 2 ≤ h' 1 2 + cl9 h) ∧ (∀ l, G tB tN (Kd.seq 0) l (h 1 2) (rs r (h' 1 2)))) 0 0 11 [x_r 62, iv_c v2038] [] h2040 := by
      intro n
      induction n with
      | zero => intro v2038 h2040 q2048; exact absurd q2048 (Nat.not_lt_zero _)
      | succ n i2049 =>
        intro v2038 h2040 q2048 b2039 b2044 b2045 b2046 j2042 f2041 m2047
        have f2050 := Fr.trans f17 f2041 (by decide)
        have b2051 := jB (e := 2) 0 j2042 rg_1_2_0_1 (by first | decide | omega) (by first | decide | omega)
        have q2052 : h2040 62 1 = h10 62 1 := f2041 62 1 (by decide +kernel)
        have q2053 : h10 62 1 = h 62 1 := f12 62 1 (by decide +kernel)
        have b2054 := jB (e := 2) 0 j2042 (rg_T11_2_0_1 t3) (by first | decide | omega) (by first | decide | omega)
        have e2055 : cl9 h2040 = (h2040 (r1 + 11) 2) := (congrArg (fun z => h2040 z 2) ((q2052.trans q2053).trans q2)).trans rfl
        refine x_iload (np := 12) (x := 1) (by decide +kernel) rfl (by first | decide | omega) ?_
        refine x_const (np := 15) (x := 9223373756989178256) (a := 2147484048) (by decide +kernel) (by decide) (by decide) ?_
        refine x_icmp (k := 3) (tg := 58) (np := 18) (by decide +kernel) (by decide) (by first | decide | omega) (by decide) (fun q2056 => ?_) (fun q2057 => ?_)
        · have q2056 : 2147484048 ≤ v2038 := q2056
          exfalso; omega
        have q2057 : ¬ (2147484048 ≤ v2038) := q2057
        refine x_aload (np := 19) (x := 0) (by decide +kernel) rfl (x_nc_le (by decide)) ?_
        have q2058 : h2040 62 0 = 1 := by have z := jB (e := 0) 0 j2042 rg_62_0_0_1 (by decide) (by decide); omega
        refine x_getR (np := 22) (x := 192) (f := 0) (q := 1) (by decide +kernel) (by decide) (by decide +kernel) q2058 ?_
        refine x_const (np := 24) (x := 9223372223685853227) (a := 2147483691) (by decide +kernel) (by decide) (by decide) ?_
        have m2063 := Tp.fr hT f12 (by decide) (by decide)
        have m2062 := Tp.fr m2063 f2041 (by decide) (by decide)
        refine x_cI (t := 6) (mj := 76) (n := 2) (rc := 8) (ml := 2) (nr := 0) (np := 27) (as := [x_r 1, iv_c 2147483691]) (rest := []) (lo1 := [x_r 1, iv_c 2147483691]) (by decide +kernel) (by decide) (by decide +kernel) (x_rb_of (by decide +kernel)) rfl rfl (x_wr (by decide) (x_wi (by decide) x_wn)) x_wn (by decide) rfl (c76_1 j2042  (by first | decide | omega) m2062) (fun v2059 h2064 l2060 q2061 => ?_)
        obtain ⟨j2065, f2066, b2067, c2068, c2069, c2070⟩ := q2061
        have f2071 := Fr.trans f2050 f2066 (by decide)
        have f2072 := Fr.trans f2041 f2066 (by decide)
        have b2073 := jB (e := 2) 0 j2065 rg_1_2_0_1 (by first | decide | omega) (by first | decide | omega)
        refine x_ifz (k := 0) (tg := 58) (np := 30) (by decide +kernel) (by decide) l2060 (fun q2074 => ?_) (fun q2075 => ?_)
        · have q2074 : v2059 = 2147483648 := q2074
          have b2076 := c2069 (by first | decide | omega)
          refine x_const (np := 59) (x := 9223372043297226753) (a := 2147483649) (by decide +kernel) (by decide) (by decide) ?_
          have q2077 : h2064 62 1 = h2040 62 1 := f2066 62 1 (by decide +kernel)
          have q2078 : h2040 62 1 = h10 62 1 := f2041 62 1 (by decide +kernel)
          have q2079 : h10 62 1 = h 62 1 := f12 62 1 (by decide +kernel)
          have q2080 : h2064 (r1 + 11) 2 = h2040 (r1 + 11) 2 := jK 0 f2066 (rg_T11_2_0_1 t3) (by first | decide | omega) (by first | decide | omega) (by decide)
          have e2081 : cl9 h2064 = (h2040 (r1 + 11) 2) := (congrArg (fun z => h2064 z 2) (((q2077.trans q2078).trans q2079).trans q2)).trans q2080
          obtain ⟨w2082, e2083⟩ := Tk.no c2070 (by first | decide | omega)
          refine x_retI (np := 60) (x := 0) (by decide +kernel) (by decide) (Or.inr ⟨by decide +kernel, by first | decide | omega, by first | decide | omega⟩) ⟨_, rfl, (by decide), ?_⟩
          exact ⟨j2065, f2071, (by first | decide | omega), (fun z => by first | decide | omega), (fun z => by first | decide | omega), (fun l => gQ_e (t := 0) (m2047 l) w2082 rfl (by first | decide | omega) (show h2040 1 2 = h2064 1 2 by first | decide | omega))⟩
        have q2075 : ¬ (v2059 = 2147483648) := q2075
        have b2084 := c2068 (by first | decide | omega)
        refine x_aload (np := 31) (x := 0) (by decide +kernel) rfl (x_nc_le (by decide)) ?_
        have q2085 : h2064 62 1 = h2040 62 1 := f2066 62 1 (by decide +kernel)
        have q2086 : h2040 62 1 = h10 62 1 := f2041 62 1 (by decide +kernel)
        have q2087 : h10 62 1 = h 62 1 := f12 62 1 (by decide +kernel)
        have q2088 : h2064 (r1 + 11) 2 = h2040 (r1 + 11) 2 := jK 0 f2066 (rg_T11_2_0_1 t3) (by first | decide | omega) (by first | decide | omega) (by decide)
        have e2089 : cl9 h2064 = (h2040 (r1 + 11) 2) := (congrArg (fun z => h2064 z 2) (((q2085.trans q2086).trans q2087).trans q2)).trans q2088
        have m2093 := Tp.fr m2062 f2066 (by decide) (by decide)
        refine x_cI (t := 6) (mj := 50) (n := 1) (rc := 4) (ml := 3) (nr := 0) (np := 34) (as := [x_r 62]) (rest := []) (lo1 := [x_r 62, 147573952589676412928, 147573952589676412928]) (by decide +kernel) (by decide) (by decide +kernel) (x_rb_of (by decide +kernel)) rfl rfl (x_wr (by decide) x_wn) x_wn (by decide) rfl (c50_62 j2065  (by first | decide | omega) m2093) (fun v2090 h2094 l2091 q2092 => ?_)
        obtain ⟨j2095, f2096, b2097, c2098, c2099, c2100⟩ := q2092
        have f2101 := Fr.trans f2071 f2096 (by decide)
        have f2102 := Fr.trans f2072 f2096 (by decide)
        have b2103 := jB (e := 2) 0 j2095 rg_1_2_0_1 (by first | decide | omega) (by first | decide | omega)
        have q2104 : h2064 62 1 = h2040 62 1 := f2066 62 1 (by decide +kernel)
        have q2105 : h2040 62 1 = h10 62 1 := f2041 62 1 (by decide +kernel)
        have q2106 : h10 62 1 = h 62 1 := f12 62 1 (by decide +kernel)
        have q2107 : h2064 (r1 + 11) 2 = h2040 (r1 + 11) 2 := jK 0 f2066 (rg_T11_2_0_1 t3) (by first | decide | omega) (by first | decide | omega) (by decide)
        have q2108 : h2094 62 1 = h2064 62 1 := f2096 62 1 (by decide +kernel)
        have q2109 : h2064 62 1 = h2040 62 1 := f2066 62 1 (by decide +kernel)
        have q2110 : h2040 62 1 = h10 62 1 := f2041 62 1 (by decide +kernel)
        have q2111 : h10 62 1 = h 62 1 := f12 62 1 (by decide +kernel)
        have b2112 := jB (e := 2) 0 j2095 (rg_T11_2_0_1 t3) (by first | decide | omega) (by first | decide | omega)
        have e2113 : cl9 h2094 = (h2094 (r1 + 11) 2) := (congrArg (fun z => h2094 z 2) ((((q2108.trans q2109).trans q2110).trans q2111).trans q2)).trans rfl
        refine x_ifz (k := 0) (tg := 50) (np := 37) (by decide +kernel) (by decide) l2091 (fun q2114 => ?_) (fun q2115 => ?_)
        · have q2114 : v2090 = 2147483648 := q2114
          refine x_const (np := 51) (x := 9223372039002259456) (a := 2147483648) (by decide +kernel) (by decide) (by decide) ?_
          have q2116 : h2094 62 1 = h2064 62 1 := f2096 62 1 (by decide +kernel)
          have q2117 : h2064 62 1 = h2040 62 1 := f2066 62 1 (by decide +kernel)
          have q2118 : h2040 62 1 = h10 62 1 := f2041 62 1 (by decide +kernel)
          have q2119 : h10 62 1 = h 62 1 := f12 62 1 (by decide +kernel)
          obtain ⟨w2120, e2121⟩ := Tk.yes c2070 (by first | decide | omega)
          refine x_retI (np := 52) (x := 0) (by decide +kernel) (by decide) (Or.inr ⟨by decide +kernel, by first | decide | omega, by first | decide | omega⟩) ⟨_, rfl, (by decide), ?_⟩
          exact ⟨j2095, f2101, (by first | decide | omega), (fun z => by first | decide | omega), (fun z => by first | decide | omega), (fun l => gQ_f (t := 0) (m2047 l) w2120 rfl e2121 (c2100 l) rfl (by first | decide | omega) (by first | decide | omega))⟩
        have q2115 : ¬ (v2090 = 2147483648) := q2115
        have b2122 := c2098 (by first | decide | omega)
        have b2123 := c2099 (by first | decide | omega)
        refine x_aload (np := 38) (x := 0) (by decide +kernel) rfl (x_nc_le (by decide)) ?_
        have q2124 : h2094 62 1 = h2064 62 1 := f2096 62 1 (by decide +kernel)
        have q2125 : h2064 62 1 = h2040 62 1 := f2066 62 1 (by decide +kernel)
        have q2126 : h2040 62 1 = h10 62 1 := f2041 62 1 (by decide +kernel)
        have q2127 : h10 62 1 = h 62 1 := f12 62 1 (by decide +kernel)
        refine x_getR (np := 41) (x := 193) (f := 1) (q := (r1 + 11)) (by decide +kernel) (by decide) (by decide +kernel) ((((q2124.trans q2125).trans q2126).trans q2127).trans q2) ?_
        refine x_const (np := 44) (x := 9223380628936853456) (a := 2147485648) (by decide +kernel) (by decide) (by decide) ?_
        refine x_nI (t := 6) (mj := 36) (n := 2) (rc := 3) (ml := 2) (nr := 0) (np := 47) (as := [x_r (r1 + 11), iv_c 2147485648]) (rest := []) (lo1 := [x_r (r1 + 11), iv_c 2147485648]) (by decide +kernel) (by decide) (by decide +kernel) (x_rb_of (tr_11_3 t3)) rfl rfl (x_wr (tn_11 t3) (x_wi (by decide) x_wn)) x_wn (by decide) rfl ?_
        refine x_aload (np := 1) (x := 0) (by decide +kernel) rfl (x_nc_le (tn_11 t3)) ?_
        refine x_getC (np := 4) (x := 130) (f := 2) (q := (h2094 (r1 + 11) 2)) (by decide +kernel) (by decide) (tg_11_130_2_0 t3) rfl (fun l2128 => ?_)
        refine x_const (np := 7) (x := 9223373756989178256) (a := 2147484048) (by decide +kernel) (by decide) (by decide) ?_
        refine x_icmp (k := 2) (tg := 12) (np := 10) (by decide +kernel) (by decide) l2128 (by decide) (fun q2129 => ?_) (fun q2130 => ?_)
        · have q2129 : (h2094 (r1 + 11) 2) < 2147484048 := q2129
          refine x_aload (np := 13) (x := 0) (by decide +kernel) rfl (x_nc_le (tn_11 t3)) ?_
          have q2131 : h2094 (r1 + 11) 0 = (r1 + 12) := tf_11_0 j2095 t3
          refine x_getR (np := 16) (x := 128) (f := 0) (q := (r1 + 12)) (by decide +kernel) (by decide) (tg_11_128_0_1 t3) q2131 ?_
          refine x_aload (np := 17) (x := 0) (by decide +kernel) rfl (x_nc_le (tn_11 t3)) ?_
          refine x_getC (np := 20) (x := 130) (f := 2) (q := (h2094 (r1 + 11) 2)) (by decide +kernel) (by decide) (tg_11_130_2_0 t3) rfl (fun l2132 => ?_)
          refine x_iload (np := 21) (x := 1) (by decide +kernel) rfl (by decide) ?_
          obtain ⟨u2133, q2134⟩ : ∃ z, (h2094 (r1 + 11) 2) = 2147483648 + z := ⟨(h2094 (r1 + 11) 2) - 2147483648, by first | decide | omega⟩
          refine x_ast (np := 22) (x := 0) (kd := 1) (n := 400) (i := u2133) (by decide +kernel) (Or.inl rfl) (ta_12_400 t3) (by first | decide | omega) (by first | decide | omega) (by decide) (by decide) (fun z => absurd z (by decide)) ?_
          have j2136 := jU (e := u2133) (v := 2147485648) u2133 j2095 (rg_T12_0_1_400 t3) (by first | decide | omega) (by first | decide | omega) (by first | decide | omega)
          have f2138 := jF (e := u2133) (v := 2147485648) u2133 f2101 (rg_T12_0_1_400 t3) (by first | decide | omega) (by first | decide | omega) (by decide)
          have f2139 := jF (e := u2133) (v := 2147485648) u2133 f2102 (rg_T12_0_1_400 t3) (by first | decide | omega) (by first | decide | omega) (by decide)
          generalize e2137 : x_up h2094 (r1 + 12) u2133 2147485648 = h2135 at j2136 f2138 f2139 ⊢
          refine x_aload (np := 23) (x := 0) (by decide +kernel) rfl (x_nc_le (tn_11 t3)) ?_
          refine x_dup (np := 24) (x := 0) (by decide +kernel) (by have z := x_nc_le (k := (r1 + 11)) (tn_11 t3); unfold x_r; omega) ?_
          have q2140 : h2135 (r1 + 11) 2 = h2094 (r1 + 11) 2 := by rw [← e2137]; exact x_up_k tof_11_12
          refine x_getC (np := 27) (x := 130) (f := 2) (q := (h2094 (r1 + 11) 2)) (by decide +kernel) (by decide) (tg_11_130_2_0 t3) q2140 (fun l2141 => ?_)
          refine x_const (np := 28) (x := 9223372043297226753) (a := 2147483649) (by decide +kernel) (by decide) (by decide) ?_
          refine x_iadd (np := 29) (x := 0) (v := (1 + (h2094 (r1 + 11) 2))) (by decide +kernel) l2128 (by decide) (by first | decide | omega) (by first | decide | omega) ?_
          refine x_putI (np := 32) (x := 130) (f := 2) (by decide +kernel) (tg_11_130_2_0 t3) (by first | decide | omega) (Or.inl (by decide)) ?_
          have j2143 := jU (e := 2) (v := (1 + (h2094 (r1 + 11) 2))) 0 j2136 (rg_T11_2_0_1 t3) (by first | decide | omega) (by first | decide | omega) (by first | decide | omega)
          have f2145 := jF (e := 2) (v := (1 + (h2094 (r1 + 11) 2))) 0 f2138 (rg_T11_2_0_1 t3) (by first | decide | omega) (by first | decide | omega) (by decide)
          have f2146 := jF (e := 2) (v := (1 + (h2094 (r1 + 11) 2))) 0 f2139 (rg_T11_2_0_1 t3) (by first | decide | omega) (by first | decide | omega) (by decide)
          generalize e2144 : x_up h2135 (r1 + 11) 2 (1 + (h2094 (r1 + 11) 2)) = h2142 at j2143 f2145 f2146 ⊢
          refine x_const (np := 33) (x := 9223372043297226753) (a := 2147483649) (by decide +kernel) (by decide) (by decide) ?_
          refine x_retI (np := 34) (x := 0) (by decide +kernel) (by decide) (Or.inr ⟨by decide +kernel, by first | decide | omega, by first | decide | omega⟩) ⟨_, rfl, (by decide), ?_⟩
          refine x_ifz (k := 1) (tg := 52) (np := 50) (by decide +kernel) (by decide) (by decide) (fun q2147 => ?_) (fun q2148 => ?_)
          · have q2147 : 2147483649 ≠ 2147483648 := q2147
            refine x_iinc (np := 55) (i := 1) (j := 2147483649) (v := (1 + v2038)) (lo' := [x_r 62, iv_c (1 + v2038)]) (by decide +kernel) (by decide) (by decide) rfl (by first | decide | omega) (by first | decide | omega) (by first | decide | omega) rfl ?_
            refine x_goto (np := 58) (x := 11) (by decide +kernel) ?_
            have q2149 : h2142 1 2 = h2135 1 2 := by rw [← e2144]; exact x_up_k (Ne.symm (tne_11_1 t3))
            have q2150 : h2135 1 2 = h2094 1 2 := by rw [← e2137]; exact x_up_k (Ne.symm (tne_12_1 t3))
            have q2151 : h2142 62 1 = h2135 62 1 := by rw [← e2144]; exact x_up_k (Ne.symm (tne_11_62 t3))
            have q2152 : h2135 62 1 = h2094 62 1 := by rw [← e2137]; exact x_up_k (Ne.symm (tne_12_62 t3))
            have q2153 : h2094 62 1 = h2064 62 1 := f2096 62 1 (by decide +kernel)
            have q2154 : h2064 62 1 = h2040 62 1 := f2066 62 1 (by decide +kernel)
            have q2155 : h2040 62 1 = h10 62 1 := f2041 62 1 (by decide +kernel)
            have q2156 : h10 62 1 = h 62 1 := f12 62 1 (by decide +kernel)
            have q2157 : h2142 (r1 + 11) 2 = (1 + (h2094 (r1 + 11) 2)) := by rw [← e2144]; exact x_up_at
            have e2158 : cl9 h2142 = (1 + (h2094 (r1 + 11) 2)) := (congrArg (fun z => h2142 z 2) ((((((q2151.trans q2152).trans q2153).trans q2154).trans q2155).trans q2156).trans q2)).trans q2157
            obtain ⟨w2159, e2160⟩ := Tk.yes c2070 (by first | decide | omega)
            have q2161 : h2142 1 2 = h2135 1 2 := by rw [← e2144]; exact x_up_k (Ne.symm (tne_11_1 t3))
            have q2162 : h2135 1 2 = h2094 1 2 := by rw [← e2137]; exact x_up_k (Ne.symm (tne_12_1 t3))
            exact i2049 (1 + v2038) h2142 (by first | decide | omega) (by first | decide | omega) (by first | decide | omega) (by first | decide | omega) (by first | decide | omega) j2143 f2146 (fun l => gQ_st (t := 0) (m2047 l) w2159 rfl e2160 (c2100 l) rfl (by first | decide | omega) (show h2094 1 2 = h2142 1 2 by first | decide | omega))
          have q2148 : ¬ (2147483649 ≠ 2147483648) := q2148
          exfalso; omega
        have q2130 : ¬ ((h2094 (r1 + 11) 2) < 2147484048) := q2130
        refine x_const (np := 11) (x := 9223372039002259456) (a := 2147483648) (by decide +kernel) (by decide) (by decide) ?_
        refine x_retI (np := 12) (x := 0) (by decide +kernel) (by decide) (Or.inr ⟨by decide +kernel, by first | decide | omega, by first | decide | omega⟩) ⟨_, rfl, (by decide), ?_⟩
        refine x_ifz (k := 1) (tg := 52) (np := 50) (by decide +kernel) (by decide) (by decide) (fun q2163 => ?_) (fun q2164 => ?_)
        · have q2163 : 2147483648 ≠ 2147483648 := q2163
          exfalso; omega
        have q2164 : ¬ (2147483648 ≠ 2147483648) := q2164
        refine x_const (np := 51) (x := 9223372039002259456) (a := 2147483648) (by decide +kernel) (by decide) (by decide) ?_
        have q2165 : h2094 62 1 = h2064 62 1 := f2096 62 1 (by decide +kernel)
        have q2166 : h2064 62 1 = h2040 62 1 := f2066 62 1 (by decide +kernel)
        have q2167 : h2040 62 1 = h10 62 1 := f2041 62 1 (by decide +kernel)
        have q2168 : h10 62 1 = h 62 1 := f12 62 1 (by decide +kernel)
        obtain ⟨w2169, e2170⟩ := Tk.yes c2070 (by first | decide | omega)
        refine x_retI (np := 52) (x := 0) (by decide +kernel) (by decide) (Or.inr ⟨by decide +kernel, by first | decide | omega, by first | decide | omega⟩) ⟨_, rfl, (by decide), ?_⟩
        exact ⟨j2095, f2101, (by first | decide | omega), (fun z => by first | decide | omega), (fun z => by first | decide | omega), (fun l => gQ_f (t := 0) (m2047 l) w2169 rfl e2170 (c2100 l) rfl (by first | decide | omega) (by first | decide | omega))⟩
    have q2171 : h10 62 1 = h 62 1 := f12 62 1 (by decide +kernel)
    exact p2043 _ 2147483648 h10 (Nat.lt_succ_self _) (by first | decide | omega) (by first | decide | omega) (by first | decide | omega) (by first | decide | omega) j11 (Fr.refl _ _) (fun l => gQ_in (t := 0) (c16 l) rfl (by first | decide | omega) rfl)
  have q23 : ¬ (v7 ≠ 2147483648) := q23
  refine x_const (np := 8) (x := 9223372039002259456) (a := 2147483648) (by decide +kernel) (by decide) (by decide) ?_
  have q2172 : h10 62 1 = h 62 1 := f12 62 1 (by decide +kernel)
  refine x_retI (np := 9) (x := 0) (by decide +kernel) (by decide) (Or.inr ⟨by decide +kernel, by first | decide | omega, by first | decide | omega⟩) ⟨_, rfl, (by decide), ?_⟩
  exact ⟨j11, f17, (by first | decide | omega), (fun z => by first | decide | omega), (fun z => by first | decide | omega), (fun l => gQ_no (t := 0) (c16 l) rfl (by first | decide | omega) (by first | decide | omega))⟩
set_option maxHeartbeats 0 in
/-- LentNames$CustomReader.readAtom(I)Z -/
theorem c48_62_c6 {sc : Nat × Nat} {d  : Nat} {h : xh} {tB : Nat → Nat} {tN : Nat} (hJ : J h) (hr0 : (cl9 h) + 5 ≤ (h 1 2)) (hT : Tp tB tN h) : X sc 48 (d + 8) (xI fun r h' => J h' ∧ Fr 161 h h' ∧ (2147483648 ≤ r ∧ r ≤ 2147483649) ∧ (r = 2147483649 → h 1 2 + 1 ≤ h' 1 2) ∧ (r = 2147483649 → cl9 h' + h 1 2 ≤ h' 1 2 + cl9 h) ∧ G tB tN Kd.atom 6 (h 1 2) (rs r (h' 1 2))) 0 0 0 [x_r 62, iv_c 2147483654] [] h := by
  have hF := Fr.refl 161 h
  obtain ⟨r1, q2, t3⟩ : ∃ z, (h 62 1) = z + 11 ∧ tw z := by
    rcases hJ.2.2.2.2.2.2.2 with z | z
    · exact ⟨17, by rw [z], Or.inl rfl⟩
    · exact ⟨31, by rw [z], Or.inr rfl⟩
  have b4 := jB (e := 2) 0 hJ (rg_T11_2_0_1 t3) (by first | decide | omega) (by first | decide | omega)
  have e5 : cl9 h = (h (r1 + 11) 2) := (congrArg (fun z => h z 2) q2).trans rfl
  have b6 := jB (e := 2) 0 hJ rg_1_2_0_1 (by first | decide | omega) (by first | decide | omega)
  refine x_aload (np := 1) (x := 0) (by decide +kernel) rfl (x_nc_le (by decide)) ?_
  have q7 : h 62 0 = 1 := by have z := jB (e := 0) 0 hJ rg_62_0_0_1 (by decide) (by decide); omega
  refine x_getR (np := 4) (x := 192) (f := 0) (q := 1) (by decide +kernel) (by decide) (by decide +kernel) q7 ?_
  refine x_ldcB (i := 24) (idx := 71) (tx := "not") (by rw [tb_y48]; exact List.mem_of_getElem? (i := 24) rfl) (by decide) (by rw [tb_b48]; decide +kernel) ?_
  refine x_cP (t := 6) (mj := 77) (n := 2) (rc := 8) (ml := 4) (nr := 0) (np := 9) (as := [x_r 1, x_b (24 + 1)]) (rest := []) (lo1 := [x_r 1, x_b (24 + 1), 147573952589676412928, 147573952589676412928]) (by decide +kernel) (by decide) (by decide +kernel) (x_rb_of (by decide +kernel)) rfl rfl (x_wr (by decide) (x_wB (by decide) x_wn)) x_wn (by decide) rfl (c77_1_S0 hJ  (by decide) hT) (fun v8 l9 q10 => ?_)
  obtain ⟨b13, c11, c12⟩ := q10
  refine x_ifz (k := 0) (tg := 59) (np := 12) (by decide +kernel) (by decide) l9 (fun q14 => ?_) (fun q15 => ?_)
  · have q14 : v8 = 2147483648 := q14
    refine x_aload (np := 60) (x := 0) (by decide +kernel) rfl (x_nc_le (by decide)) ?_
    have q16 : h 62 0 = 1 := by have z := jB (e := 0) 0 hJ rg_62_0_0_1 (by decide) (by decide); omega
    refine x_getR (np := 63) (x := 192) (f := 0) (q := 1) (by decide +kernel) (by decide) (by decide +kernel) q16 ?_
    refine x_const (np := 65) (x := 9223372210800951336) (a := 2147483688) (by decide +kernel) (by decide) (by decide) ?_
    refine x_cP (t := 6) (mj := 75) (n := 2) (rc := 8) (ml := 2) (nr := 0) (np := 68) (as := [x_r 1, iv_c 2147483688]) (rest := []) (lo1 := [x_r 1, iv_c 2147483688]) (by decide +kernel) (by decide) (by decide +kernel) (x_rb_of (by decide +kernel)) rfl rfl (x_wr (by decide) (x_wi (by decide) x_wn)) x_wn (by decide) rfl (c75_1 hJ  (by first | decide | omega) hT) (fun v17 l18 q19 => ?_)
    obtain ⟨b22, c20, c21⟩ := q19
    have b23 := jB (e := 1) 0 hJ rg_1_1_0_1 (by first | decide | omega) (by first | decide | omega)
    refine x_ifz (k := 0) (tg := 117) (np := 71) (by decide +kernel) (by decide) l18 (fun q24 => ?_) (fun q25 => ?_)
    · have q24 : v17 = 2147483648 := q24
      refine x_aload (np := 118) (x := 0) (by decide +kernel) rfl (x_nc_le (by decide)) ?_
      have q26 : h 62 0 = 1 := by have z := jB (e := 0) 0 hJ rg_62_0_0_1 (by decide) (by decide); omega
      refine x_getR (np := 121) (x := 192) (f := 0) (q := 1) (by decide +kernel) (by decide) (by decide +kernel) q26 ?_
      refine x_ldcB (i := 25) (idx := 79) (tx := "own") (by rw [tb_y48]; exact List.mem_of_getElem? (i := 25) rfl) (by decide) (by rw [tb_b48]; decide +kernel) ?_
      refine x_cI (t := 6) (mj := 78) (n := 2) (rc := 8) (ml := 2) (nr := 0) (np := 126) (as := [x_r 1, x_b (25 + 1)]) (rest := []) (lo1 := [x_r 1, x_b (25 + 1)]) (by decide +kernel) (by decide) (by decide +kernel) (x_rb_of (by decide +kernel)) rfl rfl (x_wr (by decide) (x_wB (by decide) x_wn)) x_wn (by decide) rfl (c78_1_S0 hJ  (by decide) hT) (fun v27 h30 l28 q29 => ?_)
      obtain ⟨j31, f32, b33, c34, c35, c36⟩ := q29
      have f37 := Fr.trans hF f32 (by decide)
      have b38 := jB (e := 2) 0 j31 rg_1_2_0_1 (by first | decide | omega) (by first | decide | omega)
      have b39 : iv_tl 25 = 3 := by decide
      refine x_ifz (k := 0) (tg := 140) (np := 129) (by decide +kernel) (by decide) l28 (fun q40 => ?_) (fun q41 => ?_)
      · have q40 : v27 = 2147483648 := q40
        have b42 := c35 (by first | decide | omega)
        refine x_aload (np := 141) (x := 0) (by decide +kernel) rfl (x_nc_le (by decide)) ?_
        have q43 : h30 62 0 = 1 := by have z := jB (e := 0) 0 j31 rg_62_0_0_1 (by decide) (by decide); omega
        refine x_getR (np := 144) (x := 192) (f := 0) (q := 1) (by decide +kernel) (by decide) (by decide +kernel) q43 ?_
        refine x_ldcB (i := 26) (idx := 81) (tx := "mine") (by rw [tb_y48]; exact List.mem_of_getElem? (i := 26) rfl) (by decide) (by rw [tb_b48]; decide +kernel) ?_
        have m47 := Tp.fr hT f32 (by decide) (by decide)
        refine x_cI (t := 6) (mj := 78) (n := 2) (rc := 8) (ml := 2) (nr := 0) (np := 149) (as := [x_r 1, x_b (26 + 1)]) (rest := []) (lo1 := [x_r 1, x_b (26 + 1)]) (by decide +kernel) (by decide) (by decide +kernel) (x_rb_of (by decide +kernel)) rfl rfl (x_wr (by decide) (x_wB (by decide) x_wn)) x_wn (by decide) rfl (c78_1_S0 j31  (by decide) m47) (fun v44 h48 l45 q46 => ?_)
        obtain ⟨j49, f50, b51, c52, c53, c54⟩ := q46
        have f55 := Fr.trans f37 f50 (by decide)
        have b56 := jB (e := 2) 0 j49 rg_1_2_0_1 (by first | decide | omega) (by first | decide | omega)
        have b57 : iv_tl 26 = 4 := by decide
        refine x_ifz (k := 0) (tg := 163) (np := 152) (by decide +kernel) (by decide) l45 (fun q58 => ?_) (fun q59 => ?_)
        · have q58 : v44 = 2147483648 := q58
          have b60 := c53 (by first | decide | omega)
          refine x_aload (np := 164) (x := 0) (by decide +kernel) rfl (x_nc_le (by decide)) ?_
          have q61 : h48 62 1 = h30 62 1 := f50 62 1 (by decide +kernel)
          have q62 : h30 62 1 = h 62 1 := f32 62 1 (by decide +kernel)
          have q63 : h48 (r1 + 11) 2 = h30 (r1 + 11) 2 := jK 0 f50 (rg_T11_2_0_1 t3) (by first | decide | omega) (by first | decide | omega) (by decide)
          have q64 : h30 (r1 + 11) 2 = h (r1 + 11) 2 := jK 0 f32 (rg_T11_2_0_1 t3) (by first | decide | omega) (by first | decide | omega) (by decide)
          have e65 : cl9 h48 = (h (r1 + 11) 2) := (congrArg (fun z => h48 z 2) ((q61.trans q62).trans q2)).trans (q63.trans q64)
          have m69 := Tp.fr m47 f50 (by decide) (by decide)
          refine x_cI (t := 6) (mj := 49) (n := 1) (rc := 4) (ml := 2) (nr := 0) (np := 167) (as := [x_r 62]) (rest := []) (lo1 := [x_r 62, 147573952589676412928]) (by decide +kernel) (by decide) (by decide +kernel) (x_rb_of (by decide +kernel)) rfl rfl (x_wr (by decide) x_wn) x_wn (by decide) rfl (c49_62 j49  (by first | decide | omega) m69) (fun v66 h70 l67 q68 => ?_)
          obtain ⟨j71, f72, b73, c74, c75, c76⟩ := q68
          have f77 := Fr.trans f55 f72 (by decide)
          have b78 := jB (e := 2) 0 j71 rg_1_2_0_1 (by first | decide | omega) (by first | decide | omega)
          have q79 : h48 62 1 = h30 62 1 := f50 62 1 (by decide +kernel)
          have q80 : h30 62 1 = h 62 1 := f32 62 1 (by decide +kernel)
          have q81 : h48 (r1 + 11) 2 = h30 (r1 + 11) 2 := jK 0 f50 (rg_T11_2_0_1 t3) (by first | decide | omega) (by first | decide | omega) (by decide)
          have q82 : h30 (r1 + 11) 2 = h (r1 + 11) 2 := jK 0 f32 (rg_T11_2_0_1 t3) (by first | decide | omega) (by first | decide | omega) (by decide)
          have q83 : h70 62 1 = h48 62 1 := f72 62 1 (by decide +kernel)
          have q84 : h48 62 1 = h30 62 1 := f50 62 1 (by decide +kernel)
          have q85 : h30 62 1 = h 62 1 := f32 62 1 (by decide +kernel)
          have b86 := jB (e := 2) 0 j71 (rg_T11_2_0_1 t3) (by first | decide | omega) (by first | decide | omega)
          have e87 : cl9 h70 = (h70 (r1 + 11) 2) := (congrArg (fun z => h70 z 2) (((q83.trans q84).trans q85).trans q2)).trans rfl
          refine x_ifz (k := 1) (tg := 172) (np := 170) (by decide +kernel) (by decide) l67 (fun q88 => ?_) (fun q89 => ?_)
          · have q88 : v66 ≠ 2147483648 := q88
            have b90 := c74 (by first | decide | omega)
            have b91 := c75 (by first | decide | omega)
            refine x_aload (np := 173) (x := 0) (by decide +kernel) rfl (x_nc_le (by decide)) ?_
            have q92 : h70 62 0 = 1 := by have z := jB (e := 0) 0 j71 rg_62_0_0_1 (by decide) (by decide); omega
            refine x_getR (np := 176) (x := 192) (f := 0) (q := 1) (by decide +kernel) (by decide) (by decide +kernel) q92 ?_
            refine x_const (np := 178) (x := 9223372296700297276) (a := 2147483708) (by decide +kernel) (by decide) (by decide) ?_
            have m96 := Tp.fr m69 f72 (by decide) (by decide)
            refine x_cI (t := 6) (mj := 76) (n := 2) (rc := 8) (ml := 2) (nr := 0) (np := 181) (as := [x_r 1, iv_c 2147483708]) (rest := []) (lo1 := [x_r 1, iv_c 2147483708]) (by decide +kernel) (by decide) (by decide +kernel) (x_rb_of (by decide +kernel)) rfl rfl (x_wr (by decide) (x_wi (by decide) x_wn)) x_wn (by decide) rfl (c76_1 j71  (by first | decide | omega) m96) (fun v93 h97 l94 q95 => ?_)
            obtain ⟨j98, f99, b100, c101, c102, c103⟩ := q95
            have f104 := Fr.trans f77 f99 (by decide)
            have b105 := jB (e := 2) 0 j98 rg_1_2_0_1 (by first | decide | omega) (by first | decide | omega)
            refine x_ifz (k := 0) (tg := 210) (np := 184) (by decide +kernel) (by decide) l94 (fun q106 => ?_) (fun q107 => ?_)
            · have q106 : v93 = 2147483648 := q106
              have b108 := c102 (by first | decide | omega)
              refine x_aload (np := 211) (x := 0) (by decide +kernel) rfl (x_nc_le (by decide)) ?_
              have q109 : h97 62 0 = 1 := by have z := jB (e := 0) 0 j98 rg_62_0_0_1 (by decide) (by decide); omega
              refine x_getR (np := 214) (x := 192) (f := 0) (q := 1) (by decide +kernel) (by decide) (by decide +kernel) q109 ?_
              refine x_const (np := 216) (x := 9223372305290231870) (a := 2147483710) (by decide +kernel) (by decide) (by decide) ?_
              have m113 := Tp.fr m96 f99 (by decide) (by decide)
              refine x_cI (t := 6) (mj := 76) (n := 2) (rc := 8) (ml := 2) (nr := 0) (np := 219) (as := [x_r 1, iv_c 2147483710]) (rest := []) (lo1 := [x_r 1, iv_c 2147483710]) (by decide +kernel) (by decide) (by decide +kernel) (x_rb_of (by decide +kernel)) rfl rfl (x_wr (by decide) (x_wi (by decide) x_wn)) x_wn (by decide) rfl (c76_1 j98  (by first | decide | omega) m113) (fun v110 h114 l111 q112 => ?_)
              obtain ⟨j115, f116, b117, c118, c119, c120⟩ := q112
              have f121 := Fr.trans f104 f116 (by decide)
              have b122 := jB (e := 2) 0 j115 rg_1_2_0_1 (by first | decide | omega) (by first | decide | omega)
              refine x_ifz (k := 0) (tg := 246) (np := 222) (by decide +kernel) (by decide) l111 (fun q123 => ?_) (fun q124 => ?_)
              · have q123 : v110 = 2147483648 := q123
                have b125 := c119 (by first | decide | omega)
                refine x_const (np := 247) (x := 9223372039002259456) (a := 2147483648) (by decide +kernel) (by decide) (by decide) ?_
                have q126 : h114 62 1 = h97 62 1 := f116 62 1 (by decide +kernel)
                have q127 : h97 62 1 = h70 62 1 := f99 62 1 (by decide +kernel)
                have q128 : h70 62 1 = h48 62 1 := f72 62 1 (by decide +kernel)
                have q129 : h48 62 1 = h30 62 1 := f50 62 1 (by decide +kernel)
                have q130 : h30 62 1 = h 62 1 := f32 62 1 (by decide +kernel)
                have q131 : h114 (r1 + 11) 2 = h97 (r1 + 11) 2 := jK 0 f116 (rg_T11_2_0_1 t3) (by first | decide | omega) (by first | decide | omega) (by decide)
                have q132 : h97 (r1 + 11) 2 = h70 (r1 + 11) 2 := jK 0 f99 (rg_T11_2_0_1 t3) (by first | decide | omega) (by first | decide | omega) (by decide)
                have e133 : cl9 h114 = (h70 (r1 + 11) 2) := (congrArg (fun z => h114 z 2) (((((q126.trans q127).trans q128).trans q129).trans q130).trans q2)).trans (q131.trans q132)
                obtain ⟨w134, e135⟩ := Tk.no c36 (by first | decide | omega)
                obtain ⟨w136, e137⟩ := Tk.no c54 (by first | decide | omega)
                have w138 : An tB tN (h 1 2) := gA_an (Is.no c12 (by first | decide | omega)) rfl (Is.no c21 (by first | decide | omega)) rfl w134 rfl w136 (show h30 1 2 = h 1 2 by first | decide | omega)
                obtain ⟨w139, e140⟩ := Tk.no c103 (by first | decide | omega)
                obtain ⟨w141, e142⟩ := Tk.no c120 (by first | decide | omega)
                refine x_retI (np := 248) (x := 0) (by decide +kernel) (by decide) (Or.inr ⟨by decide +kernel, by first | decide | omega, by first | decide | omega⟩) ⟨_, rfl, (by decide), ?_⟩
                exact ⟨j115, f121, (by first | decide | omega), (fun z => by first | decide | omega), (fun z => by first | decide | omega), (gA_c1 w138 (c76 6) (show h48 1 2 = h 1 2 by first | decide | omega) (by first | decide | omega) w139 rfl w141 (show h97 1 2 = h70 1 2 by first | decide | omega) (by first | decide | omega))⟩
              have q124 : ¬ (v110 = 2147483648) := q124
              have b143 := c118 (by first | decide | omega)
              refine x_aload (np := 223) (x := 0) (by decide +kernel) rfl (x_nc_le (by decide)) ?_
              have q144 : h114 62 1 = h97 62 1 := f116 62 1 (by decide +kernel)
              have q145 : h97 62 1 = h70 62 1 := f99 62 1 (by decide +kernel)
              have q146 : h70 62 1 = h48 62 1 := f72 62 1 (by decide +kernel)
              have q147 : h48 62 1 = h30 62 1 := f50 62 1 (by decide +kernel)
              have q148 : h30 62 1 = h 62 1 := f32 62 1 (by decide +kernel)
              have q149 : h114 (r1 + 11) 2 = h97 (r1 + 11) 2 := jK 0 f116 (rg_T11_2_0_1 t3) (by first | decide | omega) (by first | decide | omega) (by decide)
              have q150 : h97 (r1 + 11) 2 = h70 (r1 + 11) 2 := jK 0 f99 (rg_T11_2_0_1 t3) (by first | decide | omega) (by first | decide | omega) (by decide)
              have e151 : cl9 h114 = (h70 (r1 + 11) 2) := (congrArg (fun z => h114 z 2) (((((q144.trans q145).trans q146).trans q147).trans q148).trans q2)).trans (q149.trans q150)
              have m155 := Tp.fr m113 f116 (by decide) (by decide)
              refine x_cI (t := 6) (mj := 49) (n := 1) (rc := 4) (ml := 2) (nr := 0) (np := 226) (as := [x_r 62]) (rest := []) (lo1 := [x_r 62, 147573952589676412928]) (by decide +kernel) (by decide) (by decide +kernel) (x_rb_of (by decide +kernel)) rfl rfl (x_wr (by decide) x_wn) x_wn (by decide) rfl (c49_62 j115  (by first | decide | omega) m155) (fun v152 h156 l153 q154 => ?_)
              obtain ⟨j157, f158, b159, c160, c161, c162⟩ := q154
              have f163 := Fr.trans f121 f158 (by decide)
              have b164 := jB (e := 2) 0 j157 rg_1_2_0_1 (by first | decide | omega) (by first | decide | omega)
              have q165 : h114 62 1 = h97 62 1 := f116 62 1 (by decide +kernel)
              have q166 : h97 62 1 = h70 62 1 := f99 62 1 (by decide +kernel)
              have q167 : h70 62 1 = h48 62 1 := f72 62 1 (by decide +kernel)
              have q168 : h48 62 1 = h30 62 1 := f50 62 1 (by decide +kernel)
              have q169 : h30 62 1 = h 62 1 := f32 62 1 (by decide +kernel)
              have q170 : h114 (r1 + 11) 2 = h97 (r1 + 11) 2 := jK 0 f116 (rg_T11_2_0_1 t3) (by first | decide | omega) (by first | decide | omega) (by decide)
              have q171 : h97 (r1 + 11) 2 = h70 (r1 + 11) 2 := jK 0 f99 (rg_T11_2_0_1 t3) (by first | decide | omega) (by first | decide | omega) (by decide)
              have q172 : h156 62 1 = h114 62 1 := f158 62 1 (by decide +kernel)
              have q173 : h114 62 1 = h97 62 1 := f116 62 1 (by decide +kernel)
              have q174 : h97 62 1 = h70 62 1 := f99 62 1 (by decide +kernel)
              have q175 : h70 62 1 = h48 62 1 := f72 62 1 (by decide +kernel)
              have q176 : h48 62 1 = h30 62 1 := f50 62 1 (by decide +kernel)
              have q177 : h30 62 1 = h 62 1 := f32 62 1 (by decide +kernel)
              have b178 := jB (e := 2) 0 j157 (rg_T11_2_0_1 t3) (by first | decide | omega) (by first | decide | omega)
              have e179 : cl9 h156 = (h156 (r1 + 11) 2) := (congrArg (fun z => h156 z 2) ((((((q172.trans q173).trans q174).trans q175).trans q176).trans q177).trans q2)).trans rfl
              refine x_ifz (k := 0) (tg := 246) (np := 229) (by decide +kernel) (by decide) l153 (fun q180 => ?_) (fun q181 => ?_)
              · have q180 : v152 = 2147483648 := q180
                refine x_const (np := 247) (x := 9223372039002259456) (a := 2147483648) (by decide +kernel) (by decide) (by decide) ?_
                have q182 : h156 62 1 = h114 62 1 := f158 62 1 (by decide +kernel)
                have q183 : h114 62 1 = h97 62 1 := f116 62 1 (by decide +kernel)
                have q184 : h97 62 1 = h70 62 1 := f99 62 1 (by decide +kernel)
                have q185 : h70 62 1 = h48 62 1 := f72 62 1 (by decide +kernel)
                have q186 : h48 62 1 = h30 62 1 := f50 62 1 (by decide +kernel)
                have q187 : h30 62 1 = h 62 1 := f32 62 1 (by decide +kernel)
                obtain ⟨w188, e189⟩ := Tk.no c36 (by first | decide | omega)
                obtain ⟨w190, e191⟩ := Tk.no c54 (by first | decide | omega)
                have w192 : An tB tN (h 1 2) := gA_an (Is.no c12 (by first | decide | omega)) rfl (Is.no c21 (by first | decide | omega)) rfl w188 rfl w190 (show h30 1 2 = h 1 2 by first | decide | omega)
                obtain ⟨w193, e194⟩ := Tk.no c103 (by first | decide | omega)
                obtain ⟨w195, e196⟩ := Tk.yes c120 (by first | decide | omega)
                refine x_retI (np := 248) (x := 0) (by decide +kernel) (by decide) (Or.inr ⟨by decide +kernel, by first | decide | omega, by first | decide | omega⟩) ⟨_, rfl, (by decide), ?_⟩
                exact ⟨j157, f163, (by first | decide | omega), (fun z => by first | decide | omega), (fun z => by first | decide | omega), (gA_c2 w192 (c76 6) (show h48 1 2 = h 1 2 by first | decide | omega) (by first | decide | omega) (Or.inr w195) (show h97 1 2 = h70 1 2 by first | decide | omega) e196 (c162 6) rfl (by first | decide | omega) (fun z => absurd z (by first | decide | omega)))⟩
              have q181 : ¬ (v152 = 2147483648) := q181
              have b197 := c160 (by first | decide | omega)
              have b198 := c161 (by first | decide | omega)
              refine x_aload (np := 230) (x := 0) (by decide +kernel) rfl (x_nc_le (by decide)) ?_
              have q199 : h156 62 1 = h114 62 1 := f158 62 1 (by decide +kernel)
              have q200 : h114 62 1 = h97 62 1 := f116 62 1 (by decide +kernel)
              have q201 : h97 62 1 = h70 62 1 := f99 62 1 (by decide +kernel)
              have q202 : h70 62 1 = h48 62 1 := f72 62 1 (by decide +kernel)
              have q203 : h48 62 1 = h30 62 1 := f50 62 1 (by decide +kernel)
              have q204 : h30 62 1 = h 62 1 := f32 62 1 (by decide +kernel)
              refine x_getR (np := 233) (x := 193) (f := 1) (q := (r1 + 11)) (by decide +kernel) (by decide) (by decide +kernel) ((((((q199.trans q200).trans q201).trans q202).trans q203).trans q204).trans q2) ?_
              refine x_const (np := 236) (x := 9223380637526788050) (a := 2147485650) (by decide +kernel) (by decide) (by decide) ?_
              refine x_nI (t := 6) (mj := 36) (n := 2) (rc := 3) (ml := 2) (nr := 0) (np := 239) (as := [x_r (r1 + 11), iv_c 2147485650]) (rest := []) (lo1 := [x_r (r1 + 11), iv_c 2147485650]) (by decide +kernel) (by decide) (by decide +kernel) (x_rb_of (tr_11_3 t3)) rfl rfl (x_wr (tn_11 t3) (x_wi (by decide) x_wn)) x_wn (by decide) rfl ?_
              refine x_aload (np := 1) (x := 0) (by decide +kernel) rfl (x_nc_le (tn_11 t3)) ?_
              refine x_getC (np := 4) (x := 130) (f := 2) (q := (h156 (r1 + 11) 2)) (by decide +kernel) (by decide) (tg_11_130_2_0 t3) rfl (fun l205 => ?_)
              refine x_const (np := 7) (x := 9223373756989178256) (a := 2147484048) (by decide +kernel) (by decide) (by decide) ?_
              refine x_icmp (k := 2) (tg := 12) (np := 10) (by decide +kernel) (by decide) l205 (by decide) (fun q206 => ?_) (fun q207 => ?_)
              · have q206 : (h156 (r1 + 11) 2) < 2147484048 := q206
                refine x_aload (np := 13) (x := 0) (by decide +kernel) rfl (x_nc_le (tn_11 t3)) ?_
                have q208 : h156 (r1 + 11) 0 = (r1 + 12) := tf_11_0 j157 t3
                refine x_getR (np := 16) (x := 128) (f := 0) (q := (r1 + 12)) (by decide +kernel) (by decide) (tg_11_128_0_1 t3) q208 ?_
                refine x_aload (np := 17) (x := 0) (by decide +kernel) rfl (x_nc_le (tn_11 t3)) ?_
                refine x_getC (np := 20) (x := 130) (f := 2) (q := (h156 (r1 + 11) 2)) (by decide +kernel) (by decide) (tg_11_130_2_0 t3) rfl (fun l209 => ?_)
                refine x_iload (np := 21) (x := 1) (by decide +kernel) rfl (by decide) ?_
                obtain ⟨u210, q211⟩ : ∃ z, (h156 (r1 + 11) 2) = 2147483648 + z := ⟨(h156 (r1 + 11) 2) - 2147483648, by first | decide | omega⟩
                refine x_ast (np := 22) (x := 0) (kd := 1) (n := 400) (i := u210) (by decide +kernel) (Or.inl rfl) (ta_12_400 t3) (by first | decide | omega) (by first | decide | omega) (by decide) (by decide) (fun z => absurd z (by decide)) ?_
                have j213 := jU (e := u210) (v := 2147485650) u210 j157 (rg_T12_0_1_400 t3) (by first | decide | omega) (by first | decide | omega) (by first | decide | omega)
                have f215 := jF (e := u210) (v := 2147485650) u210 f163 (rg_T12_0_1_400 t3) (by first | decide | omega) (by first | decide | omega) (by decide)
                generalize e214 : x_up h156 (r1 + 12) u210 2147485650 = h212 at j213 f215 ⊢
                refine x_aload (np := 23) (x := 0) (by decide +kernel) rfl (x_nc_le (tn_11 t3)) ?_
                refine x_dup (np := 24) (x := 0) (by decide +kernel) (by have z := x_nc_le (k := (r1 + 11)) (tn_11 t3); unfold x_r; omega) ?_
                have q216 : h212 (r1 + 11) 2 = h156 (r1 + 11) 2 := by rw [← e214]; exact x_up_k tof_11_12
                refine x_getC (np := 27) (x := 130) (f := 2) (q := (h156 (r1 + 11) 2)) (by decide +kernel) (by decide) (tg_11_130_2_0 t3) q216 (fun l217 => ?_)
                refine x_const (np := 28) (x := 9223372043297226753) (a := 2147483649) (by decide +kernel) (by decide) (by decide) ?_
                refine x_iadd (np := 29) (x := 0) (v := (1 + (h156 (r1 + 11) 2))) (by decide +kernel) l205 (by decide) (by first | decide | omega) (by first | decide | omega) ?_
                refine x_putI (np := 32) (x := 130) (f := 2) (by decide +kernel) (tg_11_130_2_0 t3) (by first | decide | omega) (Or.inl (by decide)) ?_
                have j219 := jU (e := 2) (v := (1 + (h156 (r1 + 11) 2))) 0 j213 (rg_T11_2_0_1 t3) (by first | decide | omega) (by first | decide | omega) (by first | decide | omega)
                have f221 := jF (e := 2) (v := (1 + (h156 (r1 + 11) 2))) 0 f215 (rg_T11_2_0_1 t3) (by first | decide | omega) (by first | decide | omega) (by decide)
                generalize e220 : x_up h212 (r1 + 11) 2 (1 + (h156 (r1 + 11) 2)) = h218 at j219 f221 ⊢
                refine x_const (np := 33) (x := 9223372043297226753) (a := 2147483649) (by decide +kernel) (by decide) (by decide) ?_
                refine x_retI (np := 34) (x := 0) (by decide +kernel) (by decide) (Or.inr ⟨by decide +kernel, by first | decide | omega, by first | decide | omega⟩) ⟨_, rfl, (by decide), ?_⟩
                refine x_ifz (k := 0) (tg := 246) (np := 242) (by decide +kernel) (by decide) (by decide) (fun q222 => ?_) (fun q223 => ?_)
                · have q222 : 2147483649 = 2147483648 := q222
                  exfalso; omega
                have q223 : ¬ (2147483649 = 2147483648) := q223
                refine x_const (np := 243) (x := 9223372043297226753) (a := 2147483649) (by decide +kernel) (by decide) (by decide) ?_
                refine x_goto (np := 246) (x := 247) (by decide +kernel) ?_
                have q224 : h218 1 2 = h212 1 2 := by rw [← e220]; exact x_up_k (Ne.symm (tne_11_1 t3))
                have q225 : h212 1 2 = h156 1 2 := by rw [← e214]; exact x_up_k (Ne.symm (tne_12_1 t3))
                have q226 : h218 62 1 = h212 62 1 := by rw [← e220]; exact x_up_k (Ne.symm (tne_11_62 t3))
                have q227 : h212 62 1 = h156 62 1 := by rw [← e214]; exact x_up_k (Ne.symm (tne_12_62 t3))
                have q228 : h156 62 1 = h114 62 1 := f158 62 1 (by decide +kernel)
                have q229 : h114 62 1 = h97 62 1 := f116 62 1 (by decide +kernel)
                have q230 : h97 62 1 = h70 62 1 := f99 62 1 (by decide +kernel)
                have q231 : h70 62 1 = h48 62 1 := f72 62 1 (by decide +kernel)
                have q232 : h48 62 1 = h30 62 1 := f50 62 1 (by decide +kernel)
                have q233 : h30 62 1 = h 62 1 := f32 62 1 (by decide +kernel)
                have q234 : h218 (r1 + 11) 2 = (1 + (h156 (r1 + 11) 2)) := by rw [← e220]; exact x_up_at
                have e235 : cl9 h218 = (1 + (h156 (r1 + 11) 2)) := (congrArg (fun z => h218 z 2) ((((((((q226.trans q227).trans q228).trans q229).trans q230).trans q231).trans q232).trans q233).trans q2)).trans q234
                have q236 : h218 1 2 = h212 1 2 := by rw [← e220]; exact x_up_k (Ne.symm (tne_11_1 t3))
                have q237 : h212 1 2 = h156 1 2 := by rw [← e214]; exact x_up_k (Ne.symm (tne_12_1 t3))
                obtain ⟨w238, e239⟩ := Tk.no c36 (by first | decide | omega)
                obtain ⟨w240, e241⟩ := Tk.no c54 (by first | decide | omega)
                have w242 : An tB tN (h 1 2) := gA_an (Is.no c12 (by first | decide | omega)) rfl (Is.no c21 (by first | decide | omega)) rfl w238 rfl w240 (show h30 1 2 = h 1 2 by first | decide | omega)
                obtain ⟨w243, e244⟩ := Tk.no c103 (by first | decide | omega)
                obtain ⟨w245, e246⟩ := Tk.yes c120 (by first | decide | omega)
                have q247 : h218 1 2 = h212 1 2 := by rw [← e220]; exact x_up_k (Ne.symm (tne_11_1 t3))
                have q248 : h212 1 2 = h156 1 2 := by rw [← e214]; exact x_up_k (Ne.symm (tne_12_1 t3))
                refine x_retI (np := 248) (x := 0) (by decide +kernel) (by decide) (Or.inr ⟨by decide +kernel, by first | decide | omega, by first | decide | omega⟩) ⟨_, rfl, (by decide), ?_⟩
                exact ⟨j219, f221, (by first | decide | omega), (fun z => by first | decide | omega), (fun z => by first | decide | omega), (gA_c2 w242 (c76 6) (show h48 1 2 = h 1 2 by first | decide | omega) (by first | decide | omega) (Or.inr w245) (show h97 1 2 = h70 1 2 by first | decide | omega) e246 (c162 6) rfl (by first | decide | omega) (fun z => (show h156 1 2 = h218 1 2 by first | decide | omega)))⟩
              have q207 : ¬ ((h156 (r1 + 11) 2) < 2147484048) := q207
              refine x_const (np := 11) (x := 9223372039002259456) (a := 2147483648) (by decide +kernel) (by decide) (by decide) ?_
              refine x_retI (np := 12) (x := 0) (by decide +kernel) (by decide) (Or.inr ⟨by decide +kernel, by first | decide | omega, by first | decide | omega⟩) ⟨_, rfl, (by decide), ?_⟩
              refine x_ifz (k := 0) (tg := 246) (np := 242) (by decide +kernel) (by decide) (by decide) (fun q249 => ?_) (fun q250 => ?_)
              · have q249 : 2147483648 = 2147483648 := q249
                refine x_const (np := 247) (x := 9223372039002259456) (a := 2147483648) (by decide +kernel) (by decide) (by decide) ?_
                have q251 : h156 62 1 = h114 62 1 := f158 62 1 (by decide +kernel)
                have q252 : h114 62 1 = h97 62 1 := f116 62 1 (by decide +kernel)
                have q253 : h97 62 1 = h70 62 1 := f99 62 1 (by decide +kernel)
                have q254 : h70 62 1 = h48 62 1 := f72 62 1 (by decide +kernel)
                have q255 : h48 62 1 = h30 62 1 := f50 62 1 (by decide +kernel)
                have q256 : h30 62 1 = h 62 1 := f32 62 1 (by decide +kernel)
                obtain ⟨w257, e258⟩ := Tk.no c36 (by first | decide | omega)
                obtain ⟨w259, e260⟩ := Tk.no c54 (by first | decide | omega)
                have w261 : An tB tN (h 1 2) := gA_an (Is.no c12 (by first | decide | omega)) rfl (Is.no c21 (by first | decide | omega)) rfl w257 rfl w259 (show h30 1 2 = h 1 2 by first | decide | omega)
                obtain ⟨w262, e263⟩ := Tk.no c103 (by first | decide | omega)
                obtain ⟨w264, e265⟩ := Tk.yes c120 (by first | decide | omega)
                refine x_retI (np := 248) (x := 0) (by decide +kernel) (by decide) (Or.inr ⟨by decide +kernel, by first | decide | omega, by first | decide | omega⟩) ⟨_, rfl, (by decide), ?_⟩
                exact ⟨j157, f163, (by first | decide | omega), (fun z => by first | decide | omega), (fun z => by first | decide | omega), (gA_c2 w261 (c76 6) (show h48 1 2 = h 1 2 by first | decide | omega) (by first | decide | omega) (Or.inr w264) (show h97 1 2 = h70 1 2 by first | decide | omega) e265 (c162 6) rfl (by first | decide | omega) (fun z => rfl))⟩
              have q250 : ¬ (2147483648 = 2147483648) := q250
              exfalso; omega
            have q107 : ¬ (v93 = 2147483648) := q107
            have b266 := c101 (by first | decide | omega)
            refine x_aload (np := 185) (x := 0) (by decide +kernel) rfl (x_nc_le (by decide)) ?_
            have q267 : h97 62 1 = h70 62 1 := f99 62 1 (by decide +kernel)
            have q268 : h70 62 1 = h48 62 1 := f72 62 1 (by decide +kernel)
            have q269 : h48 62 1 = h30 62 1 := f50 62 1 (by decide +kernel)
            have q270 : h30 62 1 = h 62 1 := f32 62 1 (by decide +kernel)
            have q271 : h97 (r1 + 11) 2 = h70 (r1 + 11) 2 := jK 0 f99 (rg_T11_2_0_1 t3) (by first | decide | omega) (by first | decide | omega) (by decide)
            have e272 : cl9 h97 = (h70 (r1 + 11) 2) := (congrArg (fun z => h97 z 2) ((((q267.trans q268).trans q269).trans q270).trans q2)).trans q271
            have m276 := Tp.fr m96 f99 (by decide) (by decide)
            refine x_cI (t := 6) (mj := 49) (n := 1) (rc := 4) (ml := 2) (nr := 0) (np := 188) (as := [x_r 62]) (rest := []) (lo1 := [x_r 62, 147573952589676412928]) (by decide +kernel) (by decide) (by decide +kernel) (x_rb_of (by decide +kernel)) rfl rfl (x_wr (by decide) x_wn) x_wn (by decide) rfl (c49_62 j98  (by first | decide | omega) m276) (fun v273 h277 l274 q275 => ?_)
            obtain ⟨j278, f279, b280, c281, c282, c283⟩ := q275
            have f284 := Fr.trans f104 f279 (by decide)
            have b285 := jB (e := 2) 0 j278 rg_1_2_0_1 (by first | decide | omega) (by first | decide | omega)
            have q286 : h97 62 1 = h70 62 1 := f99 62 1 (by decide +kernel)
            have q287 : h70 62 1 = h48 62 1 := f72 62 1 (by decide +kernel)
            have q288 : h48 62 1 = h30 62 1 := f50 62 1 (by decide +kernel)
            have q289 : h30 62 1 = h 62 1 := f32 62 1 (by decide +kernel)
            have q290 : h97 (r1 + 11) 2 = h70 (r1 + 11) 2 := jK 0 f99 (rg_T11_2_0_1 t3) (by first | decide | omega) (by first | decide | omega) (by decide)
            have q291 : h277 62 1 = h97 62 1 := f279 62 1 (by decide +kernel)
            have q292 : h97 62 1 = h70 62 1 := f99 62 1 (by decide +kernel)
            have q293 : h70 62 1 = h48 62 1 := f72 62 1 (by decide +kernel)
            have q294 : h48 62 1 = h30 62 1 := f50 62 1 (by decide +kernel)
            have q295 : h30 62 1 = h 62 1 := f32 62 1 (by decide +kernel)
            have b296 := jB (e := 2) 0 j278 (rg_T11_2_0_1 t3) (by first | decide | omega) (by first | decide | omega)
            have e297 : cl9 h277 = (h277 (r1 + 11) 2) := (congrArg (fun z => h277 z 2) (((((q291.trans q292).trans q293).trans q294).trans q295).trans q2)).trans rfl
            refine x_ifz (k := 0) (tg := 208) (np := 191) (by decide +kernel) (by decide) l274 (fun q298 => ?_) (fun q299 => ?_)
            · have q298 : v273 = 2147483648 := q298
              refine x_const (np := 209) (x := 9223372039002259456) (a := 2147483648) (by decide +kernel) (by decide) (by decide) ?_
              have q300 : h277 62 1 = h97 62 1 := f279 62 1 (by decide +kernel)
              have q301 : h97 62 1 = h70 62 1 := f99 62 1 (by decide +kernel)
              have q302 : h70 62 1 = h48 62 1 := f72 62 1 (by decide +kernel)
              have q303 : h48 62 1 = h30 62 1 := f50 62 1 (by decide +kernel)
              have q304 : h30 62 1 = h 62 1 := f32 62 1 (by decide +kernel)
              obtain ⟨w305, e306⟩ := Tk.no c36 (by first | decide | omega)
              obtain ⟨w307, e308⟩ := Tk.no c54 (by first | decide | omega)
              have w309 : An tB tN (h 1 2) := gA_an (Is.no c12 (by first | decide | omega)) rfl (Is.no c21 (by first | decide | omega)) rfl w305 rfl w307 (show h30 1 2 = h 1 2 by first | decide | omega)
              obtain ⟨w310, e311⟩ := Tk.yes c103 (by first | decide | omega)
              refine x_retI (np := 210) (x := 0) (by decide +kernel) (by decide) (Or.inr ⟨by decide +kernel, by first | decide | omega, by first | decide | omega⟩) ⟨_, rfl, (by decide), ?_⟩
              exact ⟨j278, f284, (by first | decide | omega), (fun z => by first | decide | omega), (fun z => by first | decide | omega), (gA_c2 w309 (c76 6) (show h48 1 2 = h 1 2 by first | decide | omega) (by first | decide | omega) (Or.inl w310) rfl e311 (c283 6) rfl (by first | decide | omega) (fun z => absurd z (by first | decide | omega)))⟩
            have q299 : ¬ (v273 = 2147483648) := q299
            have b312 := c281 (by first | decide | omega)
            have b313 := c282 (by first | decide | omega)
            refine x_aload (np := 192) (x := 0) (by decide +kernel) rfl (x_nc_le (by decide)) ?_
            have q314 : h277 62 1 = h97 62 1 := f279 62 1 (by decide +kernel)
            have q315 : h97 62 1 = h70 62 1 := f99 62 1 (by decide +kernel)
            have q316 : h70 62 1 = h48 62 1 := f72 62 1 (by decide +kernel)
            have q317 : h48 62 1 = h30 62 1 := f50 62 1 (by decide +kernel)
            have q318 : h30 62 1 = h 62 1 := f32 62 1 (by decide +kernel)
            refine x_getR (np := 195) (x := 193) (f := 1) (q := (r1 + 11)) (by decide +kernel) (by decide) (by decide +kernel) (((((q314.trans q315).trans q316).trans q317).trans q318).trans q2) ?_
            refine x_const (np := 198) (x := 9223380633231820753) (a := 2147485649) (by decide +kernel) (by decide) (by decide) ?_
            refine x_nI (t := 6) (mj := 36) (n := 2) (rc := 3) (ml := 2) (nr := 0) (np := 201) (as := [x_r (r1 + 11), iv_c 2147485649]) (rest := []) (lo1 := [x_r (r1 + 11), iv_c 2147485649]) (by decide +kernel) (by decide) (by decide +kernel) (x_rb_of (tr_11_3 t3)) rfl rfl (x_wr (tn_11 t3) (x_wi (by decide) x_wn)) x_wn (by decide) rfl ?_
            refine x_aload (np := 1) (x := 0) (by decide +kernel) rfl (x_nc_le (tn_11 t3)) ?_
            refine x_getC (np := 4) (x := 130) (f := 2) (q := (h277 (r1 + 11) 2)) (by decide +kernel) (by decide) (tg_11_130_2_0 t3) rfl (fun l319 => ?_)
            refine x_const (np := 7) (x := 9223373756989178256) (a := 2147484048) (by decide +kernel) (by decide) (by decide) ?_
            refine x_icmp (k := 2) (tg := 12) (np := 10) (by decide +kernel) (by decide) l319 (by decide) (fun q320 => ?_) (fun q321 => ?_)
            · have q320 : (h277 (r1 + 11) 2) < 2147484048 := q320
              refine x_aload (np := 13) (x := 0) (by decide +kernel) rfl (x_nc_le (tn_11 t3)) ?_
              have q322 : h277 (r1 + 11) 0 = (r1 + 12) := tf_11_0 j278 t3
              refine x_getR (np := 16) (x := 128) (f := 0) (q := (r1 + 12)) (by decide +kernel) (by decide) (tg_11_128_0_1 t3) q322 ?_
              refine x_aload (np := 17) (x := 0) (by decide +kernel) rfl (x_nc_le (tn_11 t3)) ?_
              refine x_getC (np := 20) (x := 130) (f := 2) (q := (h277 (r1 + 11) 2)) (by decide +kernel) (by decide) (tg_11_130_2_0 t3) rfl (fun l323 => ?_)
              refine x_iload (np := 21) (x := 1) (by decide +kernel) rfl (by decide) ?_
              obtain ⟨u324, q325⟩ : ∃ z, (h277 (r1 + 11) 2) = 2147483648 + z := ⟨(h277 (r1 + 11) 2) - 2147483648, by first | decide | omega⟩
              refine x_ast (np := 22) (x := 0) (kd := 1) (n := 400) (i := u324) (by decide +kernel) (Or.inl rfl) (ta_12_400 t3) (by first | decide | omega) (by first | decide | omega) (by decide) (by decide) (fun z => absurd z (by decide)) ?_
              have j327 := jU (e := u324) (v := 2147485649) u324 j278 (rg_T12_0_1_400 t3) (by first | decide | omega) (by first | decide | omega) (by first | decide | omega)
              have f329 := jF (e := u324) (v := 2147485649) u324 f284 (rg_T12_0_1_400 t3) (by first | decide | omega) (by first | decide | omega) (by decide)
              generalize e328 : x_up h277 (r1 + 12) u324 2147485649 = h326 at j327 f329 ⊢
              refine x_aload (np := 23) (x := 0) (by decide +kernel) rfl (x_nc_le (tn_11 t3)) ?_
              refine x_dup (np := 24) (x := 0) (by decide +kernel) (by have z := x_nc_le (k := (r1 + 11)) (tn_11 t3); unfold x_r; omega) ?_
              have q330 : h326 (r1 + 11) 2 = h277 (r1 + 11) 2 := by rw [← e328]; exact x_up_k tof_11_12
              refine x_getC (np := 27) (x := 130) (f := 2) (q := (h277 (r1 + 11) 2)) (by decide +kernel) (by decide) (tg_11_130_2_0 t3) q330 (fun l331 => ?_)
              refine x_const (np := 28) (x := 9223372043297226753) (a := 2147483649) (by decide +kernel) (by decide) (by decide) ?_
              refine x_iadd (np := 29) (x := 0) (v := (1 + (h277 (r1 + 11) 2))) (by decide +kernel) l319 (by decide) (by first | decide | omega) (by first | decide | omega) ?_
              refine x_putI (np := 32) (x := 130) (f := 2) (by decide +kernel) (tg_11_130_2_0 t3) (by first | decide | omega) (Or.inl (by decide)) ?_
              have j333 := jU (e := 2) (v := (1 + (h277 (r1 + 11) 2))) 0 j327 (rg_T11_2_0_1 t3) (by first | decide | omega) (by first | decide | omega) (by first | decide | omega)
              have f335 := jF (e := 2) (v := (1 + (h277 (r1 + 11) 2))) 0 f329 (rg_T11_2_0_1 t3) (by first | decide | omega) (by first | decide | omega) (by decide)
              generalize e334 : x_up h326 (r1 + 11) 2 (1 + (h277 (r1 + 11) 2)) = h332 at j333 f335 ⊢
              refine x_const (np := 33) (x := 9223372043297226753) (a := 2147483649) (by decide +kernel) (by decide) (by decide) ?_
              refine x_retI (np := 34) (x := 0) (by decide +kernel) (by decide) (Or.inr ⟨by decide +kernel, by first | decide | omega, by first | decide | omega⟩) ⟨_, rfl, (by decide), ?_⟩
              refine x_ifz (k := 0) (tg := 208) (np := 204) (by decide +kernel) (by decide) (by decide) (fun q336 => ?_) (fun q337 => ?_)
              · have q336 : 2147483649 = 2147483648 := q336
                exfalso; omega
              have q337 : ¬ (2147483649 = 2147483648) := q337
              refine x_const (np := 205) (x := 9223372043297226753) (a := 2147483649) (by decide +kernel) (by decide) (by decide) ?_
              refine x_goto (np := 208) (x := 209) (by decide +kernel) ?_
              have q338 : h332 1 2 = h326 1 2 := by rw [← e334]; exact x_up_k (Ne.symm (tne_11_1 t3))
              have q339 : h326 1 2 = h277 1 2 := by rw [← e328]; exact x_up_k (Ne.symm (tne_12_1 t3))
              have q340 : h332 62 1 = h326 62 1 := by rw [← e334]; exact x_up_k (Ne.symm (tne_11_62 t3))
              have q341 : h326 62 1 = h277 62 1 := by rw [← e328]; exact x_up_k (Ne.symm (tne_12_62 t3))
              have q342 : h277 62 1 = h97 62 1 := f279 62 1 (by decide +kernel)
              have q343 : h97 62 1 = h70 62 1 := f99 62 1 (by decide +kernel)
              have q344 : h70 62 1 = h48 62 1 := f72 62 1 (by decide +kernel)
              have q345 : h48 62 1 = h30 62 1 := f50 62 1 (by decide +kernel)
              have q346 : h30 62 1 = h 62 1 := f32 62 1 (by decide +kernel)
              have q347 : h332 (r1 + 11) 2 = (1 + (h277 (r1 + 11) 2)) := by rw [← e334]; exact x_up_at
              have e348 : cl9 h332 = (1 + (h277 (r1 + 11) 2)) := (congrArg (fun z => h332 z 2) (((((((q340.trans q341).trans q342).trans q343).trans q344).trans q345).trans q346).trans q2)).trans q347
              have q349 : h332 1 2 = h326 1 2 := by rw [← e334]; exact x_up_k (Ne.symm (tne_11_1 t3))
              have q350 : h326 1 2 = h277 1 2 := by rw [← e328]; exact x_up_k (Ne.symm (tne_12_1 t3))
              obtain ⟨w351, e352⟩ := Tk.no c36 (by first | decide | omega)
              obtain ⟨w353, e354⟩ := Tk.no c54 (by first | decide | omega)
              have w355 : An tB tN (h 1 2) := gA_an (Is.no c12 (by first | decide | omega)) rfl (Is.no c21 (by first | decide | omega)) rfl w351 rfl w353 (show h30 1 2 = h 1 2 by first | decide | omega)
              obtain ⟨w356, e357⟩ := Tk.yes c103 (by first | decide | omega)
              have q358 : h332 1 2 = h326 1 2 := by rw [← e334]; exact x_up_k (Ne.symm (tne_11_1 t3))
              have q359 : h326 1 2 = h277 1 2 := by rw [← e328]; exact x_up_k (Ne.symm (tne_12_1 t3))
              refine x_retI (np := 210) (x := 0) (by decide +kernel) (by decide) (Or.inr ⟨by decide +kernel, by first | decide | omega, by first | decide | omega⟩) ⟨_, rfl, (by decide), ?_⟩
              exact ⟨j333, f335, (by first | decide | omega), (fun z => by first | decide | omega), (fun z => by first | decide | omega), (gA_c2 w355 (c76 6) (show h48 1 2 = h 1 2 by first | decide | omega) (by first | decide | omega) (Or.inl w356) rfl e357 (c283 6) rfl (by first | decide | omega) (fun z => (show h277 1 2 = h332 1 2 by first | decide | omega)))⟩
            have q321 : ¬ ((h277 (r1 + 11) 2) < 2147484048) := q321
            refine x_const (np := 11) (x := 9223372039002259456) (a := 2147483648) (by decide +kernel) (by decide) (by decide) ?_
            refine x_retI (np := 12) (x := 0) (by decide +kernel) (by decide) (Or.inr ⟨by decide +kernel, by first | decide | omega, by first | decide | omega⟩) ⟨_, rfl, (by decide), ?_⟩
            refine x_ifz (k := 0) (tg := 208) (np := 204) (by decide +kernel) (by decide) (by decide) (fun q360 => ?_) (fun q361 => ?_)
            · have q360 : 2147483648 = 2147483648 := q360
              refine x_const (np := 209) (x := 9223372039002259456) (a := 2147483648) (by decide +kernel) (by decide) (by decide) ?_
              have q362 : h277 62 1 = h97 62 1 := f279 62 1 (by decide +kernel)
              have q363 : h97 62 1 = h70 62 1 := f99 62 1 (by decide +kernel)
              have q364 : h70 62 1 = h48 62 1 := f72 62 1 (by decide +kernel)
              have q365 : h48 62 1 = h30 62 1 := f50 62 1 (by decide +kernel)
              have q366 : h30 62 1 = h 62 1 := f32 62 1 (by decide +kernel)
              obtain ⟨w367, e368⟩ := Tk.no c36 (by first | decide | omega)
              obtain ⟨w369, e370⟩ := Tk.no c54 (by first | decide | omega)
              have w371 : An tB tN (h 1 2) := gA_an (Is.no c12 (by first | decide | omega)) rfl (Is.no c21 (by first | decide | omega)) rfl w367 rfl w369 (show h30 1 2 = h 1 2 by first | decide | omega)
              obtain ⟨w372, e373⟩ := Tk.yes c103 (by first | decide | omega)
              refine x_retI (np := 210) (x := 0) (by decide +kernel) (by decide) (Or.inr ⟨by decide +kernel, by first | decide | omega, by first | decide | omega⟩) ⟨_, rfl, (by decide), ?_⟩
              exact ⟨j278, f284, (by first | decide | omega), (fun z => by first | decide | omega), (fun z => by first | decide | omega), (gA_c2 w371 (c76 6) (show h48 1 2 = h 1 2 by first | decide | omega) (by first | decide | omega) (Or.inl w372) rfl e373 (c283 6) rfl (by first | decide | omega) (fun z => rfl))⟩
            have q361 : ¬ (2147483648 = 2147483648) := q361
            exfalso; omega
          have q89 : ¬ (v66 ≠ 2147483648) := q89
          refine x_const (np := 171) (x := 9223372039002259456) (a := 2147483648) (by decide +kernel) (by decide) (by decide) ?_
          have q374 : h70 62 1 = h48 62 1 := f72 62 1 (by decide +kernel)
          have q375 : h48 62 1 = h30 62 1 := f50 62 1 (by decide +kernel)
          have q376 : h30 62 1 = h 62 1 := f32 62 1 (by decide +kernel)
          obtain ⟨w377, e378⟩ := Tk.no c36 (by first | decide | omega)
          obtain ⟨w379, e380⟩ := Tk.no c54 (by first | decide | omega)
          have w381 : An tB tN (h 1 2) := gA_an (Is.no c12 (by first | decide | omega)) rfl (Is.no c21 (by first | decide | omega)) rfl w377 rfl w379 (show h30 1 2 = h 1 2 by first | decide | omega)
          refine x_retI (np := 172) (x := 0) (by decide +kernel) (by decide) (Or.inr ⟨by decide +kernel, by first | decide | omega, by first | decide | omega⟩) ⟨_, rfl, (by decide), ?_⟩
          exact ⟨j71, f77, (by first | decide | omega), (fun z => by first | decide | omega), (fun z => by first | decide | omega), (gA_c0 w381 (c76 6) (show h48 1 2 = h 1 2 by first | decide | omega) (by first | decide | omega) (by first | decide | omega))⟩
        have q59 : ¬ (v44 = 2147483648) := q59
        have b382 := c52 (by first | decide | omega)
        refine x_aload (np := 153) (x := 0) (by decide +kernel) rfl (x_nc_le (by decide)) ?_
        have q383 : h48 62 1 = h30 62 1 := f50 62 1 (by decide +kernel)
        have q384 : h30 62 1 = h 62 1 := f32 62 1 (by decide +kernel)
        refine x_getR (np := 156) (x := 193) (f := 1) (q := (r1 + 11)) (by decide +kernel) (by decide) (by decide +kernel) ((q383.trans q384).trans q2) ?_
        refine x_const (np := 159) (x := 9223376364034327535) (a := 2147484655) (by decide +kernel) (by decide) (by decide) ?_
        refine x_nI (t := 6) (mj := 36) (n := 2) (rc := 3) (ml := 2) (nr := 0) (np := 162) (as := [x_r (r1 + 11), iv_c 2147484655]) (rest := []) (lo1 := [x_r (r1 + 11), iv_c 2147484655]) (by decide +kernel) (by decide) (by decide +kernel) (x_rb_of (tr_11_3 t3)) rfl rfl (x_wr (tn_11 t3) (x_wi (by decide) x_wn)) x_wn (by decide) rfl ?_
        refine x_aload (np := 1) (x := 0) (by decide +kernel) rfl (x_nc_le (tn_11 t3)) ?_
        have q385 : h48 (r1 + 11) 2 = h30 (r1 + 11) 2 := jK 0 f50 (rg_T11_2_0_1 t3) (by first | decide | omega) (by first | decide | omega) (by decide)
        have q386 : h30 (r1 + 11) 2 = h (r1 + 11) 2 := jK 0 f32 (rg_T11_2_0_1 t3) (by first | decide | omega) (by first | decide | omega) (by decide)
        refine x_getC (np := 4) (x := 130) (f := 2) (q := (h (r1 + 11) 2)) (by decide +kernel) (by decide) (tg_11_130_2_0 t3) (q385.trans q386) (fun l387 => ?_)
        refine x_const (np := 7) (x := 9223373756989178256) (a := 2147484048) (by decide +kernel) (by decide) (by decide) ?_
        refine x_icmp (k := 2) (tg := 12) (np := 10) (by decide +kernel) (by decide) l387 (by decide) (fun q388 => ?_) (fun q389 => ?_)
        · have q388 : (h (r1 + 11) 2) < 2147484048 := q388
          refine x_aload (np := 13) (x := 0) (by decide +kernel) rfl (x_nc_le (tn_11 t3)) ?_
          have q390 : h48 (r1 + 11) 0 = (r1 + 12) := tf_11_0 j49 t3
          refine x_getR (np := 16) (x := 128) (f := 0) (q := (r1 + 12)) (by decide +kernel) (by decide) (tg_11_128_0_1 t3) q390 ?_
          refine x_aload (np := 17) (x := 0) (by decide +kernel) rfl (x_nc_le (tn_11 t3)) ?_
          have q391 : h48 (r1 + 11) 2 = h30 (r1 + 11) 2 := jK 0 f50 (rg_T11_2_0_1 t3) (by first | decide | omega) (by first | decide | omega) (by decide)
          have q392 : h30 (r1 + 11) 2 = h (r1 + 11) 2 := jK 0 f32 (rg_T11_2_0_1 t3) (by first | decide | omega) (by first | decide | omega) (by decide)
          refine x_getC (np := 20) (x := 130) (f := 2) (q := (h (r1 + 11) 2)) (by decide +kernel) (by decide) (tg_11_130_2_0 t3) (q391.trans q392) (fun l393 => ?_)
          refine x_iload (np := 21) (x := 1) (by decide +kernel) rfl (by decide) ?_
          obtain ⟨u394, q395⟩ : ∃ z, (h (r1 + 11) 2) = 2147483648 + z := ⟨(h (r1 + 11) 2) - 2147483648, by first | decide | omega⟩
          refine x_ast (np := 22) (x := 0) (kd := 1) (n := 400) (i := u394) (by decide +kernel) (Or.inl rfl) (ta_12_400 t3) (by first | decide | omega) (by first | decide | omega) (by decide) (by decide) (fun z => absurd z (by decide)) ?_
          have j397 := jU (e := u394) (v := 2147484655) u394 j49 (rg_T12_0_1_400 t3) (by first | decide | omega) (by first | decide | omega) (by first | decide | omega)
          have f399 := jF (e := u394) (v := 2147484655) u394 f55 (rg_T12_0_1_400 t3) (by first | decide | omega) (by first | decide | omega) (by decide)
          generalize e398 : x_up h48 (r1 + 12) u394 2147484655 = h396 at j397 f399 ⊢
          refine x_aload (np := 23) (x := 0) (by decide +kernel) rfl (x_nc_le (tn_11 t3)) ?_
          refine x_dup (np := 24) (x := 0) (by decide +kernel) (by have z := x_nc_le (k := (r1 + 11)) (tn_11 t3); unfold x_r; omega) ?_
          have q400 : h396 (r1 + 11) 2 = h48 (r1 + 11) 2 := by rw [← e398]; exact x_up_k tof_11_12
          have q401 : h48 (r1 + 11) 2 = h30 (r1 + 11) 2 := jK 0 f50 (rg_T11_2_0_1 t3) (by first | decide | omega) (by first | decide | omega) (by decide)
          have q402 : h30 (r1 + 11) 2 = h (r1 + 11) 2 := jK 0 f32 (rg_T11_2_0_1 t3) (by first | decide | omega) (by first | decide | omega) (by decide)
          refine x_getC (np := 27) (x := 130) (f := 2) (q := (h (r1 + 11) 2)) (by decide +kernel) (by decide) (tg_11_130_2_0 t3) ((q400.trans q401).trans q402) (fun l403 => ?_)
          refine x_const (np := 28) (x := 9223372043297226753) (a := 2147483649) (by decide +kernel) (by decide) (by decide) ?_
          refine x_iadd (np := 29) (x := 0) (v := (1 + (h (r1 + 11) 2))) (by decide +kernel) l387 (by decide) (by first | decide | omega) (by first | decide | omega) ?_
          refine x_putI (np := 32) (x := 130) (f := 2) (by decide +kernel) (tg_11_130_2_0 t3) (by first | decide | omega) (Or.inl (by decide)) ?_
          have j405 := jU (e := 2) (v := (1 + (h (r1 + 11) 2))) 0 j397 (rg_T11_2_0_1 t3) (by first | decide | omega) (by first | decide | omega) (by first | decide | omega)
          have f407 := jF (e := 2) (v := (1 + (h (r1 + 11) 2))) 0 f399 (rg_T11_2_0_1 t3) (by first | decide | omega) (by first | decide | omega) (by decide)
          generalize e406 : x_up h396 (r1 + 11) 2 (1 + (h (r1 + 11) 2)) = h404 at j405 f407 ⊢
          refine x_const (np := 33) (x := 9223372043297226753) (a := 2147483649) (by decide +kernel) (by decide) (by decide) ?_
          refine x_retI (np := 34) (x := 0) (by decide +kernel) (by decide) (Or.inr ⟨by decide +kernel, by first | decide | omega, by first | decide | omega⟩) ⟨_, rfl, (by decide), ?_⟩
          have q408 : h404 1 2 = h396 1 2 := by rw [← e406]; exact x_up_k (Ne.symm (tne_11_1 t3))
          have q409 : h396 1 2 = h48 1 2 := by rw [← e398]; exact x_up_k (Ne.symm (tne_12_1 t3))
          have q410 : h404 62 1 = h396 62 1 := by rw [← e406]; exact x_up_k (Ne.symm (tne_11_62 t3))
          have q411 : h396 62 1 = h48 62 1 := by rw [← e398]; exact x_up_k (Ne.symm (tne_12_62 t3))
          have q412 : h48 62 1 = h30 62 1 := f50 62 1 (by decide +kernel)
          have q413 : h30 62 1 = h 62 1 := f32 62 1 (by decide +kernel)
          have q414 : h404 (r1 + 11) 2 = (1 + (h (r1 + 11) 2)) := by rw [← e406]; exact x_up_at
          have e415 : cl9 h404 = (1 + (h (r1 + 11) 2)) := (congrArg (fun z => h404 z 2) ((((q410.trans q411).trans q412).trans q413).trans q2)).trans q414
          have q416 : h404 1 2 = h396 1 2 := by rw [← e406]; exact x_up_k (Ne.symm (tne_11_1 t3))
          have q417 : h396 1 2 = h48 1 2 := by rw [← e398]; exact x_up_k (Ne.symm (tne_12_1 t3))
          obtain ⟨w418, e419⟩ := Tk.no c36 (by first | decide | omega)
          obtain ⟨w420, e421⟩ := Tk.yes c54 (by first | decide | omega)
          have q422 : h404 1 2 = h396 1 2 := by rw [← e406]; exact x_up_k (Ne.symm (tne_11_1 t3))
          have q423 : h396 1 2 = h48 1 2 := by rw [← e398]; exact x_up_k (Ne.symm (tne_12_1 t3))
          refine x_retI (np := 163) (x := 0) (by decide +kernel) (by decide) (Or.inr ⟨by decide +kernel, by first | decide | omega, by first | decide | omega⟩) ⟨_, rfl, (by decide), ?_⟩
          exact ⟨j405, f407, (by first | decide | omega), (fun z => by first | decide | omega), (fun z => by first | decide | omega), (gA_mine w420 (show h30 1 2 = h 1 2 by first | decide | omega) e421 (by first | decide | omega) (show h48 1 2 = h404 1 2 by first | decide | omega))⟩
        have q389 : ¬ ((h (r1 + 11) 2) < 2147484048) := q389
        exfalso; omega
      have q41 : ¬ (v27 = 2147483648) := q41
      have b424 := c34 (by first | decide | omega)
      refine x_aload (np := 130) (x := 0) (by decide +kernel) rfl (x_nc_le (by decide)) ?_
      have q425 : h30 62 1 = h 62 1 := f32 62 1 (by decide +kernel)
      refine x_getR (np := 133) (x := 193) (f := 1) (q := (r1 + 11)) (by decide +kernel) (by decide) (by decide +kernel) (q425.trans q2) ?_
      refine x_const (np := 136) (x := 9223376359739360238) (a := 2147484654) (by decide +kernel) (by decide) (by decide) ?_
      refine x_nI (t := 6) (mj := 36) (n := 2) (rc := 3) (ml := 2) (nr := 0) (np := 139) (as := [x_r (r1 + 11), iv_c 2147484654]) (rest := []) (lo1 := [x_r (r1 + 11), iv_c 2147484654]) (by decide +kernel) (by decide) (by decide +kernel) (x_rb_of (tr_11_3 t3)) rfl rfl (x_wr (tn_11 t3) (x_wi (by decide) x_wn)) x_wn (by decide) rfl ?_
      refine x_aload (np := 1) (x := 0) (by decide +kernel) rfl (x_nc_le (tn_11 t3)) ?_
      have q426 : h30 (r1 + 11) 2 = h (r1 + 11) 2 := jK 0 f32 (rg_T11_2_0_1 t3) (by first | decide | omega) (by first | decide | omega) (by decide)
      refine x_getC (np := 4) (x := 130) (f := 2) (q := (h (r1 + 11) 2)) (by decide +kernel) (by decide) (tg_11_130_2_0 t3) q426 (fun l427 => ?_)
      refine x_const (np := 7) (x := 9223373756989178256) (a := 2147484048) (by decide +kernel) (by decide) (by decide) ?_
      refine x_icmp (k := 2) (tg := 12) (np := 10) (by decide +kernel) (by decide) l427 (by decide) (fun q428 => ?_) (fun q429 => ?_)
      · have q428 : (h (r1 + 11) 2) < 2147484048 := q428
        refine x_aload (np := 13) (x := 0) (by decide +kernel) rfl (x_nc_le (tn_11 t3)) ?_
        have q430 : h30 (r1 + 11) 0 = (r1 + 12) := tf_11_0 j31 t3
        refine x_getR (np := 16) (x := 128) (f := 0) (q := (r1 + 12)) (by decide +kernel) (by decide) (tg_11_128_0_1 t3) q430 ?_
        refine x_aload (np := 17) (x := 0) (by decide +kernel) rfl (x_nc_le (tn_11 t3)) ?_
        have q431 : h30 (r1 + 11) 2 = h (r1 + 11) 2 := jK 0 f32 (rg_T11_2_0_1 t3) (by first | decide | omega) (by first | decide | omega) (by decide)
        refine x_getC (np := 20) (x := 130) (f := 2) (q := (h (r1 + 11) 2)) (by decide +kernel) (by decide) (tg_11_130_2_0 t3) q431 (fun l432 => ?_)
        refine x_iload (np := 21) (x := 1) (by decide +kernel) rfl (by decide) ?_
        obtain ⟨u433, q434⟩ : ∃ z, (h (r1 + 11) 2) = 2147483648 + z := ⟨(h (r1 + 11) 2) - 2147483648, by first | decide | omega⟩
        refine x_ast (np := 22) (x := 0) (kd := 1) (n := 400) (i := u433) (by decide +kernel) (Or.inl rfl) (ta_12_400 t3) (by first | decide | omega) (by first | decide | omega) (by decide) (by decide) (fun z => absurd z (by decide)) ?_
        have j436 := jU (e := u433) (v := 2147484654) u433 j31 (rg_T12_0_1_400 t3) (by first | decide | omega) (by first | decide | omega) (by first | decide | omega)
        have f438 := jF (e := u433) (v := 2147484654) u433 f37 (rg_T12_0_1_400 t3) (by first | decide | omega) (by first | decide | omega) (by decide)
        generalize e437 : x_up h30 (r1 + 12) u433 2147484654 = h435 at j436 f438 ⊢
        refine x_aload (np := 23) (x := 0) (by decide +kernel) rfl (x_nc_le (tn_11 t3)) ?_
        refine x_dup (np := 24) (x := 0) (by decide +kernel) (by have z := x_nc_le (k := (r1 + 11)) (tn_11 t3); unfold x_r; omega) ?_
        have q439 : h435 (r1 + 11) 2 = h30 (r1 + 11) 2 := by rw [← e437]; exact x_up_k tof_11_12
        have q440 : h30 (r1 + 11) 2 = h (r1 + 11) 2 := jK 0 f32 (rg_T11_2_0_1 t3) (by first | decide | omega) (by first | decide | omega) (by decide)
        refine x_getC (np := 27) (x := 130) (f := 2) (q := (h (r1 + 11) 2)) (by decide +kernel) (by decide) (tg_11_130_2_0 t3) (q439.trans q440) (fun l441 => ?_)
        refine x_const (np := 28) (x := 9223372043297226753) (a := 2147483649) (by decide +kernel) (by decide) (by decide) ?_
        refine x_iadd (np := 29) (x := 0) (v := (1 + (h (r1 + 11) 2))) (by decide +kernel) l427 (by decide) (by first | decide | omega) (by first | decide | omega) ?_
        refine x_putI (np := 32) (x := 130) (f := 2) (by decide +kernel) (tg_11_130_2_0 t3) (by first | decide | omega) (Or.inl (by decide)) ?_
        have j443 := jU (e := 2) (v := (1 + (h (r1 + 11) 2))) 0 j436 (rg_T11_2_0_1 t3) (by first | decide | omega) (by first | decide | omega) (by first | decide | omega)
        have f445 := jF (e := 2) (v := (1 + (h (r1 + 11) 2))) 0 f438 (rg_T11_2_0_1 t3) (by first | decide | omega) (by first | decide | omega) (by decide)
        generalize e444 : x_up h435 (r1 + 11) 2 (1 + (h (r1 + 11) 2)) = h442 at j443 f445 ⊢
        refine x_const (np := 33) (x := 9223372043297226753) (a := 2147483649) (by decide +kernel) (by decide) (by decide) ?_
        refine x_retI (np := 34) (x := 0) (by decide +kernel) (by decide) (Or.inr ⟨by decide +kernel, by first | decide | omega, by first | decide | omega⟩) ⟨_, rfl, (by decide), ?_⟩
        have q446 : h442 1 2 = h435 1 2 := by rw [← e444]; exact x_up_k (Ne.symm (tne_11_1 t3))
        have q447 : h435 1 2 = h30 1 2 := by rw [← e437]; exact x_up_k (Ne.symm (tne_12_1 t3))
        have q448 : h442 62 1 = h435 62 1 := by rw [← e444]; exact x_up_k (Ne.symm (tne_11_62 t3))
        have q449 : h435 62 1 = h30 62 1 := by rw [← e437]; exact x_up_k (Ne.symm (tne_12_62 t3))
        have q450 : h30 62 1 = h 62 1 := f32 62 1 (by decide +kernel)
        have q451 : h442 (r1 + 11) 2 = (1 + (h (r1 + 11) 2)) := by rw [← e444]; exact x_up_at
        have e452 : cl9 h442 = (1 + (h (r1 + 11) 2)) := (congrArg (fun z => h442 z 2) (((q448.trans q449).trans q450).trans q2)).trans q451
        have q453 : h442 1 2 = h435 1 2 := by rw [← e444]; exact x_up_k (Ne.symm (tne_11_1 t3))
        have q454 : h435 1 2 = h30 1 2 := by rw [← e437]; exact x_up_k (Ne.symm (tne_12_1 t3))
        obtain ⟨w455, e456⟩ := Tk.yes c36 (by first | decide | omega)
        have q457 : h442 1 2 = h435 1 2 := by rw [← e444]; exact x_up_k (Ne.symm (tne_11_1 t3))
        have q458 : h435 1 2 = h30 1 2 := by rw [← e437]; exact x_up_k (Ne.symm (tne_12_1 t3))
        refine x_retI (np := 140) (x := 0) (by decide +kernel) (by decide) (Or.inr ⟨by decide +kernel, by first | decide | omega, by first | decide | omega⟩) ⟨_, rfl, (by decide), ?_⟩
        exact ⟨j443, f445, (by first | decide | omega), (fun z => by first | decide | omega), (fun z => by first | decide | omega), (gA_own w455 rfl e456 (by first | decide | omega) (show h30 1 2 = h442 1 2 by first | decide | omega))⟩
      have q429 : ¬ ((h (r1 + 11) 2) < 2147484048) := q429
      exfalso; omega
    have q25 : ¬ (v17 = 2147483648) := q25
    have b459 := c20 (by first | decide | omega)
    refine x_iload (np := 72) (x := 1) (by decide +kernel) rfl (by decide) ?_
    refine x_const (np := 74) (x := 9223372064772063238) (a := 2147483654) (by decide +kernel) (by decide) (by decide) ?_
    refine x_icmp (k := 3) (tg := 115) (np := 77) (by decide +kernel) (by decide) (by decide) (by decide) (fun q460 => ?_) (fun q461 => ?_)
    · have q460 : 2147483654 ≤ 2147483654 := q460
      refine x_const (np := 116) (x := 9223372039002259456) (a := 2147483648) (by decide +kernel) (by decide) (by decide) ?_
      refine x_retI (np := 117) (x := 0) (by decide +kernel) (by decide) (Or.inr ⟨by decide +kernel, by first | decide | omega, by first | decide | omega⟩) ⟨_, rfl, (by decide), ?_⟩
      exact ⟨hJ, hF, (by first | decide | omega), (fun z => by first | decide | omega), (fun z => by first | decide | omega), (gA_par6 (Is.yes c21 (by first | decide | omega)) rfl (by decide) (by first | decide | omega))⟩
    have q461 : ¬ (2147483654 ≤ 2147483654) := q461
    exfalso; omega
  have q15 : ¬ (v8 = 2147483648) := q15
  have b462 := c11 (by first | decide | omega)
  refine x_iload (np := 13) (x := 1) (by decide +kernel) rfl (by decide) ?_
  refine x_const (np := 15) (x := 9223372064772063238) (a := 2147483654) (by decide +kernel) (by decide) (by decide) ?_
  refine x_icmp (k := 3) (tg := 57) (np := 18) (by decide +kernel) (by decide) (by decide) (by decide) (fun q463 => ?_) (fun q464 => ?_)
  · have q463 : 2147483654 ≤ 2147483654 := q463
    refine x_const (np := 58) (x := 9223372039002259456) (a := 2147483648) (by decide +kernel) (by decide) (by decide) ?_
    refine x_retI (np := 59) (x := 0) (by decide +kernel) (by decide) (Or.inr ⟨by decide +kernel, by first | decide | omega, by first | decide | omega⟩) ⟨_, rfl, (by decide), ?_⟩
    exact ⟨hJ, hF, (by first | decide | omega), (fun z => by first | decide | omega), (fun z => by first | decide | omega), (gA_not6 (Is.yes c12 (by first | decide | omega)) rfl (by decide) (by first | decide | omega))⟩
  have q464 : ¬ (2147483654 ≤ 2147483654) := q464
  exfalso; omega
