/-! ===== methods ===== -/
set_option maxHeartbeats 0 in
/-- LentNamesLaw.look(LLentNames;II[J)I -/
theorem c291_0_97 {sc : Nat × Nat} {d a1 a2 : Nat} {h : xh} (hJ : J h) (ba1 : 0 ≤ a1 ∧ a1 ≤ 4294967295) (ba2 : 0 ≤ a2 ∧ a2 ≤ 4294967295) : X sc 291 (d + 4) (xI fun r h' => J h' ∧ Fr 70368744177664 h h' ∧ (2147483648 ≤ r ∧ r ≤ 2147483650)) 0 0 0 [x_r 0, iv_c a1, iv_c a2, x_r 97, 147573952589676412928] [] h := by
  have la1 : a1 < 4294967296 := by first | decide | omega
  have la2 : a2 < 4294967296 := by first | decide | omega
  have hF := Fr.refl 70368744177664 h
  refine x_aload (np := 1) (x := 3) (by decide +kernel) rfl (x_nc_le (by decide)) ?_
  refine x_const (np := 2) (x := 9223372039002259456) (a := 2147483648) (by decide +kernel) (by decide) (by decide) ?_
  refine x_aload (np := 3) (x := 0) (by decide +kernel) rfl (x_nc_le (by decide)) ?_
  refine x_iload (np := 4) (x := 1) (by decide +kernel) rfl la1 ?_
  refine x_iload (np := 5) (x := 2) (by decide +kernel) rfl la2 ?_
  refine x_cT (t := 6) (mj := 122) (n := 3) (rc := 11) (ml := 3) (cc := 2) (ss := 12) (nr := 2) (np := 8) (as := [x_r 0, iv_c a1, iv_c a2]) (rest := [iv_c 2147483648, x_r 97]) (lo1 := [x_r 0, iv_c a1, iv_c a2]) (by decide +kernel) (by decide) (by decide +kernel) (x_rb_of (by decide +kernel)) rfl rfl (x_wr (by decide) (x_wi la1 (x_wi la2 x_wn))) (x_wi (by decide) (x_wr (by decide) x_wn)) (by decide) rfl (c122_0 hJ  (by first | decide | omega) (by first | decide | omega)) (fun v1 h4 l2 q3 => ?_) (fun E6 h7 q5 => ?_)
  · obtain ⟨j8, f9, b10⟩ := q3
    have f11 := Fr.trans hF f9 (by decide)
    refine x_i2l (np := 9) (x := 0) (by decide +kernel) l2 ?_
    refine x_last (np := 10) (x := 0) (n := 1) (i := 0) (by decide +kernel) (by decide) (by decide +kernel) (by decide +kernel) (by first | decide | omega) (by first | decide | omega) (by decide) l2 ?_
    have j13 := jU (e := 0) (v := v1) 0 j8 rg_97_0_1_1 (by first | decide | omega) (by first | decide | omega) (by first | decide | omega)
    have f15 := jF (e := 0) (v := v1) 0 f11 rg_97_0_1_1 (by first | decide | omega) (by first | decide | omega) (by decide)
    generalize e14 : x_up h4 97 0 v1 = h12 at j13 f15 ⊢
    refine x_goto (np := 13) (x := 21) (by decide +kernel) ?_
    refine x_const (np := 22) (x := 9223372039002259456) (a := 2147483648) (by decide +kernel) (by decide) (by decide) ?_
    refine x_retI (np := 23) (x := 0) (by decide +kernel) (by decide) (Or.inl (by decide +kernel)) ⟨_, rfl, (by decide), ?_⟩
    exact ⟨j13, f15, (by first | decide | omega)⟩
  obtain ⟨j16, f17, e18⟩ := q5
  have f19 := Fr.trans hF f17 (by decide)
  rcases e18 with rfl | rfl
  · refine ⟨13, fun _ _ => rfl, ?_⟩
    refine x_astE (np := 15) (x := 4) (lo' := [x_r 0, iv_c a1, iv_c a2, x_r 97, 55340232221128654850]) (by decide +kernel) (Nat.le_of_ble_eq_true rfl) rfl ?_
    refine x_const (np := 16) (x := 9223372043297226753) (a := 2147483649) (by decide +kernel) (by decide) (by decide) ?_
    refine x_retI (np := 17) (x := 0) (by decide +kernel) (by decide) (Or.inl (by decide +kernel)) ⟨_, rfl, (by decide), ?_⟩
    exact ⟨j16, f19, (by first | decide | omega)⟩
  · refine ⟨17, fun _ _ => rfl, ?_⟩
    refine x_astE (np := 19) (x := 4) (lo' := [x_r 0, iv_c a1, iv_c a2, x_r 97, 55340232221128654850]) (by decide +kernel) (Nat.le_of_ble_eq_true rfl) rfl ?_
    refine x_const (np := 20) (x := 9223372047592194050) (a := 2147483650) (by decide +kernel) (by decide) (by decide) ?_
    refine x_retI (np := 21) (x := 0) (by decide +kernel) (by decide) (Or.inl (by decide +kernel)) ⟨_, rfl, (by decide), ?_⟩
    exact ⟨j16, f19, (by first | decide | omega)⟩
set_option maxHeartbeats 0 in
/-- LentNames.owes(IZ)I -/
theorem c123_0 {sc : Nat × Nat} {d a1 a2 : Nat} {h : xh} (hJ : J h) (ba1 : 0 ≤ a1 ∧ a1 ≤ 4294967295) (ba2 : 2147483648 ≤ a2 ∧ a2 ≤ 2147483649) : X sc 123 (d + 1) (xT (fun r h' => J h' ∧ Fr 0 h h' ∧ (0 ≤ r ∧ r ≤ 4294967295)) (fun E h' => J h' ∧ Fr 0 h h' ∧ (E = 2))) 0 0 0 [x_r 0, iv_c a1, iv_c a2, 147573952589676412928, 147573952589676412928, 147573952589676412928] [] h := by
  have la1 : a1 < 4294967296 := by first | decide | omega
  have la2 : a2 < 4294967296 := by first | decide | omega
  have hF := Fr.refl 0 h
  refine x_aload (np := 1) (x := 0) (by decide +kernel) rfl (x_nc_le (by decide)) ?_
  refine x_iload (np := 2) (x := 1) (by decide +kernel) rfl la1 ?_
  refine x_nU (t := 6) (mj := 145) (n := 2) (rc := 11) (ml := 2) (cc := 1) (ss := 6) (nr := 0) (np := 5) (as := [x_r 0, iv_c a1]) (rest := []) (lo1 := [x_r 0, iv_c a1]) (by decide +kernel) (by decide) (by decide +kernel) (by decide +kernel) (x_rb_of (by decide +kernel)) rfl rfl (x_wr (by decide) (x_wi la1 x_wn)) x_wn (by decide) rfl ?_
  refine x_iload (np := 1) (x := 1) (by decide +kernel) rfl la1 ?_
  refine x_ifz (k := 2) (tg := 15) (np := 4) (by decide +kernel) (by decide) la1 (fun q1 => ?_) (fun q2 => ?_)
  · have q1 : a1 < 2147483648 := q1
    refine x_thr (np := 18) (x := 2) (by decide +kernel) (by decide +kernel) (Nat.le_trans x_wn (by decide)) (Or.inr ⟨_, rfl, ?_⟩)
    refine Or.inr ⟨_, rfl, ?_⟩
    exact ⟨hJ, hF, by decide⟩
  have q2 : ¬ (a1 < 2147483648) := q2
  refine x_iload (np := 5) (x := 1) (by decide +kernel) rfl la1 ?_
  refine x_aload (np := 6) (x := 0) (by decide +kernel) rfl (x_nc_le (by decide)) ?_
  have t3 : tw (h 0 8) := hJ.2.1
  refine x_getR (np := 9) (x := 648) (f := 8) (q := (h 0 8)) (by decide +kernel) (by decide) (by decide +kernel) rfl ?_
  have b4 := jB (e := 7) 0 hJ (rg_T0_7_0_1 t3) (by first | decide | omega) (by first | decide | omega)
  refine x_getC (np := 12) (x := 519) (f := 7) (q := (h (h 0 8) 7)) (by decide +kernel) (by decide) (tg_0_519_7_0 t3) rfl (fun l5 => ?_)
  refine x_icmp (k := 2) (tg := 26) (np := 15) (by decide +kernel) (by decide) la1 l5 (fun q6 => ?_) (fun q7 => ?_)
  · have q6 : a1 < (h (h 0 8) 7) := q6
    refine x_retV (np := 27) (x := 0) (by decide +kernel) (by decide +kernel) (Or.inl ⟨rfl, ?_⟩)
    refine x_const (np := 6) (x := 9223372039002259456) (a := 2147483648) (by decide +kernel) (by decide) (by decide) ?_
    refine x_istore (np := 7) (x := 3) (lo' := [x_r 0, iv_c a1, iv_c a2, iv_c 2147483648, 147573952589676412928, 147573952589676412928]) (by decide +kernel) (by decide) (Nat.le_of_ble_eq_true rfl) rfl ?_
    refine x_const (np := 8) (x := 9223372039002259456) (a := 2147483648) (by decide +kernel) (by decide) (by decide) ?_
    refine x_istore (np := 10) (x := 4) (lo' := [x_r 0, iv_c a1, iv_c a2, iv_c 2147483648, iv_c 2147483648, 147573952589676412928]) (by decide +kernel) (by decide) (Nat.le_of_ble_eq_true rfl) rfl ?_
    have p793 : ∀ (n : Nat) (v788 : Nat) (v790 : Nat) (w792 : Nat), 4294967296 - v790 < n → (0 ≤ v788 ∧ v788 ≤ 4294967295) → (2147483648 ≤ v790 ∧ v790 ≤ 2147483668) → X sc 123 (d + 1) (xT (fun r h' => J h' ∧ Fr 0 h h' ∧ (0 ≤ r ∧ r ≤ 4294967295)) (fun E h' => J h' ∧ Fr 0 h h' ∧ (E = 2))) 1 6 10 [x_r 0, iv_c a1, iv_c a2, iv_c v788, iv_c v790, w792] [] h := by
      intro n
      induction n with
      | zero => intro v788 v790 w792 q794; exact absurd q794 (Nat.not_lt_zero _)
      | succ n i795 =>
        intro v788 v790 w792 q794 b789 b791
        refine x_iload (np := 12) (x := 4) (by decide +kernel) rfl (by first | decide | omega) ?_
        refine x_aload (np := 13) (x := 0) (by decide +kernel) rfl (x_nc_le (by decide)) ?_
        refine x_getR (np := 16) (x := 648) (f := 8) (q := (h 0 8)) (by decide +kernel) (by decide) (by decide +kernel) rfl ?_
        have q796 : h (h 0 8) 0 = ((h 0 8) + 1) := tf_0_0 hJ t3
        refine x_getR (np := 19) (x := 512) (f := 0) (q := ((h 0 8) + 1)) (by decide +kernel) (by decide) (tg_0_512_0_1 t3) q796 ?_
        have b797 := jB (e := 2) 0 hJ (rg_T1_2_0_1 t3) (by first | decide | omega) (by first | decide | omega)
        refine x_getC (np := 22) (x := 386) (f := 2) (q := (h ((h 0 8) + 1) 2)) (by decide +kernel) (by decide) (tg_1_386_2_0 t3) rfl (fun l798 => ?_)
        refine x_icmp (k := 3) (tg := 82) (np := 25) (by decide +kernel) (by decide) (by first | decide | omega) l798 (fun q799 => ?_) (fun q800 => ?_)
        · have q799 : (h ((h 0 8) + 1) 2) ≤ v790 := q799
          refine x_iload (np := 83) (x := 3) (by decide +kernel) rfl (by first | decide | omega) ?_
          refine x_retI (np := 84) (x := 0) (by decide +kernel) (by first | decide | omega) (Or.inl (by decide +kernel)) (Or.inl ⟨_, rfl, (by first | decide | omega), ?_⟩)
          exact ⟨hJ, hF, (by first | decide | omega)⟩
        have q800 : ¬ ((h ((h 0 8) + 1) 2) ≤ v790) := q800
        refine x_iload (np := 26) (x := 2) (by decide +kernel) rfl la2 ?_
        refine x_ifz (k := 0) (tg := 42) (np := 29) (by decide +kernel) (by decide) la2 (fun q801 => ?_) (fun q802 => ?_)
        · have q801 : a2 = 2147483648 := q801
          refine x_aload (np := 43) (x := 0) (by decide +kernel) rfl (x_nc_le (by decide)) ?_
          refine x_getR (np := 46) (x := 648) (f := 8) (q := (h 0 8)) (by decide +kernel) (by decide) (by decide +kernel) rfl ?_
          have q803 : h (h 0 8) 0 = ((h 0 8) + 1) := tf_0_0 hJ t3
          refine x_getR (np := 49) (x := 512) (f := 0) (q := ((h 0 8) + 1)) (by decide +kernel) (by decide) (tg_0_512_0_1 t3) q803 ?_
          refine x_iload (np := 51) (x := 4) (by decide +kernel) rfl (by first | decide | omega) ?_
          refine x_const (np := 52) (x := 9223372043297226753) (a := 2147483649) (by decide +kernel) (by decide) (by decide) ?_
          refine x_nI (t := 6) (mj := 68) (n := 3) (rc := 7) (ml := 4) (nr := 0) (np := 55) (as := [x_r ((h 0 8) + 1), iv_c v790, iv_c 2147483649]) (rest := []) (lo1 := [x_r ((h 0 8) + 1), iv_c v790, iv_c 2147483649, 147573952589676412928]) (by decide +kernel) (by decide) (by decide +kernel) (x_rb_of (tr_1_7 t3)) rfl rfl (x_wr (tn_1 t3) (x_wi (by first | decide | omega) (x_wi (by decide) x_wn))) x_wn (by decide) rfl ?_
          refine x_iload (np := 1) (x := 1) (by decide +kernel) rfl (by first | decide | omega) ?_
          refine x_ifz (k := 2) (tg := 28) (np := 4) (by decide +kernel) (by decide) (by first | decide | omega) (fun q804 => ?_) (fun q805 => ?_)
          · have q804 : v790 < 2147483648 := q804
            exfalso; omega
          have q805 : ¬ (v790 < 2147483648) := q805
          refine x_iload (np := 5) (x := 1) (by decide +kernel) rfl (by first | decide | omega) ?_
          refine x_aload (np := 6) (x := 0) (by decide +kernel) rfl (x_nc_le (tn_1 t3)) ?_
          refine x_getC (np := 9) (x := 386) (f := 2) (q := (h ((h 0 8) + 1) 2)) (by decide +kernel) (by decide) (tg_1_386_2_0 t3) rfl (fun l806 => ?_)
          refine x_icmp (k := 3) (tg := 28) (np := 12) (by decide +kernel) (by decide) (by first | decide | omega) l798 (fun q807 => ?_) (fun q808 => ?_)
          · have q807 : (h ((h 0 8) + 1) 2) ≤ v790 := q807
            exfalso; omega
          have q808 : ¬ ((h ((h 0 8) + 1) 2) ≤ v790) := q808
          refine x_iload (np := 13) (x := 2) (by decide +kernel) rfl (by decide) ?_
          refine x_ifz (k := 2) (tg := 28) (np := 16) (by decide +kernel) (by decide) (by decide) (fun q809 => ?_) (fun q810 => ?_)
          · have q809 : 2147483649 < 2147483648 := q809
            exfalso; omega
          have q810 : ¬ (2147483649 < 2147483648) := q810
          refine x_iload (np := 17) (x := 2) (by decide +kernel) rfl (by decide) ?_
          refine x_aload (np := 18) (x := 0) (by decide +kernel) rfl (x_nc_le (tn_1 t3)) ?_
          have b811 := jB (e := 0) 0 hJ (rg_T1_0_0_1 t3) (by first | decide | omega) (by first | decide | omega)
          have q812 : (h ((h 0 8) + 1) 0) = 2147483655 := by first | decide | omega
          refine x_getC (np := 21) (x := 384) (f := 0) (q := 2147483655) (by decide +kernel) (by decide) (tg_1_384_0_0 t3) q812 (fun l813 => ?_)
          refine x_icmp (k := 3) (tg := 28) (np := 24) (by decide +kernel) (by decide) (by decide) (by decide) (fun q814 => ?_) (fun q815 => ?_)
          · have q814 : 2147483655 ≤ 2147483649 := q814
            exfalso; omega
          have q815 : ¬ (2147483655 ≤ 2147483649) := q815
          refine x_const (np := 25) (x := 9223372043297226753) (a := 2147483649) (by decide +kernel) (by decide) (by decide) ?_
          refine x_goto (np := 28) (x := 29) (by decide +kernel) ?_
          refine x_istore (np := 30) (x := 3) (lo' := [x_r ((h 0 8) + 1), iv_c v790, iv_c 2147483649, iv_c 2147483649]) (by decide +kernel) (by decide) (Nat.le_of_ble_eq_true rfl) rfl ?_
          refine x_iload (np := 31) (x := 3) (by decide +kernel) rfl (by decide) ?_
          refine x_ifz (k := 0) (tg := 50) (np := 34) (by decide +kernel) (by decide) (by decide) (fun q816 => ?_) (fun q817 => ?_)
          · have q816 : 2147483649 = 2147483648 := q816
            exfalso; omega
          have q817 : ¬ (2147483649 = 2147483648) := q817
          refine x_aload (np := 35) (x := 0) (by decide +kernel) rfl (x_nc_le (tn_1 t3)) ?_
          have q818 : h ((h 0 8) + 1) 1 = ((h 0 8) + 2) := tf_1_1 hJ t3
          refine x_getR (np := 38) (x := 385) (f := 1) (q := ((h 0 8) + 2)) (by decide +kernel) (by decide) (tg_1_385_1_1 t3) q818 ?_
          refine x_iload (np := 39) (x := 1) (by decide +kernel) rfl (by first | decide | omega) ?_
          refine x_aload (np := 40) (x := 0) (by decide +kernel) rfl (x_nc_le (tn_1 t3)) ?_
          refine x_getC (np := 43) (x := 384) (f := 0) (q := 2147483655) (by decide +kernel) (by decide) (tg_1_384_0_0 t3) q812 (fun l819 => ?_)
          obtain ⟨u820, q821⟩ : ∃ z, v790 = 2147483648 + z := ⟨v790 - 2147483648, by first | decide | omega⟩
          refine x_imul (np := 44) (x := 0) (i := u820) (j := 7) (v := (2147483648 + 7 * u820)) (by decide +kernel) (by first | decide | omega) (by first | decide | omega) (by first | decide | omega) (by first | decide | omega) (by first | decide | omega) (by decide) ?_
          refine x_iload (np := 45) (x := 2) (by decide +kernel) rfl (by decide) ?_
          refine x_iadd (np := 46) (x := 0) (v := (2147483649 + 7 * u820)) (by decide +kernel) (by first | decide | omega) (by decide) (by first | decide | omega) (by first | decide | omega) ?_
          refine x_aldC (np := 47) (x := 0) (n := 140) (i := (1 + 7 * u820)) (q := ((h ((h 0 8) + 2) (1 + 7 * u820)))) (by decide +kernel) (ta_2_140 t3) (by first | decide | omega) (by first | decide | omega) (by decide) rfl (fun l823 => ?_)
          refine x_goto (np := 50) (x := 51) (by decide +kernel) ?_
          refine x_retI (np := 52) (x := 0) (by decide +kernel) l823 (Or.inl (by decide +kernel)) ⟨_, rfl, l823, ?_⟩
          refine x_istore (np := 57) (x := 5) (lo' := [x_r 0, iv_c a1, iv_c a2, iv_c v788, iv_c v790, iv_c ((h ((h 0 8) + 2) (1 + 7 * u820)))]) (by decide +kernel) l823 (Nat.le_of_ble_eq_true rfl) rfl ?_
          refine x_iload (np := 59) (x := 5) (by decide +kernel) rfl l823 ?_
          refine x_iload (np := 60) (x := 1) (by decide +kernel) rfl la1 ?_
          refine x_icmp (k := 1) (tg := 76) (np := 63) (by decide +kernel) (by decide) l823 la1 (fun q824 => ?_) (fun q825 => ?_)
          · have q824 : ((h ((h 0 8) + 2) (1 + 7 * u820))) ≠ a1 := q824
            refine x_iinc (np := 79) (i := 4) (j := 2147483649) (v := (1 + v790)) (lo' := [x_r 0, iv_c a1, iv_c a2, iv_c v788, iv_c (1 + v790), iv_c ((h ((h 0 8) + 2) (1 + 7 * u820)))]) (by decide +kernel) (by decide) (by decide) rfl (by first | decide | omega) (by first | decide | omega) (by first | decide | omega) rfl ?_
            refine x_goto (np := 82) (x := 10) (by decide +kernel) ?_
            exact i795 v788 (1 + v790) (iv_c ((h ((h 0 8) + 2) (1 + 7 * u820)))) (by first | decide | omega) (by first | decide | omega) (by first | decide | omega)
          have q825 : ¬ (((h ((h 0 8) + 2) (1 + 7 * u820))) ≠ a1) := q825
          refine x_iload (np := 64) (x := 3) (by decide +kernel) rfl (by first | decide | omega) ?_
          refine x_aload (np := 65) (x := 0) (by decide +kernel) rfl (x_nc_le (by decide)) ?_
          have q826 : h 0 1 = 45 := by have z := jB (e := 1) 0 hJ rg_0_1_0_1 (by decide) (by decide); omega
          refine x_getR (np := 68) (x := 641) (f := 1) (q := 45) (by decide +kernel) (by decide) (by decide +kernel) q826 ?_
          have q827 : h 45 4 = 50 := by have z := jB (e := 4) 0 hJ rg_45_4_0_1 (by decide) (by decide); omega
          refine x_getR (np := 71) (x := 68) (f := 4) (q := 50) (by decide +kernel) (by decide) (by decide +kernel) q827 ?_
          refine x_iload (np := 73) (x := 4) (by decide +kernel) rfl (by first | decide | omega) ?_
          refine x_aldC (np := 74) (x := 0) (n := 20) (i := u820) (q := (h 50 u820)) (by decide +kernel) (by decide +kernel) (by first | decide | omega) (by first | decide | omega) (by decide) rfl (fun l828 => ?_)
          refine x_addA (by rw [tb_b123]; decide +kernel) (by first | decide | omega) l828 (fun v829 l830 => ?_)
          refine x_istore (np := 76) (x := 3) (lo' := [x_r 0, iv_c a1, iv_c a2, iv_c v829, iv_c v790, iv_c ((h ((h 0 8) + 2) (1 + 7 * u820)))]) (by decide +kernel) l830 (Nat.le_of_ble_eq_true rfl) rfl ?_
          refine x_iinc (np := 79) (i := 4) (j := 2147483649) (v := (1 + v790)) (lo' := [x_r 0, iv_c a1, iv_c a2, iv_c v829, iv_c (1 + v790), iv_c ((h ((h 0 8) + 2) (1 + 7 * u820)))]) (by decide +kernel) (by decide) (by decide) rfl (by first | decide | omega) (by first | decide | omega) (by first | decide | omega) rfl ?_
          refine x_goto (np := 82) (x := 10) (by decide +kernel) ?_
          exact i795 v829 (1 + v790) (iv_c ((h ((h 0 8) + 2) (1 + 7 * u820)))) (by first | decide | omega) (by first | decide | omega) (by first | decide | omega)
        have q802 : ¬ (a2 = 2147483648) := q802
        refine x_aload (np := 30) (x := 0) (by decide +kernel) rfl (x_nc_le (by decide)) ?_
        have q831 : h 0 1 = 45 := by have z := jB (e := 1) 0 hJ rg_0_1_0_1 (by decide) (by decide); omega
        refine x_getR (np := 33) (x := 641) (f := 1) (q := 45) (by decide +kernel) (by decide) (by decide +kernel) q831 ?_
        have q832 : h 45 2 = 48 := by have z := jB (e := 2) 0 hJ rg_45_2_0_1 (by decide) (by decide); omega
        refine x_getR (np := 36) (x := 66) (f := 2) (q := 48) (by decide +kernel) (by decide) (by decide +kernel) q832 ?_
        refine x_iload (np := 38) (x := 4) (by decide +kernel) rfl (by first | decide | omega) ?_
        obtain ⟨u833, q834⟩ : ∃ z, v790 = 2147483648 + z := ⟨v790 - 2147483648, by first | decide | omega⟩
        refine x_aldC (np := 39) (x := 0) (n := 20) (i := u833) (q := (h 48 u833)) (by decide +kernel) (by decide +kernel) (by first | decide | omega) (by first | decide | omega) (by decide) rfl (fun l835 => ?_)
        refine x_goto (np := 42) (x := 55) (by decide +kernel) ?_
        refine x_istore (np := 57) (x := 5) (lo' := [x_r 0, iv_c a1, iv_c a2, iv_c v788, iv_c v790, iv_c (h 48 u833)]) (by decide +kernel) l835 (Nat.le_of_ble_eq_true rfl) rfl ?_
        refine x_iload (np := 59) (x := 5) (by decide +kernel) rfl l835 ?_
        refine x_iload (np := 60) (x := 1) (by decide +kernel) rfl la1 ?_
        refine x_icmp (k := 1) (tg := 76) (np := 63) (by decide +kernel) (by decide) l835 la1 (fun q836 => ?_) (fun q837 => ?_)
        · have q836 : (h 48 u833) ≠ a1 := q836
          refine x_iinc (np := 79) (i := 4) (j := 2147483649) (v := (1 + v790)) (lo' := [x_r 0, iv_c a1, iv_c a2, iv_c v788, iv_c (1 + v790), iv_c (h 48 u833)]) (by decide +kernel) (by decide) (by decide) rfl (by first | decide | omega) (by first | decide | omega) (by first | decide | omega) rfl ?_
          refine x_goto (np := 82) (x := 10) (by decide +kernel) ?_
          exact i795 v788 (1 + v790) (iv_c (h 48 u833)) (by first | decide | omega) (by first | decide | omega) (by first | decide | omega)
        have q837 : ¬ ((h 48 u833) ≠ a1) := q837
        refine x_iload (np := 64) (x := 3) (by decide +kernel) rfl (by first | decide | omega) ?_
        refine x_aload (np := 65) (x := 0) (by decide +kernel) rfl (x_nc_le (by decide)) ?_
        have q838 : h 0 1 = 45 := by have z := jB (e := 1) 0 hJ rg_0_1_0_1 (by decide) (by decide); omega
        refine x_getR (np := 68) (x := 641) (f := 1) (q := 45) (by decide +kernel) (by decide) (by decide +kernel) q838 ?_
        have q839 : h 45 4 = 50 := by have z := jB (e := 4) 0 hJ rg_45_4_0_1 (by decide) (by decide); omega
        refine x_getR (np := 71) (x := 68) (f := 4) (q := 50) (by decide +kernel) (by decide) (by decide +kernel) q839 ?_
        refine x_iload (np := 73) (x := 4) (by decide +kernel) rfl (by first | decide | omega) ?_
        refine x_aldC (np := 74) (x := 0) (n := 20) (i := u833) (q := (h 50 u833)) (by decide +kernel) (by decide +kernel) (by first | decide | omega) (by first | decide | omega) (by decide) rfl (fun l840 => ?_)
        refine x_addA (by rw [tb_b123]; decide +kernel) (by first | decide | omega) l840 (fun v841 l842 => ?_)
        refine x_istore (np := 76) (x := 3) (lo' := [x_r 0, iv_c a1, iv_c a2, iv_c v841, iv_c v790, iv_c (h 48 u833)]) (by decide +kernel) l842 (Nat.le_of_ble_eq_true rfl) rfl ?_
        refine x_iinc (np := 79) (i := 4) (j := 2147483649) (v := (1 + v790)) (lo' := [x_r 0, iv_c a1, iv_c a2, iv_c v841, iv_c (1 + v790), iv_c (h 48 u833)]) (by decide +kernel) (by decide) (by decide) rfl (by first | decide | omega) (by first | decide | omega) (by first | decide | omega) rfl ?_
        refine x_goto (np := 82) (x := 10) (by decide +kernel) ?_
        exact i795 v841 (1 + v790) (iv_c (h 48 u833)) (by first | decide | omega) (by first | decide | omega) (by first | decide | omega)
    exact p793 _ 2147483648 2147483648 147573952589676412928 (Nat.lt_succ_self _) (by first | decide | omega) (by first | decide | omega)
  have q7 : ¬ (a1 < (h (h 0 8) 7)) := q7
  refine x_thr (np := 18) (x := 2) (by decide +kernel) (by decide +kernel) (Nat.le_trans x_wn (by decide)) (Or.inr ⟨_, rfl, ?_⟩)
  refine Or.inr ⟨_, rfl, ?_⟩
  exact ⟨hJ, hF, by decide⟩
set_option maxHeartbeats 0 in
/-- LentNamesLaw.owes(LLentNames;IZ[J)I -/
theorem c292_0_97 {sc : Nat × Nat} {d a1 a2 : Nat} {h : xh} (hJ : J h) (ba1 : 0 ≤ a1 ∧ a1 ≤ 4294967295) (ba2 : 2147483648 ≤ a2 ∧ a2 ≤ 2147483649) : X sc 292 (d + 2) (xI fun r h' => J h' ∧ Fr 70368744177664 h h' ∧ (2147483648 ≤ r ∧ r ≤ 2147483649)) 0 0 0 [x_r 0, iv_c a1, iv_c a2, x_r 97, 147573952589676412928] [] h := by
  have la1 : a1 < 4294967296 := by first | decide | omega
  have la2 : a2 < 4294967296 := by first | decide | omega
  have hF := Fr.refl 70368744177664 h
  refine x_aload (np := 1) (x := 3) (by decide +kernel) rfl (x_nc_le (by decide)) ?_
  refine x_const (np := 2) (x := 9223372039002259456) (a := 2147483648) (by decide +kernel) (by decide) (by decide) ?_
  refine x_aload (np := 3) (x := 0) (by decide +kernel) rfl (x_nc_le (by decide)) ?_
  refine x_iload (np := 4) (x := 1) (by decide +kernel) rfl la1 ?_
  refine x_iload (np := 5) (x := 2) (by decide +kernel) rfl la2 ?_
  refine x_cT (t := 6) (mj := 123) (n := 3) (rc := 11) (ml := 6) (cc := 1) (ss := 6) (nr := 2) (np := 8) (as := [x_r 0, iv_c a1, iv_c a2]) (rest := [iv_c 2147483648, x_r 97]) (lo1 := [x_r 0, iv_c a1, iv_c a2, 147573952589676412928, 147573952589676412928, 147573952589676412928]) (by decide +kernel) (by decide) (by decide +kernel) (x_rb_of (by decide +kernel)) rfl rfl (x_wr (by decide) (x_wi la1 (x_wi la2 x_wn))) (x_wi (by decide) (x_wr (by decide) x_wn)) (by decide) rfl (c123_0 hJ  (by first | decide | omega) (by first | decide | omega)) (fun v1 h4 l2 q3 => ?_) (fun E6 h7 q5 => ?_)
  · obtain ⟨j8, f9, b10⟩ := q3
    have f11 := Fr.trans hF f9 (by decide)
    refine x_i2l (np := 9) (x := 0) (by decide +kernel) l2 ?_
    refine x_last (np := 10) (x := 0) (n := 1) (i := 0) (by decide +kernel) (by decide) (by decide +kernel) (by decide +kernel) (by first | decide | omega) (by first | decide | omega) (by decide) l2 ?_
    have j13 := jU (e := 0) (v := v1) 0 j8 rg_97_0_1_1 (by first | decide | omega) (by first | decide | omega) (by first | decide | omega)
    have f15 := jF (e := 0) (v := v1) 0 f11 rg_97_0_1_1 (by first | decide | omega) (by first | decide | omega) (by decide)
    generalize e14 : x_up h4 97 0 v1 = h12 at j13 f15 ⊢
    refine x_goto (np := 13) (x := 17) (by decide +kernel) ?_
    refine x_const (np := 18) (x := 9223372039002259456) (a := 2147483648) (by decide +kernel) (by decide) (by decide) ?_
    refine x_retI (np := 19) (x := 0) (by decide +kernel) (by decide) (Or.inl (by decide +kernel)) ⟨_, rfl, (by decide), ?_⟩
    exact ⟨j13, f15, (by first | decide | omega)⟩
  obtain ⟨j16, f17, e18⟩ := q5
  have f19 := Fr.trans hF f17 (by decide)
  rcases e18 with rfl
  · refine ⟨13, fun _ _ => rfl, ?_⟩
    refine x_astE (np := 15) (x := 4) (lo' := [x_r 0, iv_c a1, iv_c a2, x_r 97, 55340232221128654850]) (by decide +kernel) (Nat.le_of_ble_eq_true rfl) rfl ?_
    refine x_const (np := 16) (x := 9223372043297226753) (a := 2147483649) (by decide +kernel) (by decide) (by decide) ?_
    refine x_retI (np := 17) (x := 0) (by decide +kernel) (by decide) (Or.inl (by decide +kernel)) ⟨_, rfl, (by decide), ?_⟩
    exact ⟨j16, f19, (by first | decide | omega)⟩
set_option maxHeartbeats 0 in
/-- LentNames$Calendar.firstBorne(II)I -/
theorem c11_45 {sc : Nat × Nat} {d a1 a2 : Nat} {h : xh} (hJ : J h) (ba1 : 2147483648 ≤ a1 ∧ a1 ≤ 2147483653) (ba2 : 0 ≤ a2 ∧ a2 ≤ 4294967295) : X sc 11 (d + 2) (xI fun r h' => h' = h ∧ (2147483647 ≤ r ∧ r ≤ 2147483659)) 0 0 0 [x_r 45, iv_c a1, iv_c a2, 147573952589676412928] [] h := by
  have la1 : a1 < 4294967296 := by first | decide | omega
  have la2 : a2 < 4294967296 := by first | decide | omega
  refine x_iload (np := 1) (x := 2) (by decide +kernel) rfl la2 ?_
  refine x_const (np := 2) (x := 9223372039002259456) (a := 2147483648) (by decide +kernel) (by decide) (by decide) ?_
  refine x_max (np := 5) (by decide +kernel) la2 (by decide) (Nat.le_trans (x_wi (by decide) (x_wi la2 x_wn)) (by decide)) ?_
  obtain ⟨v1, q2⟩ : ∃ w, w = max a2 2147483648 := ⟨_, rfl⟩
  rw [← q2]
  have b3 : a2 ≤ v1 ∧ 2147483648 ≤ v1 := by first | decide | omega
  refine x_istore (np := 6) (x := 3) (lo' := [x_r 45, iv_c a1, iv_c a2, iv_c v1]) (by decide +kernel) (by first | decide | omega) (Nat.le_of_ble_eq_true rfl) rfl ?_
  have p15 : ∀ (n : Nat) (v13 : Nat), 4294967296 - v13 < n → (2147483648 ≤ v13 ∧ v13 ≤ 4294967295) → X sc 11 (d + 2) (xI fun r h' => h' = h ∧ (2147483647 ≤ r ∧ r ≤ 2147483659)) 0 0 6 [x_r 45, iv_c a1, iv_c a2, iv_c v13] [] h := by
    intro n
    induction n with
    | zero => intro v13 q16; exact absurd q16 (Nat.not_lt_zero _)
    | succ n i17 =>
      intro v13 q16 b14
      refine x_iload (np := 7) (x := 3) (by decide +kernel) rfl (by first | decide | omega) ?_
      refine x_const (np := 9) (x := 9223372090541867020) (a := 2147483660) (by decide +kernel) (by decide) (by decide) ?_
      refine x_icmp (k := 3) (tg := 30) (np := 12) (by decide +kernel) (by decide) (by first | decide | omega) (by decide) (fun q18 => ?_) (fun q19 => ?_)
      · have q18 : 2147483660 ≤ v13 := q18
        refine x_const (np := 31) (x := 9223372034707292159) (a := 2147483647) (by decide +kernel) (by decide) (by decide) ?_
        refine x_retI (np := 32) (x := 0) (by decide +kernel) (by decide) (Or.inl (by decide +kernel)) ⟨_, rfl, (by decide), ?_⟩
        exact ⟨rfl, (by first | decide | omega)⟩
      have q19 : ¬ (2147483660 ≤ v13) := q19
      refine x_aload (np := 13) (x := 0) (by decide +kernel) rfl (x_nc_le (by decide)) ?_
      refine x_iload (np := 14) (x := 1) (by decide +kernel) rfl la1 ?_
      refine x_iload (np := 15) (x := 3) (by decide +kernel) rfl (by first | decide | omega) ?_
      refine x_cP (t := 6) (mj := 5) (n := 3) (rc := 2) (ml := 3) (nr := 0) (np := 18) (as := [x_r 45, iv_c a1, iv_c v13]) (rest := []) (lo1 := [x_r 45, iv_c a1, iv_c v13]) (by decide +kernel) (by decide) (by decide +kernel) (x_rb_of (by decide +kernel)) rfl rfl (x_wr (by decide) (x_wi la1 (x_wi (by first | decide | omega) x_wn))) x_wn (by decide) rfl (c5_45 hJ  (by first | decide | omega) (by first | decide | omega)) (fun v20 l21 q22 => ?_)
      refine x_const (np := 19) (x := 9223372034707292159) (a := 2147483647) (by decide +kernel) (by decide) (by decide) ?_
      refine x_icmp (k := 0) (tg := 24) (np := 22) (by decide +kernel) (by decide) l21 (by decide) (fun q23 => ?_) (fun q24 => ?_)
      · have q23 : v20 = 2147483647 := q23
        refine x_iinc (np := 27) (i := 3) (j := 2147483649) (v := (1 + v13)) (lo' := [x_r 45, iv_c a1, iv_c a2, iv_c (1 + v13)]) (by decide +kernel) (by decide) (by decide) rfl (by first | decide | omega) (by first | decide | omega) (by first | decide | omega) rfl ?_
        refine x_goto (np := 30) (x := 6) (by decide +kernel) ?_
        exact i17 (1 + v13) (by first | decide | omega) (by first | decide | omega)
      have q24 : ¬ (v20 = 2147483647) := q24
      refine x_iload (np := 23) (x := 3) (by decide +kernel) rfl (by first | decide | omega) ?_
      refine x_retI (np := 24) (x := 0) (by decide +kernel) (by first | decide | omega) (Or.inl (by decide +kernel)) ⟨_, rfl, (by first | decide | omega), ?_⟩
      exact ⟨rfl, (by first | decide | omega)⟩
  exact p15 _ v1 (Nat.lt_succ_self _) (by first | decide | omega)
set_option maxHeartbeats 0 in
/-- LentNames.letter(II)I -/
theorem c124_0 {sc : Nat × Nat} {d a1 a2 : Nat} {h : xh} (hJ : J h) (ba1 : 0 ≤ a1 ∧ a1 ≤ 4294967295) (ba2 : 0 ≤ a2 ∧ a2 ≤ 4294967295) : X sc 124 (d + 3) (xT (fun r h' => J h' ∧ Fr 0 h h' ∧ (2147483647 ≤ r ∧ r ≤ 2147483659)) (fun E h' => J h' ∧ Fr 0 h h' ∧ (E = 2 ∨ E = 4))) 0 0 0 [x_r 0, iv_c a1, iv_c a2, 147573952589676412928, 147573952589676412928] [] h := by
  have la1 : a1 < 4294967296 := by first | decide | omega
  have la2 : a2 < 4294967296 := by first | decide | omega
  have hF := Fr.refl 0 h
  refine x_aload (np := 1) (x := 0) (by decide +kernel) rfl (x_nc_le (by decide)) ?_
  have t1 : tw (h 0 8) := hJ.2.1
  refine x_getR (np := 4) (x := 648) (f := 8) (q := (h 0 8)) (by decide +kernel) (by decide) (by decide +kernel) rfl ?_
  have q2 : h (h 0 8) 1 = ((h 0 8) + 3) := tf_0_1 hJ t1
  refine x_getR (np := 7) (x := 513) (f := 1) (q := ((h 0 8) + 3)) (by decide +kernel) (by decide) (tg_0_513_1_1 t1) q2 ?_
  refine x_iload (np := 8) (x := 1) (by decide +kernel) rfl la1 ?_
  refine x_nU (t := 0) (mj := 147) (n := 2) (rc := 0) (ml := 2) (cc := 1) (ss := 6) (nr := 0) (np := 11) (as := [x_r ((h 0 8) + 3), iv_c a1]) (rest := []) (lo1 := [x_r ((h 0 8) + 3), iv_c a1]) (by decide +kernel) (by decide) (by decide +kernel) (by decide +kernel) (Or.inl rfl) rfl rfl (x_wr (tn_3 t1) (x_wi la1 x_wn)) x_wn (by decide) rfl ?_
  refine x_iload (np := 1) (x := 1) (by decide +kernel) rfl la1 ?_
  refine x_ifz (k := 2) (tg := 12) (np := 4) (by decide +kernel) (by decide) la1 (fun q3 => ?_) (fun q4 => ?_)
  · have q3 : a1 < 2147483648 := q3
    refine x_thr (np := 15) (x := 2) (by decide +kernel) (by decide +kernel) (Nat.le_trans x_wn (by decide)) (Or.inr ⟨_, rfl, ?_⟩)
    refine Or.inr ⟨_, rfl, ?_⟩
    exact ⟨hJ, hF, by decide⟩
  have q4 : ¬ (a1 < 2147483648) := q4
  refine x_iload (np := 5) (x := 1) (by decide +kernel) rfl la1 ?_
  refine x_aload (np := 6) (x := 0) (by decide +kernel) rfl (x_nc_le (tn_3 t1)) ?_
  have b5 := jB (e := 2) 0 hJ (rg_T3_2_0_1 t1) (by first | decide | omega) (by first | decide | omega)
  refine x_getC (np := 9) (x := 386) (f := 2) (q := (h ((h 0 8) + 3) 2)) (by decide +kernel) (by decide) (tg_3_386_2_0 t1) rfl (fun l6 => ?_)
  refine x_icmp (k := 2) (tg := 23) (np := 12) (by decide +kernel) (by decide) la1 l6 (fun q7 => ?_) (fun q8 => ?_)
  · have q7 : a1 < (h ((h 0 8) + 3) 2) := q7
    refine x_retV (np := 24) (x := 0) (by decide +kernel) (by decide +kernel) (Or.inl ⟨rfl, ?_⟩)
    refine x_iload (np := 12) (x := 2) (by decide +kernel) rfl la2 ?_
    refine x_ifz (k := 2) (tg := 20) (np := 15) (by decide +kernel) (by decide) la2 (fun q9 => ?_) (fun q10 => ?_)
    · have q9 : a2 < 2147483648 := q9
      refine x_thrN (is := 238) (text := "a letter has no such number") rfl rfl (List.mem_of_getElem? (i := 9) rfl) (by rw [tb_b124]; decide +kernel) (by rw [tb_b124]; decide +kernel) (by rw [tb_b124]; decide +kernel) (by rw [tb_b124]; decide +kernel) (by rw [tb_b124]; decide +kernel) (by decide +kernel) (Nat.le_trans x_wn (by decide)) (Or.inr ⟨_, rfl, ?_⟩)
      exact ⟨hJ, hF, by decide⟩
    have q10 : ¬ (a2 < 2147483648) := q10
    refine x_iload (np := 16) (x := 2) (by decide +kernel) rfl la2 ?_
    refine x_const (np := 17) (x := 9223372047592194050) (a := 2147483650) (by decide +kernel) (by decide) (by decide) ?_
    refine x_icmp (k := 5) (tg := 30) (np := 20) (by decide +kernel) (by decide) la2 (by decide) (fun q11 => ?_) (fun q12 => ?_)
    · have q11 : a2 ≤ 2147483650 := q11
      refine x_aload (np := 31) (x := 0) (by decide +kernel) rfl (x_nc_le (by decide)) ?_
      refine x_getR (np := 34) (x := 648) (f := 8) (q := (h 0 8)) (by decide +kernel) (by decide) (by decide +kernel) rfl ?_
      have q13 : h (h 0 8) 1 = ((h 0 8) + 3) := tf_0_1 hJ t1
      refine x_getR (np := 37) (x := 513) (f := 1) (q := ((h 0 8) + 3)) (by decide +kernel) (by decide) (tg_0_513_1_1 t1) q13 ?_
      refine x_iload (np := 38) (x := 1) (by decide +kernel) rfl la1 ?_
      refine x_const (np := 39) (x := 9223372039002259456) (a := 2147483648) (by decide +kernel) (by decide) (by decide) ?_
      refine x_nI (t := 6) (mj := 68) (n := 3) (rc := 7) (ml := 4) (nr := 0) (np := 42) (as := [x_r ((h 0 8) + 3), iv_c a1, iv_c 2147483648]) (rest := []) (lo1 := [x_r ((h 0 8) + 3), iv_c a1, iv_c 2147483648, 147573952589676412928]) (by decide +kernel) (by decide) (by decide +kernel) (x_rb_of (tr_3_7 t1)) rfl rfl (x_wr (tn_3 t1) (x_wi la1 (x_wi (by decide) x_wn))) x_wn (by decide) rfl ?_
      refine x_iload (np := 1) (x := 1) (by decide +kernel) rfl la1 ?_
      refine x_ifz (k := 2) (tg := 28) (np := 4) (by decide +kernel) (by decide) la1 (fun q14 => ?_) (fun q15 => ?_)
      · have q14 : a1 < 2147483648 := q14
        exfalso; omega
      have q15 : ¬ (a1 < 2147483648) := q15
      refine x_iload (np := 5) (x := 1) (by decide +kernel) rfl la1 ?_
      refine x_aload (np := 6) (x := 0) (by decide +kernel) rfl (x_nc_le (tn_3 t1)) ?_
      refine x_getC (np := 9) (x := 386) (f := 2) (q := (h ((h 0 8) + 3) 2)) (by decide +kernel) (by decide) (tg_3_386_2_0 t1) rfl (fun l16 => ?_)
      refine x_icmp (k := 3) (tg := 28) (np := 12) (by decide +kernel) (by decide) la1 l6 (fun q17 => ?_) (fun q18 => ?_)
      · have q17 : (h ((h 0 8) + 3) 2) ≤ a1 := q17
        exfalso; omega
      have q18 : ¬ ((h ((h 0 8) + 3) 2) ≤ a1) := q18
      refine x_iload (np := 13) (x := 2) (by decide +kernel) rfl (by decide) ?_
      refine x_ifz (k := 2) (tg := 28) (np := 16) (by decide +kernel) (by decide) (by decide) (fun q19 => ?_) (fun q20 => ?_)
      · have q19 : 2147483648 < 2147483648 := q19
        exfalso; omega
      have q20 : ¬ (2147483648 < 2147483648) := q20
      refine x_iload (np := 17) (x := 2) (by decide +kernel) rfl (by decide) ?_
      refine x_aload (np := 18) (x := 0) (by decide +kernel) rfl (x_nc_le (tn_3 t1)) ?_
      have b21 := jB (e := 0) 0 hJ (rg_T3_0_0_1 t1) (by first | decide | omega) (by first | decide | omega)
      have q22 : (h ((h 0 8) + 3) 0) = 2147483652 := by first | decide | omega
      refine x_getC (np := 21) (x := 384) (f := 0) (q := 2147483652) (by decide +kernel) (by decide) (tg_3_384_0_0 t1) q22 (fun l23 => ?_)
      refine x_icmp (k := 3) (tg := 28) (np := 24) (by decide +kernel) (by decide) (by decide) (by decide) (fun q24 => ?_) (fun q25 => ?_)
      · have q24 : 2147483652 ≤ 2147483648 := q24
        exfalso; omega
      have q25 : ¬ (2147483652 ≤ 2147483648) := q25
      refine x_const (np := 25) (x := 9223372043297226753) (a := 2147483649) (by decide +kernel) (by decide) (by decide) ?_
      refine x_goto (np := 28) (x := 29) (by decide +kernel) ?_
      refine x_istore (np := 30) (x := 3) (lo' := [x_r ((h 0 8) + 3), iv_c a1, iv_c 2147483648, iv_c 2147483649]) (by decide +kernel) (by decide) (Nat.le_of_ble_eq_true rfl) rfl ?_
      refine x_iload (np := 31) (x := 3) (by decide +kernel) rfl (by decide) ?_
      refine x_ifz (k := 0) (tg := 50) (np := 34) (by decide +kernel) (by decide) (by decide) (fun q26 => ?_) (fun q27 => ?_)
      · have q26 : 2147483649 = 2147483648 := q26
        exfalso; omega
      have q27 : ¬ (2147483649 = 2147483648) := q27
      refine x_aload (np := 35) (x := 0) (by decide +kernel) rfl (x_nc_le (tn_3 t1)) ?_
      have q28 : h ((h 0 8) + 3) 1 = ((h 0 8) + 4) := tf_3_1 hJ t1
      refine x_getR (np := 38) (x := 385) (f := 1) (q := ((h 0 8) + 4)) (by decide +kernel) (by decide) (tg_3_385_1_1 t1) q28 ?_
      refine x_iload (np := 39) (x := 1) (by decide +kernel) rfl la1 ?_
      refine x_aload (np := 40) (x := 0) (by decide +kernel) rfl (x_nc_le (tn_3 t1)) ?_
      refine x_getC (np := 43) (x := 384) (f := 0) (q := 2147483652) (by decide +kernel) (by decide) (tg_3_384_0_0 t1) q22 (fun l29 => ?_)
      obtain ⟨u30, q31⟩ : ∃ z, a1 = 2147483648 + z := ⟨a1 - 2147483648, by first | decide | omega⟩
      refine x_imul (np := 44) (x := 0) (i := u30) (j := 4) (v := (2147483648 + 4 * u30)) (by decide +kernel) (by first | decide | omega) (by first | decide | omega) (by first | decide | omega) (by first | decide | omega) la1 (by decide) ?_
      refine x_iload (np := 45) (x := 2) (by decide +kernel) rfl (by decide) ?_
      refine x_iadd (np := 46) (x := 0) (v := (2147483648 + 4 * u30)) (by decide +kernel) (by first | decide | omega) (by decide) (by first | decide | omega) (by first | decide | omega) ?_
      have b33 := jB (e := (4 * u30)) u30 hJ (rg_T4_0_4_10 t1) (by first | decide | omega) (by first | decide | omega)
      refine x_aldC (np := 47) (x := 0) (n := 40) (i := (4 * u30)) (q := ((h ((h 0 8) + 4) (4 * u30)))) (by decide +kernel) (ta_4_40 t1) (by first | decide | omega) (by first | decide | omega) (by decide) rfl (fun l34 => ?_)
      refine x_goto (np := 50) (x := 51) (by decide +kernel) ?_
      refine x_retI (np := 52) (x := 0) (by decide +kernel) l34 (Or.inl (by decide +kernel)) ⟨_, rfl, l34, ?_⟩
      refine x_istore (np := 43) (x := 3) (lo' := [x_r 0, iv_c a1, iv_c a2, iv_c ((h ((h 0 8) + 4) (4 * u30))), 147573952589676412928]) (by decide +kernel) l34 (Nat.le_of_ble_eq_true rfl) rfl ?_
      refine x_iload (np := 44) (x := 2) (by decide +kernel) rfl la2 ?_
      refine x_ifz (k := 1) (tg := 68) (np := 47) (by decide +kernel) (by decide) la2 (fun q35 => ?_) (fun q36 => ?_)
      · have q35 : a2 ≠ 2147483648 := q35
        refine x_aload (np := 69) (x := 0) (by decide +kernel) rfl (x_nc_le (by decide)) ?_
        have q37 : h 0 1 = 45 := by have z := jB (e := 1) 0 hJ rg_0_1_0_1 (by decide) (by decide); omega
        refine x_getR (np := 72) (x := 641) (f := 1) (q := 45) (by decide +kernel) (by decide) (by decide +kernel) q37 ?_
        refine x_iload (np := 73) (x := 3) (by decide +kernel) rfl l34 ?_
        refine x_aload (np := 74) (x := 0) (by decide +kernel) rfl (x_nc_le (by decide)) ?_
        refine x_getR (np := 77) (x := 648) (f := 8) (q := (h 0 8)) (by decide +kernel) (by decide) (by decide +kernel) rfl ?_
        have q38 : h (h 0 8) 1 = ((h 0 8) + 3) := tf_0_1 hJ t1
        refine x_getR (np := 80) (x := 513) (f := 1) (q := ((h 0 8) + 3)) (by decide +kernel) (by decide) (tg_0_513_1_1 t1) q38 ?_
        refine x_iload (np := 81) (x := 1) (by decide +kernel) rfl la1 ?_
        refine x_const (np := 82) (x := 9223372047592194050) (a := 2147483650) (by decide +kernel) (by decide) (by decide) ?_
        refine x_nI (t := 6) (mj := 68) (n := 3) (rc := 7) (ml := 4) (nr := 2) (np := 85) (as := [x_r ((h 0 8) + 3), iv_c a1, iv_c 2147483650]) (rest := [iv_c ((h ((h 0 8) + 4) (4 * u30))), x_r 45]) (lo1 := [x_r ((h 0 8) + 3), iv_c a1, iv_c 2147483650, 147573952589676412928]) (by decide +kernel) (by decide) (by decide +kernel) (x_rb_of (tr_3_7 t1)) rfl rfl (x_wr (tn_3 t1) (x_wi la1 (x_wi (by decide) x_wn))) (x_wi l34 (x_wr (by decide) x_wn)) (by decide) rfl ?_
        refine x_iload (np := 1) (x := 1) (by decide +kernel) rfl la1 ?_
        refine x_ifz (k := 2) (tg := 28) (np := 4) (by decide +kernel) (by decide) la1 (fun q39 => ?_) (fun q40 => ?_)
        · have q39 : a1 < 2147483648 := q39
          exfalso; omega
        have q40 : ¬ (a1 < 2147483648) := q40
        refine x_iload (np := 5) (x := 1) (by decide +kernel) rfl la1 ?_
        refine x_aload (np := 6) (x := 0) (by decide +kernel) rfl (x_nc_le (tn_3 t1)) ?_
        refine x_getC (np := 9) (x := 386) (f := 2) (q := (h ((h 0 8) + 3) 2)) (by decide +kernel) (by decide) (tg_3_386_2_0 t1) rfl (fun l41 => ?_)
        refine x_icmp (k := 3) (tg := 28) (np := 12) (by decide +kernel) (by decide) la1 l6 (fun q42 => ?_) (fun q43 => ?_)
        · have q42 : (h ((h 0 8) + 3) 2) ≤ a1 := q42
          exfalso; omega
        have q43 : ¬ ((h ((h 0 8) + 3) 2) ≤ a1) := q43
        refine x_iload (np := 13) (x := 2) (by decide +kernel) rfl (by decide) ?_
        refine x_ifz (k := 2) (tg := 28) (np := 16) (by decide +kernel) (by decide) (by decide) (fun q44 => ?_) (fun q45 => ?_)
        · have q44 : 2147483650 < 2147483648 := q44
          exfalso; omega
        have q45 : ¬ (2147483650 < 2147483648) := q45
        refine x_iload (np := 17) (x := 2) (by decide +kernel) rfl (by decide) ?_
        refine x_aload (np := 18) (x := 0) (by decide +kernel) rfl (x_nc_le (tn_3 t1)) ?_
        refine x_getC (np := 21) (x := 384) (f := 0) (q := 2147483652) (by decide +kernel) (by decide) (tg_3_384_0_0 t1) q22 (fun l46 => ?_)
        refine x_icmp (k := 3) (tg := 28) (np := 24) (by decide +kernel) (by decide) (by decide) (by decide) (fun q47 => ?_) (fun q48 => ?_)
        · have q47 : 2147483652 ≤ 2147483650 := q47
          exfalso; omega
        have q48 : ¬ (2147483652 ≤ 2147483650) := q48
        refine x_const (np := 25) (x := 9223372043297226753) (a := 2147483649) (by decide +kernel) (by decide) (by decide) ?_
        refine x_goto (np := 28) (x := 29) (by decide +kernel) ?_
        refine x_istore (np := 30) (x := 3) (lo' := [x_r ((h 0 8) + 3), iv_c a1, iv_c 2147483650, iv_c 2147483649]) (by decide +kernel) (by decide) (Nat.le_of_ble_eq_true rfl) rfl ?_
        refine x_iload (np := 31) (x := 3) (by decide +kernel) rfl (by decide) ?_
        refine x_ifz (k := 0) (tg := 50) (np := 34) (by decide +kernel) (by decide) (by decide) (fun q49 => ?_) (fun q50 => ?_)
        · have q49 : 2147483649 = 2147483648 := q49
          exfalso; omega
        have q50 : ¬ (2147483649 = 2147483648) := q50
        refine x_aload (np := 35) (x := 0) (by decide +kernel) rfl (x_nc_le (tn_3 t1)) ?_
        have q51 : h ((h 0 8) + 3) 1 = ((h 0 8) + 4) := tf_3_1 hJ t1
        refine x_getR (np := 38) (x := 385) (f := 1) (q := ((h 0 8) + 4)) (by decide +kernel) (by decide) (tg_3_385_1_1 t1) q51 ?_
        refine x_iload (np := 39) (x := 1) (by decide +kernel) rfl la1 ?_
        refine x_aload (np := 40) (x := 0) (by decide +kernel) rfl (x_nc_le (tn_3 t1)) ?_
        refine x_getC (np := 43) (x := 384) (f := 0) (q := 2147483652) (by decide +kernel) (by decide) (tg_3_384_0_0 t1) q22 (fun l52 => ?_)
        refine x_imul (np := 44) (x := 0) (i := u30) (j := 4) (v := (2147483648 + 4 * u30)) (by decide +kernel) (by first | decide | omega) (by first | decide | omega) (by first | decide | omega) (by first | decide | omega) la1 (by decide) ?_
        refine x_iload (np := 45) (x := 2) (by decide +kernel) rfl (by decide) ?_
        refine x_iadd (np := 46) (x := 0) (v := (2147483650 + 4 * u30)) (by decide +kernel) (by first | decide | omega) (by decide) (by first | decide | omega) (by first | decide | omega) ?_
        refine x_aldC (np := 47) (x := 0) (n := 40) (i := (2 + 4 * u30)) (q := ((h ((h 0 8) + 4) (2 + 4 * u30)))) (by decide +kernel) (ta_4_40 t1) (by first | decide | omega) (by first | decide | omega) (by decide) rfl (fun l54 => ?_)
        refine x_goto (np := 50) (x := 51) (by decide +kernel) ?_
        refine x_retI (np := 52) (x := 0) (by decide +kernel) l54 (Or.inl (by decide +kernel)) ⟨_, rfl, l54, ?_⟩
        refine x_cP (t := 6) (mj := 11) (n := 3) (rc := 2) (ml := 4) (nr := 0) (np := 88) (as := [x_r 45, iv_c ((h ((h 0 8) + 4) (4 * u30))), iv_c ((h ((h 0 8) + 4) (2 + 4 * u30)))]) (rest := []) (lo1 := [x_r 45, iv_c ((h ((h 0 8) + 4) (4 * u30))), iv_c ((h ((h 0 8) + 4) (2 + 4 * u30))), 147573952589676412928]) (by decide +kernel) (by decide) (by decide +kernel) (x_rb_of (by decide +kernel)) rfl rfl (x_wr (by decide) (x_wi l34 (x_wi l54 x_wn))) x_wn (by decide) rfl (c11_45 hJ  (by first | decide | omega) (by first | decide | omega)) (fun v55 l56 q57 => ?_)
        refine x_istore (np := 90) (x := 4) (lo' := [x_r 0, iv_c a1, iv_c a2, iv_c ((h ((h 0 8) + 4) (4 * u30))), iv_c v55]) (by decide +kernel) l56 (Nat.le_of_ble_eq_true rfl) rfl ?_
        refine x_iload (np := 92) (x := 4) (by decide +kernel) rfl l56 ?_
        refine x_const (np := 93) (x := 9223372034707292159) (a := 2147483647) (by decide +kernel) (by decide) (by decide) ?_
        refine x_icmp (k := 0) (tg := 101) (np := 96) (by decide +kernel) (by decide) l56 (by decide) (fun q58 => ?_) (fun q59 => ?_)
        · have q58 : v55 = 2147483647 := q58
          refine x_iload (np := 103) (x := 4) (by decide +kernel) rfl l56 ?_
          refine x_retI (np := 104) (x := 0) (by decide +kernel) l56 (Or.inl (by decide +kernel)) (Or.inl ⟨_, rfl, l56, ?_⟩)
          exact ⟨hJ, hF, (by first | decide | omega)⟩
        have q59 : ¬ (v55 = 2147483647) := q59
        refine x_iload (np := 97) (x := 2) (by decide +kernel) rfl la2 ?_
        refine x_const (np := 98) (x := 9223372047592194050) (a := 2147483650) (by decide +kernel) (by decide) (by decide) ?_
        refine x_icmp (k := 1) (tg := 104) (np := 101) (by decide +kernel) (by decide) la2 (by decide) (fun q60 => ?_) (fun q61 => ?_)
        · have q60 : a2 ≠ 2147483650 := q60
          refine x_aload (np := 105) (x := 0) (by decide +kernel) rfl (x_nc_le (by decide)) ?_
          have q62 : h 0 1 = 45 := by have z := jB (e := 1) 0 hJ rg_0_1_0_1 (by decide) (by decide); omega
          refine x_getR (np := 108) (x := 641) (f := 1) (q := 45) (by decide +kernel) (by decide) (by decide +kernel) q62 ?_
          refine x_iload (np := 109) (x := 3) (by decide +kernel) rfl l34 ?_
          refine x_iload (np := 111) (x := 4) (by decide +kernel) rfl l56 ?_
          refine x_cP (t := 6) (mj := 5) (n := 3) (rc := 2) (ml := 3) (nr := 0) (np := 114) (as := [x_r 45, iv_c ((h ((h 0 8) + 4) (4 * u30))), iv_c v55]) (rest := []) (lo1 := [x_r 45, iv_c ((h ((h 0 8) + 4) (4 * u30))), iv_c v55]) (by decide +kernel) (by decide) (by decide +kernel) (x_rb_of (by decide +kernel)) rfl rfl (x_wr (by decide) (x_wi l34 (x_wi l56 x_wn))) x_wn (by decide) rfl (c5_45 hJ  (by first | decide | omega) (by first | decide | omega)) (fun v63 l64 q65 => ?_)
          refine x_retI (np := 115) (x := 0) (by decide +kernel) l64 (Or.inl (by decide +kernel)) (Or.inl ⟨_, rfl, l64, ?_⟩)
          exact ⟨hJ, hF, (by first | decide | omega)⟩
        have q61 : ¬ (a2 ≠ 2147483650) := q61
        refine x_iload (np := 103) (x := 4) (by decide +kernel) rfl l56 ?_
        refine x_retI (np := 104) (x := 0) (by decide +kernel) l56 (Or.inl (by decide +kernel)) (Or.inl ⟨_, rfl, l56, ?_⟩)
        exact ⟨hJ, hF, (by first | decide | omega)⟩
      have q36 : ¬ (a2 ≠ 2147483648) := q36
      refine x_aload (np := 48) (x := 0) (by decide +kernel) rfl (x_nc_le (by decide)) ?_
      have q66 : h 0 1 = 45 := by have z := jB (e := 1) 0 hJ rg_0_1_0_1 (by decide) (by decide); omega
      refine x_getR (np := 51) (x := 641) (f := 1) (q := 45) (by decide +kernel) (by decide) (by decide +kernel) q66 ?_
      refine x_iload (np := 52) (x := 3) (by decide +kernel) rfl l34 ?_
      refine x_aload (np := 53) (x := 0) (by decide +kernel) rfl (x_nc_le (by decide)) ?_
      refine x_getR (np := 56) (x := 648) (f := 8) (q := (h 0 8)) (by decide +kernel) (by decide) (by decide +kernel) rfl ?_
      have q67 : h (h 0 8) 1 = ((h 0 8) + 3) := tf_0_1 hJ t1
      refine x_getR (np := 59) (x := 513) (f := 1) (q := ((h 0 8) + 3)) (by decide +kernel) (by decide) (tg_0_513_1_1 t1) q67 ?_
      refine x_iload (np := 60) (x := 1) (by decide +kernel) rfl la1 ?_
      refine x_const (np := 61) (x := 9223372043297226753) (a := 2147483649) (by decide +kernel) (by decide) (by decide) ?_
      refine x_nI (t := 6) (mj := 68) (n := 3) (rc := 7) (ml := 4) (nr := 2) (np := 64) (as := [x_r ((h 0 8) + 3), iv_c a1, iv_c 2147483649]) (rest := [iv_c ((h ((h 0 8) + 4) (4 * u30))), x_r 45]) (lo1 := [x_r ((h 0 8) + 3), iv_c a1, iv_c 2147483649, 147573952589676412928]) (by decide +kernel) (by decide) (by decide +kernel) (x_rb_of (tr_3_7 t1)) rfl rfl (x_wr (tn_3 t1) (x_wi la1 (x_wi (by decide) x_wn))) (x_wi l34 (x_wr (by decide) x_wn)) (by decide) rfl ?_
      refine x_iload (np := 1) (x := 1) (by decide +kernel) rfl la1 ?_
      refine x_ifz (k := 2) (tg := 28) (np := 4) (by decide +kernel) (by decide) la1 (fun q68 => ?_) (fun q69 => ?_)
      · have q68 : a1 < 2147483648 := q68
        exfalso; omega
      have q69 : ¬ (a1 < 2147483648) := q69
      refine x_iload (np := 5) (x := 1) (by decide +kernel) rfl la1 ?_
      refine x_aload (np := 6) (x := 0) (by decide +kernel) rfl (x_nc_le (tn_3 t1)) ?_
      refine x_getC (np := 9) (x := 386) (f := 2) (q := (h ((h 0 8) + 3) 2)) (by decide +kernel) (by decide) (tg_3_386_2_0 t1) rfl (fun l70 => ?_)
      refine x_icmp (k := 3) (tg := 28) (np := 12) (by decide +kernel) (by decide) la1 l6 (fun q71 => ?_) (fun q72 => ?_)
      · have q71 : (h ((h 0 8) + 3) 2) ≤ a1 := q71
        exfalso; omega
      have q72 : ¬ ((h ((h 0 8) + 3) 2) ≤ a1) := q72
      refine x_iload (np := 13) (x := 2) (by decide +kernel) rfl (by decide) ?_
      refine x_ifz (k := 2) (tg := 28) (np := 16) (by decide +kernel) (by decide) (by decide) (fun q73 => ?_) (fun q74 => ?_)
      · have q73 : 2147483649 < 2147483648 := q73
        exfalso; omega
      have q74 : ¬ (2147483649 < 2147483648) := q74
      refine x_iload (np := 17) (x := 2) (by decide +kernel) rfl (by decide) ?_
      refine x_aload (np := 18) (x := 0) (by decide +kernel) rfl (x_nc_le (tn_3 t1)) ?_
      refine x_getC (np := 21) (x := 384) (f := 0) (q := 2147483652) (by decide +kernel) (by decide) (tg_3_384_0_0 t1) q22 (fun l75 => ?_)
      refine x_icmp (k := 3) (tg := 28) (np := 24) (by decide +kernel) (by decide) (by decide) (by decide) (fun q76 => ?_) (fun q77 => ?_)
      · have q76 : 2147483652 ≤ 2147483649 := q76
        exfalso; omega
      have q77 : ¬ (2147483652 ≤ 2147483649) := q77
      refine x_const (np := 25) (x := 9223372043297226753) (a := 2147483649) (by decide +kernel) (by decide) (by decide) ?_
      refine x_goto (np := 28) (x := 29) (by decide +kernel) ?_
      refine x_istore (np := 30) (x := 3) (lo' := [x_r ((h 0 8) + 3), iv_c a1, iv_c 2147483649, iv_c 2147483649]) (by decide +kernel) (by decide) (Nat.le_of_ble_eq_true rfl) rfl ?_
      refine x_iload (np := 31) (x := 3) (by decide +kernel) rfl (by decide) ?_
      refine x_ifz (k := 0) (tg := 50) (np := 34) (by decide +kernel) (by decide) (by decide) (fun q78 => ?_) (fun q79 => ?_)
      · have q78 : 2147483649 = 2147483648 := q78
        exfalso; omega
      have q79 : ¬ (2147483649 = 2147483648) := q79
      refine x_aload (np := 35) (x := 0) (by decide +kernel) rfl (x_nc_le (tn_3 t1)) ?_
      have q80 : h ((h 0 8) + 3) 1 = ((h 0 8) + 4) := tf_3_1 hJ t1
      refine x_getR (np := 38) (x := 385) (f := 1) (q := ((h 0 8) + 4)) (by decide +kernel) (by decide) (tg_3_385_1_1 t1) q80 ?_
      refine x_iload (np := 39) (x := 1) (by decide +kernel) rfl la1 ?_
      refine x_aload (np := 40) (x := 0) (by decide +kernel) rfl (x_nc_le (tn_3 t1)) ?_
      refine x_getC (np := 43) (x := 384) (f := 0) (q := 2147483652) (by decide +kernel) (by decide) (tg_3_384_0_0 t1) q22 (fun l81 => ?_)
      refine x_imul (np := 44) (x := 0) (i := u30) (j := 4) (v := (2147483648 + 4 * u30)) (by decide +kernel) (by first | decide | omega) (by first | decide | omega) (by first | decide | omega) (by first | decide | omega) la1 (by decide) ?_
      refine x_iload (np := 45) (x := 2) (by decide +kernel) rfl (by decide) ?_
      refine x_iadd (np := 46) (x := 0) (v := (2147483649 + 4 * u30)) (by decide +kernel) (by first | decide | omega) (by decide) (by first | decide | omega) (by first | decide | omega) ?_
      refine x_aldC (np := 47) (x := 0) (n := 40) (i := (1 + 4 * u30)) (q := ((h ((h 0 8) + 4) (1 + 4 * u30)))) (by decide +kernel) (ta_4_40 t1) (by first | decide | omega) (by first | decide | omega) (by decide) rfl (fun l83 => ?_)
      refine x_goto (np := 50) (x := 51) (by decide +kernel) ?_
      refine x_retI (np := 52) (x := 0) (by decide +kernel) l83 (Or.inl (by decide +kernel)) ⟨_, rfl, l83, ?_⟩
      refine x_cP (t := 6) (mj := 5) (n := 3) (rc := 2) (ml := 3) (nr := 0) (np := 67) (as := [x_r 45, iv_c ((h ((h 0 8) + 4) (4 * u30))), iv_c ((h ((h 0 8) + 4) (1 + 4 * u30)))]) (rest := []) (lo1 := [x_r 45, iv_c ((h ((h 0 8) + 4) (4 * u30))), iv_c ((h ((h 0 8) + 4) (1 + 4 * u30)))]) (by decide +kernel) (by decide) (by decide +kernel) (x_rb_of (by decide +kernel)) rfl rfl (x_wr (by decide) (x_wi l34 (x_wi l83 x_wn))) x_wn (by decide) rfl (c5_45 hJ  (by first | decide | omega) (by first | decide | omega)) (fun v84 l85 q86 => ?_)
      refine x_retI (np := 68) (x := 0) (by decide +kernel) l85 (Or.inl (by decide +kernel)) (Or.inl ⟨_, rfl, l85, ?_⟩)
      exact ⟨hJ, hF, (by first | decide | omega)⟩
    have q12 : ¬ (a2 ≤ 2147483650) := q12
    refine x_thrN (is := 238) (text := "a letter has no such number") rfl rfl (List.mem_of_getElem? (i := 9) rfl) (by rw [tb_b124]; decide +kernel) (by rw [tb_b124]; decide +kernel) (by rw [tb_b124]; decide +kernel) (by rw [tb_b124]; decide +kernel) (by rw [tb_b124]; decide +kernel) (by decide +kernel) (Nat.le_trans x_wn (by decide)) (Or.inr ⟨_, rfl, ?_⟩)
    exact ⟨hJ, hF, by decide⟩
  have q8 : ¬ (a1 < (h ((h 0 8) + 3) 2)) := q8
  refine x_thr (np := 15) (x := 2) (by decide +kernel) (by decide +kernel) (Nat.le_trans x_wn (by decide)) (Or.inr ⟨_, rfl, ?_⟩)
  refine Or.inr ⟨_, rfl, ?_⟩
  exact ⟨hJ, hF, by decide⟩
set_option maxHeartbeats 0 in
/-- LentNamesLaw.letter(LLentNames;II[J)I -/
theorem c293_0_97 {sc : Nat × Nat} {d a1 a2 : Nat} {h : xh} (hJ : J h) (ba1 : 0 ≤ a1 ∧ a1 ≤ 4294967295) (ba2 : 0 ≤ a2 ∧ a2 ≤ 4294967295) : X sc 293 (d + 4) (xI fun r h' => J h' ∧ Fr 70368744177664 h h' ∧ (2147483648 ≤ r ∧ r ≤ 2147483650)) 0 0 0 [x_r 0, iv_c a1, iv_c a2, x_r 97, 147573952589676412928] [] h := by
  have la1 : a1 < 4294967296 := by first | decide | omega
  have la2 : a2 < 4294967296 := by first | decide | omega
  have hF := Fr.refl 70368744177664 h
  refine x_aload (np := 1) (x := 3) (by decide +kernel) rfl (x_nc_le (by decide)) ?_
  refine x_const (np := 2) (x := 9223372039002259456) (a := 2147483648) (by decide +kernel) (by decide) (by decide) ?_
  refine x_aload (np := 3) (x := 0) (by decide +kernel) rfl (x_nc_le (by decide)) ?_
  refine x_iload (np := 4) (x := 1) (by decide +kernel) rfl la1 ?_
  refine x_iload (np := 5) (x := 2) (by decide +kernel) rfl la2 ?_
  refine x_cT (t := 6) (mj := 124) (n := 3) (rc := 11) (ml := 5) (cc := 2) (ss := 12) (nr := 2) (np := 8) (as := [x_r 0, iv_c a1, iv_c a2]) (rest := [iv_c 2147483648, x_r 97]) (lo1 := [x_r 0, iv_c a1, iv_c a2, 147573952589676412928, 147573952589676412928]) (by decide +kernel) (by decide) (by decide +kernel) (x_rb_of (by decide +kernel)) rfl rfl (x_wr (by decide) (x_wi la1 (x_wi la2 x_wn))) (x_wi (by decide) (x_wr (by decide) x_wn)) (by decide) rfl (c124_0 hJ  (by first | decide | omega) (by first | decide | omega)) (fun v1 h4 l2 q3 => ?_) (fun E6 h7 q5 => ?_)
  · obtain ⟨j8, f9, b10⟩ := q3
    have f11 := Fr.trans hF f9 (by decide)
    refine x_i2l (np := 9) (x := 0) (by decide +kernel) l2 ?_
    refine x_last (np := 10) (x := 0) (n := 1) (i := 0) (by decide +kernel) (by decide) (by decide +kernel) (by decide +kernel) (by first | decide | omega) (by first | decide | omega) (by decide) l2 ?_
    have j13 := jU (e := 0) (v := v1) 0 j8 rg_97_0_1_1 (by first | decide | omega) (by first | decide | omega) (by first | decide | omega)
    have f15 := jF (e := 0) (v := v1) 0 f11 rg_97_0_1_1 (by first | decide | omega) (by first | decide | omega) (by decide)
    generalize e14 : x_up h4 97 0 v1 = h12 at j13 f15 ⊢
    refine x_goto (np := 13) (x := 21) (by decide +kernel) ?_
    refine x_const (np := 22) (x := 9223372039002259456) (a := 2147483648) (by decide +kernel) (by decide) (by decide) ?_
    refine x_retI (np := 23) (x := 0) (by decide +kernel) (by decide) (Or.inl (by decide +kernel)) ⟨_, rfl, (by decide), ?_⟩
    exact ⟨j13, f15, (by first | decide | omega)⟩
  obtain ⟨j16, f17, e18⟩ := q5
  have f19 := Fr.trans hF f17 (by decide)
  rcases e18 with rfl | rfl
  · refine ⟨13, fun _ _ => rfl, ?_⟩
    refine x_astE (np := 15) (x := 4) (lo' := [x_r 0, iv_c a1, iv_c a2, x_r 97, 55340232221128654850]) (by decide +kernel) (Nat.le_of_ble_eq_true rfl) rfl ?_
    refine x_const (np := 16) (x := 9223372043297226753) (a := 2147483649) (by decide +kernel) (by decide) (by decide) ?_
    refine x_retI (np := 17) (x := 0) (by decide +kernel) (by decide) (Or.inl (by decide +kernel)) ⟨_, rfl, (by decide), ?_⟩
    exact ⟨j16, f19, (by first | decide | omega)⟩
  · refine ⟨17, fun _ _ => rfl, ?_⟩
    refine x_astE (np := 19) (x := 4) (lo' := [x_r 0, iv_c a1, iv_c a2, x_r 97, 55340232221128654850]) (by decide +kernel) (Nat.le_of_ble_eq_true rfl) rfl ?_
    refine x_const (np := 20) (x := 9223372047592194050) (a := 2147483650) (by decide +kernel) (by decide) (by decide) ?_
    refine x_retI (np := 21) (x := 0) (by decide +kernel) (by decide) (Or.inl (by decide +kernel)) ⟨_, rfl, (by decide), ?_⟩
    exact ⟨j16, f19, (by first | decide | omega)⟩
set_option maxHeartbeats 0 in
/-- LentNames.pays(I)I -/
theorem c128_0 {sc : Nat × Nat} {d a1 : Nat} {h : xh} (hJ : J h) (ba1 : 0 ≤ a1 ∧ a1 ≤ 4294967295) : X sc 128 (d + 3) (xT (fun r h' => J h' ∧ Fr 0 h h' ∧ (2147483647 ≤ r ∧ r ≤ 2147483653)) (fun E h' => J h' ∧ Fr 0 h h' ∧ (E = 2))) 0 0 0 [x_r 0, iv_c a1] [] h := by
  have la1 : a1 < 4294967296 := by first | decide | omega
  have hF := Fr.refl 0 h
  refine x_aload (np := 1) (x := 0) (by decide +kernel) rfl (x_nc_le (by decide)) ?_
  have t1 : tw (h 0 8) := hJ.2.1
  refine x_getR (np := 4) (x := 648) (f := 8) (q := (h 0 8)) (by decide +kernel) (by decide) (by decide +kernel) rfl ?_
  have q2 : h (h 0 8) 2 = ((h 0 8) + 5) := tf_0_2 hJ t1
  refine x_getR (np := 7) (x := 514) (f := 2) (q := ((h 0 8) + 5)) (by decide +kernel) (by decide) (tg_0_514_2_1 t1) q2 ?_
  refine x_iload (np := 8) (x := 1) (by decide +kernel) rfl la1 ?_
  refine x_nU (t := 0) (mj := 147) (n := 2) (rc := 0) (ml := 2) (cc := 1) (ss := 6) (nr := 0) (np := 11) (as := [x_r ((h 0 8) + 5), iv_c a1]) (rest := []) (lo1 := [x_r ((h 0 8) + 5), iv_c a1]) (by decide +kernel) (by decide) (by decide +kernel) (by decide +kernel) (Or.inl rfl) rfl rfl (x_wr (tn_5 t1) (x_wi la1 x_wn)) x_wn (by decide) rfl ?_
  refine x_iload (np := 1) (x := 1) (by decide +kernel) rfl la1 ?_
  refine x_ifz (k := 2) (tg := 12) (np := 4) (by decide +kernel) (by decide) la1 (fun q3 => ?_) (fun q4 => ?_)
  · have q3 : a1 < 2147483648 := q3
    refine x_thr (np := 15) (x := 2) (by decide +kernel) (by decide +kernel) (Nat.le_trans x_wn (by decide)) (Or.inr ⟨_, rfl, ?_⟩)
    refine Or.inr ⟨_, rfl, ?_⟩
    exact ⟨hJ, hF, by decide⟩
  have q4 : ¬ (a1 < 2147483648) := q4
  refine x_iload (np := 5) (x := 1) (by decide +kernel) rfl la1 ?_
  refine x_aload (np := 6) (x := 0) (by decide +kernel) rfl (x_nc_le (tn_5 t1)) ?_
  have b5 := jB (e := 2) 0 hJ (rg_T5_2_0_1 t1) (by first | decide | omega) (by first | decide | omega)
  refine x_getC (np := 9) (x := 386) (f := 2) (q := (h ((h 0 8) + 5) 2)) (by decide +kernel) (by decide) (tg_5_386_2_0 t1) rfl (fun l6 => ?_)
  refine x_icmp (k := 2) (tg := 23) (np := 12) (by decide +kernel) (by decide) la1 l6 (fun q7 => ?_) (fun q8 => ?_)
  · have q7 : a1 < (h ((h 0 8) + 5) 2) := q7
    refine x_retV (np := 24) (x := 0) (by decide +kernel) (by decide +kernel) (Or.inl ⟨rfl, ?_⟩)
    refine x_aload (np := 12) (x := 0) (by decide +kernel) rfl (x_nc_le (by decide)) ?_
    have q9 : h 0 1 = 45 := by have z := jB (e := 1) 0 hJ rg_0_1_0_1 (by decide) (by decide); omega
    refine x_getR (np := 15) (x := 641) (f := 1) (q := 45) (by decide +kernel) (by decide) (by decide +kernel) q9 ?_
    refine x_iload (np := 16) (x := 1) (by decide +kernel) rfl la1 ?_
    refine x_cP (t := 6) (mj := 12) (n := 2) (rc := 2) (ml := 4) (nr := 0) (np := 19) (as := [x_r 45, iv_c a1]) (rest := []) (lo1 := [x_r 45, iv_c a1, 147573952589676412928, 147573952589676412928]) (by decide +kernel) (by decide) (by decide +kernel) (x_rb_of (by decide +kernel)) rfl rfl (x_wr (by decide) (x_wi la1 x_wn)) x_wn (by decide) rfl (c12_45 hJ  (by first | decide | omega)) (fun v10 l11 q12 => ?_)
    refine x_retI (np := 20) (x := 0) (by decide +kernel) l11 (Or.inl (by decide +kernel)) (Or.inl ⟨_, rfl, l11, ?_⟩)
    exact ⟨hJ, hF, (by first | decide | omega)⟩
  have q8 : ¬ (a1 < (h ((h 0 8) + 5) 2)) := q8
  refine x_thr (np := 15) (x := 2) (by decide +kernel) (by decide +kernel) (Nat.le_trans x_wn (by decide)) (Or.inr ⟨_, rfl, ?_⟩)
  refine Or.inr ⟨_, rfl, ?_⟩
  exact ⟨hJ, hF, by decide⟩
set_option maxHeartbeats 0 in
/-- LentNamesLaw.pays(LLentNames;I[J)I -/
theorem c294_0_97 {sc : Nat × Nat} {d a1 : Nat} {h : xh} (hJ : J h) (ba1 : 0 ≤ a1 ∧ a1 ≤ 4294967295) : X sc 294 (d + 4) (xI fun r h' => J h' ∧ Fr 70368744177664 h h' ∧ (2147483648 ≤ r ∧ r ≤ 2147483649)) 0 0 0 [x_r 0, iv_c a1, x_r 97, 147573952589676412928] [] h := by
  have la1 : a1 < 4294967296 := by first | decide | omega
  have hF := Fr.refl 70368744177664 h
  refine x_aload (np := 1) (x := 2) (by decide +kernel) rfl (x_nc_le (by decide)) ?_
  refine x_const (np := 2) (x := 9223372039002259456) (a := 2147483648) (by decide +kernel) (by decide) (by decide) ?_
  refine x_aload (np := 3) (x := 0) (by decide +kernel) rfl (x_nc_le (by decide)) ?_
  refine x_iload (np := 4) (x := 1) (by decide +kernel) rfl la1 ?_
  refine x_cT (t := 6) (mj := 128) (n := 2) (rc := 11) (ml := 2) (cc := 1) (ss := 6) (nr := 2) (np := 7) (as := [x_r 0, iv_c a1]) (rest := [iv_c 2147483648, x_r 97]) (lo1 := [x_r 0, iv_c a1]) (by decide +kernel) (by decide) (by decide +kernel) (x_rb_of (by decide +kernel)) rfl rfl (x_wr (by decide) (x_wi la1 x_wn)) (x_wi (by decide) (x_wr (by decide) x_wn)) (by decide) rfl (c128_0 hJ  (by first | decide | omega)) (fun v1 h4 l2 q3 => ?_) (fun E6 h7 q5 => ?_)
  · obtain ⟨j8, f9, b10⟩ := q3
    have f11 := Fr.trans hF f9 (by decide)
    refine x_i2l (np := 8) (x := 0) (by decide +kernel) l2 ?_
    refine x_last (np := 9) (x := 0) (n := 1) (i := 0) (by decide +kernel) (by decide) (by decide +kernel) (by decide +kernel) (by first | decide | omega) (by first | decide | omega) (by decide) l2 ?_
    have j13 := jU (e := 0) (v := v1) 0 j8 rg_97_0_1_1 (by first | decide | omega) (by first | decide | omega) (by first | decide | omega)
    have f15 := jF (e := 0) (v := v1) 0 f11 rg_97_0_1_1 (by first | decide | omega) (by first | decide | omega) (by decide)
    generalize e14 : x_up h4 97 0 v1 = h12 at j13 f15 ⊢
    refine x_goto (np := 12) (x := 15) (by decide +kernel) ?_
    refine x_const (np := 16) (x := 9223372039002259456) (a := 2147483648) (by decide +kernel) (by decide) (by decide) ?_
    refine x_retI (np := 17) (x := 0) (by decide +kernel) (by decide) (Or.inl (by decide +kernel)) ⟨_, rfl, (by decide), ?_⟩
    exact ⟨j13, f15, (by first | decide | omega)⟩
  obtain ⟨j16, f17, e18⟩ := q5
  have f19 := Fr.trans hF f17 (by decide)
  rcases e18 with rfl
  · refine ⟨12, fun _ _ => rfl, ?_⟩
    refine x_astE (np := 13) (x := 3) (lo' := [x_r 0, iv_c a1, x_r 97, 55340232221128654850]) (by decide +kernel) (Nat.le_of_ble_eq_true rfl) rfl ?_
    refine x_const (np := 14) (x := 9223372043297226753) (a := 2147483649) (by decide +kernel) (by decide) (by decide) ?_
    refine x_retI (np := 15) (x := 0) (by decide +kernel) (by decide) (Or.inl (by decide +kernel)) ⟨_, rfl, (by decide), ?_⟩
    exact ⟨j16, f19, (by first | decide | omega)⟩
set_option maxHeartbeats 0 in
/-- LentNames.bill(I)I -/
theorem c129_0 {sc : Nat × Nat} {d a1 : Nat} {h : xh} (hJ : J h) (ba1 : 0 ≤ a1 ∧ a1 ≤ 4294967295) : X sc 129 (d + 3) (xT (fun r h' => J h' ∧ Fr 0 h h' ∧ (0 ≤ r ∧ r ≤ 4294967295)) (fun E h' => J h' ∧ Fr 0 h h' ∧ (E = 2))) 0 0 0 [x_r 0, iv_c a1, 147573952589676412928, 147573952589676412928] [] h := by
  have la1 : a1 < 4294967296 := by first | decide | omega
  have hF := Fr.refl 0 h
  refine x_aload (np := 1) (x := 0) (by decide +kernel) rfl (x_nc_le (by decide)) ?_
  refine x_iload (np := 2) (x := 1) (by decide +kernel) rfl la1 ?_
  refine x_nU (t := 6) (mj := 145) (n := 2) (rc := 11) (ml := 2) (cc := 1) (ss := 6) (nr := 0) (np := 5) (as := [x_r 0, iv_c a1]) (rest := []) (lo1 := [x_r 0, iv_c a1]) (by decide +kernel) (by decide) (by decide +kernel) (by decide +kernel) (x_rb_of (by decide +kernel)) rfl rfl (x_wr (by decide) (x_wi la1 x_wn)) x_wn (by decide) rfl ?_
  refine x_iload (np := 1) (x := 1) (by decide +kernel) rfl la1 ?_
  refine x_ifz (k := 2) (tg := 15) (np := 4) (by decide +kernel) (by decide) la1 (fun q1 => ?_) (fun q2 => ?_)
  · have q1 : a1 < 2147483648 := q1
    refine x_thr (np := 18) (x := 2) (by decide +kernel) (by decide +kernel) (Nat.le_trans x_wn (by decide)) (Or.inr ⟨_, rfl, ?_⟩)
    refine Or.inr ⟨_, rfl, ?_⟩
    exact ⟨hJ, hF, by decide⟩
  have q2 : ¬ (a1 < 2147483648) := q2
  refine x_iload (np := 5) (x := 1) (by decide +kernel) rfl la1 ?_
  refine x_aload (np := 6) (x := 0) (by decide +kernel) rfl (x_nc_le (by decide)) ?_
  have t3 : tw (h 0 8) := hJ.2.1
  refine x_getR (np := 9) (x := 648) (f := 8) (q := (h 0 8)) (by decide +kernel) (by decide) (by decide +kernel) rfl ?_
  have b4 := jB (e := 7) 0 hJ (rg_T0_7_0_1 t3) (by first | decide | omega) (by first | decide | omega)
  refine x_getC (np := 12) (x := 519) (f := 7) (q := (h (h 0 8) 7)) (by decide +kernel) (by decide) (tg_0_519_7_0 t3) rfl (fun l5 => ?_)
  refine x_icmp (k := 2) (tg := 26) (np := 15) (by decide +kernel) (by decide) la1 l5 (fun q6 => ?_) (fun q7 => ?_)
  · have q6 : a1 < (h (h 0 8) 7) := q6
    refine x_retV (np := 27) (x := 0) (by decide +kernel) (by decide +kernel) (Or.inl ⟨rfl, ?_⟩)
    refine x_const (np := 6) (x := 9223372039002259456) (a := 2147483648) (by decide +kernel) (by decide) (by decide) ?_
    refine x_istore (np := 7) (x := 2) (lo' := [x_r 0, iv_c a1, iv_c 2147483648, 147573952589676412928]) (by decide +kernel) (by decide) (Nat.le_of_ble_eq_true rfl) rfl ?_
    refine x_const (np := 8) (x := 9223372039002259456) (a := 2147483648) (by decide +kernel) (by decide) (by decide) ?_
    refine x_istore (np := 9) (x := 3) (lo' := [x_r 0, iv_c a1, iv_c 2147483648, iv_c 2147483648]) (by decide +kernel) (by decide) (Nat.le_of_ble_eq_true rfl) rfl ?_
    have p354 : ∀ (n : Nat) (v350 : Nat) (v352 : Nat), 4294967296 - v352 < n → (0 ≤ v350 ∧ v350 ≤ 4294967295) → (2147483648 ≤ v352 ∧ v352 ≤ 2147483658) → X sc 129 (d + 3) (xT (fun r h' => J h' ∧ Fr 0 h h' ∧ (0 ≤ r ∧ r ≤ 4294967295)) (fun E h' => J h' ∧ Fr 0 h h' ∧ (E = 2))) 1 6 9 [x_r 0, iv_c a1, iv_c v350, iv_c v352] [] h := by
      intro n
      induction n with
      | zero => intro v350 v352 q355; exact absurd q355 (Nat.not_lt_zero _)
      | succ n i356 =>
        intro v350 v352 q355 b351 b353
        refine x_iload (np := 10) (x := 3) (by decide +kernel) rfl (by first | decide | omega) ?_
        refine x_aload (np := 11) (x := 0) (by decide +kernel) rfl (x_nc_le (by decide)) ?_
        refine x_getR (np := 14) (x := 648) (f := 8) (q := (h 0 8)) (by decide +kernel) (by decide) (by decide +kernel) rfl ?_
        have q357 : h (h 0 8) 2 = ((h 0 8) + 5) := tf_0_2 hJ t3
        refine x_getR (np := 17) (x := 514) (f := 2) (q := ((h 0 8) + 5)) (by decide +kernel) (by decide) (tg_0_514_2_1 t3) q357 ?_
        have b358 := jB (e := 2) 0 hJ (rg_T5_2_0_1 t3) (by first | decide | omega) (by first | decide | omega)
        refine x_getC (np := 20) (x := 386) (f := 2) (q := (h ((h 0 8) + 5) 2)) (by decide +kernel) (by decide) (tg_5_386_2_0 t3) rfl (fun l359 => ?_)
        refine x_icmp (k := 3) (tg := 56) (np := 23) (by decide +kernel) (by decide) (by first | decide | omega) l359 (fun q360 => ?_) (fun q361 => ?_)
        · have q360 : (h ((h 0 8) + 5) 2) ≤ v352 := q360
          refine x_iload (np := 57) (x := 2) (by decide +kernel) rfl (by first | decide | omega) ?_
          refine x_retI (np := 58) (x := 0) (by decide +kernel) (by first | decide | omega) (Or.inl (by decide +kernel)) (Or.inl ⟨_, rfl, (by first | decide | omega), ?_⟩)
          exact ⟨hJ, hF, (by first | decide | omega)⟩
        have q361 : ¬ ((h ((h 0 8) + 5) 2) ≤ v352) := q361
        refine x_aload (np := 24) (x := 0) (by decide +kernel) rfl (x_nc_le (by decide)) ?_
        have q362 : h 0 1 = 45 := by have z := jB (e := 1) 0 hJ rg_0_1_0_1 (by decide) (by decide); omega
        refine x_getR (np := 27) (x := 641) (f := 1) (q := 45) (by decide +kernel) (by decide) (by decide +kernel) q362 ?_
        refine x_iload (np := 28) (x := 3) (by decide +kernel) rfl (by first | decide | omega) ?_
        refine x_cP (t := 6) (mj := 12) (n := 2) (rc := 2) (ml := 4) (nr := 0) (np := 31) (as := [x_r 45, iv_c v352]) (rest := []) (lo1 := [x_r 45, iv_c v352, 147573952589676412928, 147573952589676412928]) (by decide +kernel) (by decide) (by decide +kernel) (x_rb_of (by decide +kernel)) rfl rfl (x_wr (by decide) (x_wi (by first | decide | omega) x_wn)) x_wn (by decide) rfl (c12_45 hJ  (by first | decide | omega)) (fun v363 l364 q365 => ?_)
        refine x_iload (np := 32) (x := 1) (by decide +kernel) rfl la1 ?_
        refine x_icmp (k := 1) (tg := 50) (np := 35) (by decide +kernel) (by decide) l364 la1 (fun q366 => ?_) (fun q367 => ?_)
        · have q366 : v363 ≠ a1 := q366
          refine x_iinc (np := 53) (i := 3) (j := 2147483649) (v := (1 + v352)) (lo' := [x_r 0, iv_c a1, iv_c v350, iv_c (1 + v352)]) (by decide +kernel) (by decide) (by decide) rfl (by first | decide | omega) (by first | decide | omega) (by first | decide | omega) rfl ?_
          refine x_goto (np := 56) (x := 9) (by decide +kernel) ?_
          exact i356 v350 (1 + v352) (by first | decide | omega) (by first | decide | omega) (by first | decide | omega)
        have q367 : ¬ (v363 ≠ a1) := q367
        refine x_iload (np := 36) (x := 2) (by decide +kernel) rfl (by first | decide | omega) ?_
        refine x_aload (np := 37) (x := 0) (by decide +kernel) rfl (x_nc_le (by decide)) ?_
        refine x_getR (np := 40) (x := 648) (f := 8) (q := (h 0 8)) (by decide +kernel) (by decide) (by decide +kernel) rfl ?_
        have q368 : h (h 0 8) 2 = ((h 0 8) + 5) := tf_0_2 hJ t3
        refine x_getR (np := 43) (x := 514) (f := 2) (q := ((h 0 8) + 5)) (by decide +kernel) (by decide) (tg_0_514_2_1 t3) q368 ?_
        refine x_iload (np := 44) (x := 3) (by decide +kernel) rfl (by first | decide | omega) ?_
        refine x_const (np := 45) (x := 9223372051887161347) (a := 2147483651) (by decide +kernel) (by decide) (by decide) ?_
        refine x_nI (t := 6) (mj := 68) (n := 3) (rc := 7) (ml := 4) (nr := 1) (np := 48) (as := [x_r ((h 0 8) + 5), iv_c v352, iv_c 2147483651]) (rest := [iv_c v350]) (lo1 := [x_r ((h 0 8) + 5), iv_c v352, iv_c 2147483651, 147573952589676412928]) (by decide +kernel) (by decide) (by decide +kernel) (x_rb_of (tr_5_7 t3)) rfl rfl (x_wr (tn_5 t3) (x_wi (by first | decide | omega) (x_wi (by decide) x_wn))) (x_wi (by first | decide | omega) x_wn) (by decide) rfl ?_
        refine x_iload (np := 1) (x := 1) (by decide +kernel) rfl (by first | decide | omega) ?_
        refine x_ifz (k := 2) (tg := 28) (np := 4) (by decide +kernel) (by decide) (by first | decide | omega) (fun q369 => ?_) (fun q370 => ?_)
        · have q369 : v352 < 2147483648 := q369
          exfalso; omega
        have q370 : ¬ (v352 < 2147483648) := q370
        refine x_iload (np := 5) (x := 1) (by decide +kernel) rfl (by first | decide | omega) ?_
        refine x_aload (np := 6) (x := 0) (by decide +kernel) rfl (x_nc_le (tn_5 t3)) ?_
        refine x_getC (np := 9) (x := 386) (f := 2) (q := (h ((h 0 8) + 5) 2)) (by decide +kernel) (by decide) (tg_5_386_2_0 t3) rfl (fun l371 => ?_)
        refine x_icmp (k := 3) (tg := 28) (np := 12) (by decide +kernel) (by decide) (by first | decide | omega) l359 (fun q372 => ?_) (fun q373 => ?_)
        · have q372 : (h ((h 0 8) + 5) 2) ≤ v352 := q372
          exfalso; omega
        have q373 : ¬ ((h ((h 0 8) + 5) 2) ≤ v352) := q373
        refine x_iload (np := 13) (x := 2) (by decide +kernel) rfl (by decide) ?_
        refine x_ifz (k := 2) (tg := 28) (np := 16) (by decide +kernel) (by decide) (by decide) (fun q374 => ?_) (fun q375 => ?_)
        · have q374 : 2147483651 < 2147483648 := q374
          exfalso; omega
        have q375 : ¬ (2147483651 < 2147483648) := q375
        refine x_iload (np := 17) (x := 2) (by decide +kernel) rfl (by decide) ?_
        refine x_aload (np := 18) (x := 0) (by decide +kernel) rfl (x_nc_le (tn_5 t3)) ?_
        have b376 := jB (e := 0) 0 hJ (rg_T5_0_0_1 t3) (by first | decide | omega) (by first | decide | omega)
        have q377 : (h ((h 0 8) + 5) 0) = 2147483652 := by first | decide | omega
        refine x_getC (np := 21) (x := 384) (f := 0) (q := 2147483652) (by decide +kernel) (by decide) (tg_5_384_0_0 t3) q377 (fun l378 => ?_)
        refine x_icmp (k := 3) (tg := 28) (np := 24) (by decide +kernel) (by decide) (by decide) (by decide) (fun q379 => ?_) (fun q380 => ?_)
        · have q379 : 2147483652 ≤ 2147483651 := q379
          exfalso; omega
        have q380 : ¬ (2147483652 ≤ 2147483651) := q380
        refine x_const (np := 25) (x := 9223372043297226753) (a := 2147483649) (by decide +kernel) (by decide) (by decide) ?_
        refine x_goto (np := 28) (x := 29) (by decide +kernel) ?_
        refine x_istore (np := 30) (x := 3) (lo' := [x_r ((h 0 8) + 5), iv_c v352, iv_c 2147483651, iv_c 2147483649]) (by decide +kernel) (by decide) (Nat.le_of_ble_eq_true rfl) rfl ?_
        refine x_iload (np := 31) (x := 3) (by decide +kernel) rfl (by decide) ?_
        refine x_ifz (k := 0) (tg := 50) (np := 34) (by decide +kernel) (by decide) (by decide) (fun q381 => ?_) (fun q382 => ?_)
        · have q381 : 2147483649 = 2147483648 := q381
          exfalso; omega
        have q382 : ¬ (2147483649 = 2147483648) := q382
        refine x_aload (np := 35) (x := 0) (by decide +kernel) rfl (x_nc_le (tn_5 t3)) ?_
        have q383 : h ((h 0 8) + 5) 1 = ((h 0 8) + 6) := tf_5_1 hJ t3
        refine x_getR (np := 38) (x := 385) (f := 1) (q := ((h 0 8) + 6)) (by decide +kernel) (by decide) (tg_5_385_1_1 t3) q383 ?_
        refine x_iload (np := 39) (x := 1) (by decide +kernel) rfl (by first | decide | omega) ?_
        refine x_aload (np := 40) (x := 0) (by decide +kernel) rfl (x_nc_le (tn_5 t3)) ?_
        refine x_getC (np := 43) (x := 384) (f := 0) (q := 2147483652) (by decide +kernel) (by decide) (tg_5_384_0_0 t3) q377 (fun l384 => ?_)
        obtain ⟨u385, q386⟩ : ∃ z, v352 = 2147483648 + z := ⟨v352 - 2147483648, by first | decide | omega⟩
        refine x_imul (np := 44) (x := 0) (i := u385) (j := 4) (v := (2147483648 + 4 * u385)) (by decide +kernel) (by first | decide | omega) (by first | decide | omega) (by first | decide | omega) (by first | decide | omega) (by first | decide | omega) (by decide) ?_
        refine x_iload (np := 45) (x := 2) (by decide +kernel) rfl (by decide) ?_
        refine x_iadd (np := 46) (x := 0) (v := (2147483651 + 4 * u385)) (by decide +kernel) (by first | decide | omega) (by decide) (by first | decide | omega) (by first | decide | omega) ?_
        refine x_aldC (np := 47) (x := 0) (n := 40) (i := (3 + 4 * u385)) (q := ((h ((h 0 8) + 6) (3 + 4 * u385)))) (by decide +kernel) (ta_6_40 t3) (by first | decide | omega) (by first | decide | omega) (by decide) rfl (fun l388 => ?_)
        refine x_goto (np := 50) (x := 51) (by decide +kernel) ?_
        refine x_retI (np := 52) (x := 0) (by decide +kernel) l388 (Or.inl (by decide +kernel)) ⟨_, rfl, l388, ?_⟩
        refine x_addA (by rw [tb_b129]; decide +kernel) (by first | decide | omega) l388 (fun v389 l390 => ?_)
        refine x_istore (np := 50) (x := 2) (lo' := [x_r 0, iv_c a1, iv_c v389, iv_c v352]) (by decide +kernel) l390 (Nat.le_of_ble_eq_true rfl) rfl ?_
        refine x_iinc (np := 53) (i := 3) (j := 2147483649) (v := (1 + v352)) (lo' := [x_r 0, iv_c a1, iv_c v389, iv_c (1 + v352)]) (by decide +kernel) (by decide) (by decide) rfl (by first | decide | omega) (by first | decide | omega) (by first | decide | omega) rfl ?_
        refine x_goto (np := 56) (x := 9) (by decide +kernel) ?_
        exact i356 v389 (1 + v352) (by first | decide | omega) (by first | decide | omega) (by first | decide | omega)
    exact p354 _ 2147483648 2147483648 (Nat.lt_succ_self _) (by first | decide | omega) (by first | decide | omega)
  have q7 : ¬ (a1 < (h (h 0 8) 7)) := q7
  refine x_thr (np := 18) (x := 2) (by decide +kernel) (by decide +kernel) (Nat.le_trans x_wn (by decide)) (Or.inr ⟨_, rfl, ?_⟩)
  refine Or.inr ⟨_, rfl, ?_⟩
  exact ⟨hJ, hF, by decide⟩
set_option maxHeartbeats 0 in
/-- LentNamesLaw.bill(LLentNames;I[J)I -/
theorem c295_0_97 {sc : Nat × Nat} {d a1 : Nat} {h : xh} (hJ : J h) (ba1 : 0 ≤ a1 ∧ a1 ≤ 4294967295) : X sc 295 (d + 4) (xI fun r h' => J h' ∧ Fr 70368744177664 h h' ∧ (2147483648 ≤ r ∧ r ≤ 2147483649)) 0 0 0 [x_r 0, iv_c a1, x_r 97, 147573952589676412928] [] h := by
  have la1 : a1 < 4294967296 := by first | decide | omega
  have hF := Fr.refl 70368744177664 h
  refine x_aload (np := 1) (x := 2) (by decide +kernel) rfl (x_nc_le (by decide)) ?_
  refine x_const (np := 2) (x := 9223372039002259456) (a := 2147483648) (by decide +kernel) (by decide) (by decide) ?_
  refine x_aload (np := 3) (x := 0) (by decide +kernel) rfl (x_nc_le (by decide)) ?_
  refine x_iload (np := 4) (x := 1) (by decide +kernel) rfl la1 ?_
  refine x_cT (t := 6) (mj := 129) (n := 2) (rc := 11) (ml := 4) (cc := 1) (ss := 6) (nr := 2) (np := 7) (as := [x_r 0, iv_c a1]) (rest := [iv_c 2147483648, x_r 97]) (lo1 := [x_r 0, iv_c a1, 147573952589676412928, 147573952589676412928]) (by decide +kernel) (by decide) (by decide +kernel) (x_rb_of (by decide +kernel)) rfl rfl (x_wr (by decide) (x_wi la1 x_wn)) (x_wi (by decide) (x_wr (by decide) x_wn)) (by decide) rfl (c129_0 hJ  (by first | decide | omega)) (fun v1 h4 l2 q3 => ?_) (fun E6 h7 q5 => ?_)
  · obtain ⟨j8, f9, b10⟩ := q3
    have f11 := Fr.trans hF f9 (by decide)
    refine x_i2l (np := 8) (x := 0) (by decide +kernel) l2 ?_
    refine x_last (np := 9) (x := 0) (n := 1) (i := 0) (by decide +kernel) (by decide) (by decide +kernel) (by decide +kernel) (by first | decide | omega) (by first | decide | omega) (by decide) l2 ?_
    have j13 := jU (e := 0) (v := v1) 0 j8 rg_97_0_1_1 (by first | decide | omega) (by first | decide | omega) (by first | decide | omega)
    have f15 := jF (e := 0) (v := v1) 0 f11 rg_97_0_1_1 (by first | decide | omega) (by first | decide | omega) (by decide)
    generalize e14 : x_up h4 97 0 v1 = h12 at j13 f15 ⊢
    refine x_goto (np := 12) (x := 15) (by decide +kernel) ?_
    refine x_const (np := 16) (x := 9223372039002259456) (a := 2147483648) (by decide +kernel) (by decide) (by decide) ?_
    refine x_retI (np := 17) (x := 0) (by decide +kernel) (by decide) (Or.inl (by decide +kernel)) ⟨_, rfl, (by decide), ?_⟩
    exact ⟨j13, f15, (by first | decide | omega)⟩
  obtain ⟨j16, f17, e18⟩ := q5
  have f19 := Fr.trans hF f17 (by decide)
  rcases e18 with rfl
  · refine ⟨12, fun _ _ => rfl, ?_⟩
    refine x_astE (np := 13) (x := 3) (lo' := [x_r 0, iv_c a1, x_r 97, 55340232221128654850]) (by decide +kernel) (Nat.le_of_ble_eq_true rfl) rfl ?_
    refine x_const (np := 14) (x := 9223372043297226753) (a := 2147483649) (by decide +kernel) (by decide) (by decide) ?_
    refine x_retI (np := 15) (x := 0) (by decide +kernel) (by decide) (Or.inl (by decide +kernel)) ⟨_, rfl, (by decide), ?_⟩
    exact ⟨j16, f19, (by first | decide | omega)⟩
set_option maxHeartbeats 0 in
/-- LentNames$CustomReader.readPart()Z -/
theorem c50_62 {sc : Nat × Nat} {d  : Nat} {h : xh} {tB : Nat → Nat} {tN : Nat} (hJ : J h) (hr0 : (cl9 h) + 5 ≤ (h 1 2)) (hT : Tp tB tN h) : X sc 50 (d + 6) (xI fun r h' => J h' ∧ Fr 161 h h' ∧ (2147483648 ≤ r ∧ r ≤ 2147483649) ∧ (r = 2147483649 → h 1 2 + 1 ≤ h' 1 2) ∧ (r = 2147483649 → cl9 h' + h 1 2 ≤ h' 1 2 + cl9 h) ∧ (∀ l, G tB tN Kd.part l (h 1 2) (rs r (h' 1 2))) ∧ (r = 2147483648 → ∀ l, GF tB tN Kd.part l (h 1 2) (h' 1 2))) 0 0 0 [x_r 62, 147573952589676412928, 147573952589676412928] [] h := by
  have hF := Fr.refl 161 h
  obtain ⟨r1, q2, t3⟩ : ∃ z, (h 62 1) = z + 11 ∧ tw z := by
    rcases hJ.2.2.2.2.2.2.2 with z | z
    · exact ⟨17, by rw [z], Or.inl rfl⟩
    · exact ⟨31, by rw [z], Or.inr rfl⟩
  have b4 := jB (e := 2) 0 hJ (rg_T11_2_0_1 t3) (by first | decide | omega) (by first | decide | omega)
  have e5 : cl9 h = (h (r1 + 11) 2) := (congrArg (fun z => h z 2) q2).trans rfl
  have b6 := jB (e := 2) 0 hJ rg_1_2_0_1 (by first | decide | omega) (by first | decide | omega)
  refine x_aload (np := 1) (x := 0) (by decide +kernel) rfl (x_nc_le (by decide)) ?_
  have q7 : h 62 0 = 1 := by have z := jB (e := 0) 0 hJ rg_62_0_0_1 (by decide) (by decide); omega
  refine x_getR (np := 4) (x := 192) (f := 0) (q := 1) (by decide +kernel) (by decide) (by decide +kernel) q7 ?_
  refine x_const (np := 5) (x := 9223372039002259456) (a := 2147483648) (by decide +kernel) (by decide) (by decide) ?_
  refine x_const (np := 8) (x := 9223376329674589159) (a := 2147484647) (by decide +kernel) (by decide) (by decide) ?_
  refine x_cI (t := 6) (mj := 79) (n := 3) (rc := 8) (ml := 5) (nr := 0) (np := 11) (as := [x_r 1, iv_c 2147483648, iv_c 2147484647]) (rest := []) (lo1 := [x_r 1, iv_c 2147483648, iv_c 2147484647, 147573952589676412928, 147573952589676412928]) (by decide +kernel) (by decide) (by decide +kernel) (x_rb_of (by decide +kernel)) rfl rfl (x_wr (by decide) (x_wi (by decide) (x_wi (by decide) x_wn))) x_wn (by decide) rfl (c79_1_c0 hJ   (by first | decide | omega) hT) (fun v8 h11 l9 q10 => ?_)
  obtain ⟨j12, f13, b14, c15, c16, c17, c18⟩ := q10
  have f19 := Fr.trans hF f13 (by decide)
  have b20 := jB (e := 2) 0 j12 rg_1_2_0_1 (by first | decide | omega) (by first | decide | omega)
  refine x_istore (np := 12) (x := 1) (lo' := [x_r 62, iv_c v8, 147573952589676412928]) (by decide +kernel) l9 (Nat.le_of_ble_eq_true rfl) rfl ?_
  refine x_iload (np := 13) (x := 1) (by decide +kernel) rfl l9 ?_
  refine x_const (np := 14) (x := 9223372034707292159) (a := 2147483647) (by decide +kernel) (by decide) (by decide) ?_
  refine x_icmp (k := 0) (tg := 26) (np := 17) (by decide +kernel) (by decide) l9 (by decide) (fun q21 => ?_) (fun q22 => ?_)
  · have q21 : v8 = 2147483647 := q21
    have b23 := c17 (by first | decide | omega)
    refine x_const (np := 27) (x := 9223372039002259456) (a := 2147483648) (by decide +kernel) (by decide) (by decide) ?_
    refine x_istore (np := 28) (x := 2) (lo' := [x_r 62, iv_c v8, iv_c 2147483648]) (by decide +kernel) (by decide) (Nat.le_of_ble_eq_true rfl) rfl ?_
    refine x_iload (np := 29) (x := 2) (by decide +kernel) rfl (by decide) ?_
    refine x_const (np := 30) (x := 9223372060477095941) (a := 2147483653) (by decide +kernel) (by decide) (by decide) ?_
    refine x_icmp (k := 4) (tg := 66) (np := 33) (by decide +kernel) (by decide) (by decide) (by decide) (fun q24 => ?_) (fun q25 => ?_)
    · have q24 : 2147483653 < 2147483648 := q24
      exfalso; omega
    have q25 : ¬ (2147483653 < 2147483648) := q25
    refine x_aload (np := 34) (x := 0) (by decide +kernel) rfl (x_nc_le (by decide)) ?_
    have q26 : h11 62 0 = 1 := by have z := jB (e := 0) 0 j12 rg_62_0_0_1 (by decide) (by decide); omega
    refine x_getR (np := 37) (x := 192) (f := 0) (q := 1) (by decide +kernel) (by decide) (by decide +kernel) q26 ?_
    refine x_iload (np := 38) (x := 2) (by decide +kernel) rfl (by decide) ?_
    refine x_cS1 (t := 0) (mj := 51) (n := 1) (rc := 0) (ml := 1) (nr := 1) (np := 41) (as := [iv_c 2147483648]) (rest := [x_r 1]) (lo1 := [iv_c 2147483648]) (by decide +kernel) (by decide) (by decide +kernel) (Or.inl rfl) rfl rfl (x_wi (by decide) x_wn) (x_wr (by decide) x_wn) (by decide) rfl c51_0 (by decide) ?_
    have m32 := Tp.fr hT f13 (by decide) (by decide)
    refine x_cI (t := 6) (mj := 78) (n := 2) (rc := 8) (ml := 2) (nr := 0) (np := 44) (as := [x_r 1, x_b (2 + 1)]) (rest := []) (lo1 := [x_r 1, x_b (2 + 1)]) (by decide +kernel) (by decide) (by decide +kernel) (x_rb_of (by decide +kernel)) rfl rfl (x_wr (by decide) (x_wB (by decide) x_wn)) x_wn (by decide) rfl (c78_1_S0 j12  (by decide) m32) (fun v29 h33 l30 q31 => ?_)
    obtain ⟨j34, f35, b36, c37, c38, c39⟩ := q31
    have f40 := Fr.trans f19 f35 (by decide)
    have b41 := jB (e := 2) 0 j34 rg_1_2_0_1 (by first | decide | omega) (by first | decide | omega)
    have b42 : iv_tl 2 = 3 := by decide
    refine x_ifz (k := 0) (tg := 60) (np := 47) (by decide +kernel) (by decide) l30 (fun q43 => ?_) (fun q44 => ?_)
    · have q43 : v29 = 2147483648 := q43
      have b45 := c38 (by first | decide | omega)
      refine x_iinc (np := 63) (i := 2) (j := 2147483649) (v := 2147483649) (lo' := [x_r 62, iv_c v8, iv_c 2147483649]) (by decide +kernel) (by decide) (by decide) rfl (by decide) (by first | decide | omega) (by first | decide | omega) rfl ?_
      refine x_goto (np := 66) (x := 28) (by decide +kernel) ?_
      refine x_iload (np := 29) (x := 2) (by decide +kernel) rfl (by decide) ?_
      refine x_const (np := 30) (x := 9223372060477095941) (a := 2147483653) (by decide +kernel) (by decide) (by decide) ?_
      refine x_icmp (k := 4) (tg := 66) (np := 33) (by decide +kernel) (by decide) (by decide) (by decide) (fun q46 => ?_) (fun q47 => ?_)
      · have q46 : 2147483653 < 2147483649 := q46
        exfalso; omega
      have q47 : ¬ (2147483653 < 2147483649) := q47
      refine x_aload (np := 34) (x := 0) (by decide +kernel) rfl (x_nc_le (by decide)) ?_
      have q48 : h33 62 0 = 1 := by have z := jB (e := 0) 0 j34 rg_62_0_0_1 (by decide) (by decide); omega
      refine x_getR (np := 37) (x := 192) (f := 0) (q := 1) (by decide +kernel) (by decide) (by decide +kernel) q48 ?_
      refine x_iload (np := 38) (x := 2) (by decide +kernel) rfl (by decide) ?_
      refine x_cS1 (t := 0) (mj := 51) (n := 1) (rc := 0) (ml := 1) (nr := 1) (np := 41) (as := [iv_c 2147483649]) (rest := [x_r 1]) (lo1 := [iv_c 2147483649]) (by decide +kernel) (by decide) (by decide +kernel) (Or.inl rfl) rfl rfl (x_wi (by decide) x_wn) (x_wr (by decide) x_wn) (by decide) rfl c51_1 (by decide) ?_
      have m54 := Tp.fr m32 f35 (by decide) (by decide)
      refine x_cI (t := 6) (mj := 78) (n := 2) (rc := 8) (ml := 2) (nr := 0) (np := 44) (as := [x_r 1, x_b (27 + 1)]) (rest := []) (lo1 := [x_r 1, x_b (27 + 1)]) (by decide +kernel) (by decide) (by decide +kernel) (x_rb_of (by decide +kernel)) rfl rfl (x_wr (by decide) (x_wB (by decide) x_wn)) x_wn (by decide) rfl (c78_1_S0 j34  (by decide) m54) (fun v51 h55 l52 q53 => ?_)
      obtain ⟨j56, f57, b58, c59, c60, c61⟩ := q53
      have f62 := Fr.trans f40 f57 (by decide)
      have b63 := jB (e := 2) 0 j56 rg_1_2_0_1 (by first | decide | omega) (by first | decide | omega)
      have b64 : iv_tl 27 = 4 := by decide
      refine x_ifz (k := 0) (tg := 60) (np := 47) (by decide +kernel) (by decide) l52 (fun q65 => ?_) (fun q66 => ?_)
      · have q65 : v51 = 2147483648 := q65
        have b67 := c60 (by first | decide | omega)
        refine x_iinc (np := 63) (i := 2) (j := 2147483649) (v := 2147483650) (lo' := [x_r 62, iv_c v8, iv_c 2147483650]) (by decide +kernel) (by decide) (by decide) rfl (by decide) (by first | decide | omega) (by first | decide | omega) rfl ?_
        refine x_goto (np := 66) (x := 28) (by decide +kernel) ?_
        refine x_iload (np := 29) (x := 2) (by decide +kernel) rfl (by decide) ?_
        refine x_const (np := 30) (x := 9223372060477095941) (a := 2147483653) (by decide +kernel) (by decide) (by decide) ?_
        refine x_icmp (k := 4) (tg := 66) (np := 33) (by decide +kernel) (by decide) (by decide) (by decide) (fun q68 => ?_) (fun q69 => ?_)
        · have q68 : 2147483653 < 2147483650 := q68
          exfalso; omega
        have q69 : ¬ (2147483653 < 2147483650) := q69
        refine x_aload (np := 34) (x := 0) (by decide +kernel) rfl (x_nc_le (by decide)) ?_
        have q70 : h55 62 0 = 1 := by have z := jB (e := 0) 0 j56 rg_62_0_0_1 (by decide) (by decide); omega
        refine x_getR (np := 37) (x := 192) (f := 0) (q := 1) (by decide +kernel) (by decide) (by decide +kernel) q70 ?_
        refine x_iload (np := 38) (x := 2) (by decide +kernel) rfl (by decide) ?_
        refine x_cS1 (t := 0) (mj := 51) (n := 1) (rc := 0) (ml := 1) (nr := 1) (np := 41) (as := [iv_c 2147483650]) (rest := [x_r 1]) (lo1 := [iv_c 2147483650]) (by decide +kernel) (by decide) (by decide +kernel) (Or.inl rfl) rfl rfl (x_wi (by decide) x_wn) (x_wr (by decide) x_wn) (by decide) rfl c51_2 (by decide) ?_
        have m76 := Tp.fr m54 f57 (by decide) (by decide)
        refine x_cI (t := 6) (mj := 78) (n := 2) (rc := 8) (ml := 2) (nr := 0) (np := 44) (as := [x_r 1, x_b (5 + 1)]) (rest := []) (lo1 := [x_r 1, x_b (5 + 1)]) (by decide +kernel) (by decide) (by decide +kernel) (x_rb_of (by decide +kernel)) rfl rfl (x_wr (by decide) (x_wB (by decide) x_wn)) x_wn (by decide) rfl (c78_1_S0 j56  (by decide) m76) (fun v73 h77 l74 q75 => ?_)
        obtain ⟨j78, f79, b80, c81, c82, c83⟩ := q75
        have f84 := Fr.trans f62 f79 (by decide)
        have b85 := jB (e := 2) 0 j78 rg_1_2_0_1 (by first | decide | omega) (by first | decide | omega)
        have b86 : iv_tl 5 = 6 := by decide
        refine x_ifz (k := 0) (tg := 60) (np := 47) (by decide +kernel) (by decide) l74 (fun q87 => ?_) (fun q88 => ?_)
        · have q87 : v73 = 2147483648 := q87
          have b89 := c82 (by first | decide | omega)
          refine x_iinc (np := 63) (i := 2) (j := 2147483649) (v := 2147483651) (lo' := [x_r 62, iv_c v8, iv_c 2147483651]) (by decide +kernel) (by decide) (by decide) rfl (by decide) (by first | decide | omega) (by first | decide | omega) rfl ?_
          refine x_goto (np := 66) (x := 28) (by decide +kernel) ?_
          refine x_iload (np := 29) (x := 2) (by decide +kernel) rfl (by decide) ?_
          refine x_const (np := 30) (x := 9223372060477095941) (a := 2147483653) (by decide +kernel) (by decide) (by decide) ?_
          refine x_icmp (k := 4) (tg := 66) (np := 33) (by decide +kernel) (by decide) (by decide) (by decide) (fun q90 => ?_) (fun q91 => ?_)
          · have q90 : 2147483653 < 2147483651 := q90
            exfalso; omega
          have q91 : ¬ (2147483653 < 2147483651) := q91
          refine x_aload (np := 34) (x := 0) (by decide +kernel) rfl (x_nc_le (by decide)) ?_
          have q92 : h77 62 0 = 1 := by have z := jB (e := 0) 0 j78 rg_62_0_0_1 (by decide) (by decide); omega
          refine x_getR (np := 37) (x := 192) (f := 0) (q := 1) (by decide +kernel) (by decide) (by decide +kernel) q92 ?_
          refine x_iload (np := 38) (x := 2) (by decide +kernel) rfl (by decide) ?_
          refine x_cS1 (t := 0) (mj := 51) (n := 1) (rc := 0) (ml := 1) (nr := 1) (np := 41) (as := [iv_c 2147483651]) (rest := [x_r 1]) (lo1 := [iv_c 2147483651]) (by decide +kernel) (by decide) (by decide +kernel) (Or.inl rfl) rfl rfl (x_wi (by decide) x_wn) (x_wr (by decide) x_wn) (by decide) rfl c51_3 (by decide) ?_
          have m98 := Tp.fr m76 f79 (by decide) (by decide)
          refine x_cI (t := 6) (mj := 78) (n := 2) (rc := 8) (ml := 2) (nr := 0) (np := 44) (as := [x_r 1, x_b (28 + 1)]) (rest := []) (lo1 := [x_r 1, x_b (28 + 1)]) (by decide +kernel) (by decide) (by decide +kernel) (x_rb_of (by decide +kernel)) rfl rfl (x_wr (by decide) (x_wB (by decide) x_wn)) x_wn (by decide) rfl (c78_1_S0 j78  (by decide) m98) (fun v95 h99 l96 q97 => ?_)
          obtain ⟨j100, f101, b102, c103, c104, c105⟩ := q97
          have f106 := Fr.trans f84 f101 (by decide)
          have b107 := jB (e := 2) 0 j100 rg_1_2_0_1 (by first | decide | omega) (by first | decide | omega)
          have b108 : iv_tl 28 = 4 := by decide
          refine x_ifz (k := 0) (tg := 60) (np := 47) (by decide +kernel) (by decide) l96 (fun q109 => ?_) (fun q110 => ?_)
          · have q109 : v95 = 2147483648 := q109
            have b111 := c104 (by first | decide | omega)
            refine x_iinc (np := 63) (i := 2) (j := 2147483649) (v := 2147483652) (lo' := [x_r 62, iv_c v8, iv_c 2147483652]) (by decide +kernel) (by decide) (by decide) rfl (by decide) (by first | decide | omega) (by first | decide | omega) rfl ?_
            refine x_goto (np := 66) (x := 28) (by decide +kernel) ?_
            refine x_iload (np := 29) (x := 2) (by decide +kernel) rfl (by decide) ?_
            refine x_const (np := 30) (x := 9223372060477095941) (a := 2147483653) (by decide +kernel) (by decide) (by decide) ?_
            refine x_icmp (k := 4) (tg := 66) (np := 33) (by decide +kernel) (by decide) (by decide) (by decide) (fun q112 => ?_) (fun q113 => ?_)
            · have q112 : 2147483653 < 2147483652 := q112
              exfalso; omega
            have q113 : ¬ (2147483653 < 2147483652) := q113
            refine x_aload (np := 34) (x := 0) (by decide +kernel) rfl (x_nc_le (by decide)) ?_
            have q114 : h99 62 0 = 1 := by have z := jB (e := 0) 0 j100 rg_62_0_0_1 (by decide) (by decide); omega
            refine x_getR (np := 37) (x := 192) (f := 0) (q := 1) (by decide +kernel) (by decide) (by decide +kernel) q114 ?_
            refine x_iload (np := 38) (x := 2) (by decide +kernel) rfl (by decide) ?_
            refine x_cS1 (t := 0) (mj := 51) (n := 1) (rc := 0) (ml := 1) (nr := 1) (np := 41) (as := [iv_c 2147483652]) (rest := [x_r 1]) (lo1 := [iv_c 2147483652]) (by decide +kernel) (by decide) (by decide +kernel) (Or.inl rfl) rfl rfl (x_wi (by decide) x_wn) (x_wr (by decide) x_wn) (by decide) rfl c51_4 (by decide) ?_
            have m120 := Tp.fr m98 f101 (by decide) (by decide)
            refine x_cI (t := 6) (mj := 78) (n := 2) (rc := 8) (ml := 2) (nr := 0) (np := 44) (as := [x_r 1, x_b (29 + 1)]) (rest := []) (lo1 := [x_r 1, x_b (29 + 1)]) (by decide +kernel) (by decide) (by decide +kernel) (x_rb_of (by decide +kernel)) rfl rfl (x_wr (by decide) (x_wB (by decide) x_wn)) x_wn (by decide) rfl (c78_1_S0 j100  (by decide) m120) (fun v117 h121 l118 q119 => ?_)
            obtain ⟨j122, f123, b124, c125, c126, c127⟩ := q119
            have f128 := Fr.trans f106 f123 (by decide)
            have b129 := jB (e := 2) 0 j122 rg_1_2_0_1 (by first | decide | omega) (by first | decide | omega)
            have b130 : iv_tl 29 = 5 := by decide
            refine x_ifz (k := 0) (tg := 60) (np := 47) (by decide +kernel) (by decide) l118 (fun q131 => ?_) (fun q132 => ?_)
            · have q131 : v117 = 2147483648 := q131
              have b133 := c126 (by first | decide | omega)
              refine x_iinc (np := 63) (i := 2) (j := 2147483649) (v := 2147483653) (lo' := [x_r 62, iv_c v8, iv_c 2147483653]) (by decide +kernel) (by decide) (by decide) rfl (by decide) (by first | decide | omega) (by first | decide | omega) rfl ?_
              refine x_goto (np := 66) (x := 28) (by decide +kernel) ?_
              refine x_iload (np := 29) (x := 2) (by decide +kernel) rfl (by decide) ?_
              refine x_const (np := 30) (x := 9223372060477095941) (a := 2147483653) (by decide +kernel) (by decide) (by decide) ?_
              refine x_icmp (k := 4) (tg := 66) (np := 33) (by decide +kernel) (by decide) (by decide) (by decide) (fun q134 => ?_) (fun q135 => ?_)
              · have q134 : 2147483653 < 2147483653 := q134
                exfalso; omega
              have q135 : ¬ (2147483653 < 2147483653) := q135
              refine x_aload (np := 34) (x := 0) (by decide +kernel) rfl (x_nc_le (by decide)) ?_
              have q136 : h121 62 0 = 1 := by have z := jB (e := 0) 0 j122 rg_62_0_0_1 (by decide) (by decide); omega
              refine x_getR (np := 37) (x := 192) (f := 0) (q := 1) (by decide +kernel) (by decide) (by decide +kernel) q136 ?_
              refine x_iload (np := 38) (x := 2) (by decide +kernel) rfl (by decide) ?_
              refine x_cS1 (t := 0) (mj := 51) (n := 1) (rc := 0) (ml := 1) (nr := 1) (np := 41) (as := [iv_c 2147483653]) (rest := [x_r 1]) (lo1 := [iv_c 2147483653]) (by decide +kernel) (by decide) (by decide +kernel) (Or.inl rfl) rfl rfl (x_wi (by decide) x_wn) (x_wr (by decide) x_wn) (by decide) rfl c51_5 (by decide) ?_
              have m142 := Tp.fr m120 f123 (by decide) (by decide)
              refine x_cI (t := 6) (mj := 78) (n := 2) (rc := 8) (ml := 2) (nr := 0) (np := 44) (as := [x_r 1, x_b (30 + 1)]) (rest := []) (lo1 := [x_r 1, x_b (30 + 1)]) (by decide +kernel) (by decide) (by decide +kernel) (x_rb_of (by decide +kernel)) rfl rfl (x_wr (by decide) (x_wB (by decide) x_wn)) x_wn (by decide) rfl (c78_1_S0 j122  (by decide) m142) (fun v139 h143 l140 q141 => ?_)
              obtain ⟨j144, f145, b146, c147, c148, c149⟩ := q141
              have f150 := Fr.trans f128 f145 (by decide)
              have b151 := jB (e := 2) 0 j144 rg_1_2_0_1 (by first | decide | omega) (by first | decide | omega)
              have b152 : iv_tl 30 = 5 := by decide
              refine x_ifz (k := 0) (tg := 60) (np := 47) (by decide +kernel) (by decide) l140 (fun q153 => ?_) (fun q154 => ?_)
              · have q153 : v139 = 2147483648 := q153
                have b155 := c148 (by first | decide | omega)
                refine x_iinc (np := 63) (i := 2) (j := 2147483649) (v := 2147483654) (lo' := [x_r 62, iv_c v8, iv_c 2147483654]) (by decide +kernel) (by decide) (by decide) rfl (by decide) (by first | decide | omega) (by first | decide | omega) rfl ?_
                refine x_goto (np := 66) (x := 28) (by decide +kernel) ?_
                refine x_iload (np := 29) (x := 2) (by decide +kernel) rfl (by decide) ?_
                refine x_const (np := 30) (x := 9223372060477095941) (a := 2147483653) (by decide +kernel) (by decide) (by decide) ?_
                refine x_icmp (k := 4) (tg := 66) (np := 33) (by decide +kernel) (by decide) (by decide) (by decide) (fun q156 => ?_) (fun q157 => ?_)
                · have q156 : 2147483653 < 2147483654 := q156
                  refine x_const (np := 67) (x := 9223372039002259456) (a := 2147483648) (by decide +kernel) (by decide) (by decide) ?_
                  have q158 : h143 62 1 = h121 62 1 := f145 62 1 (by decide +kernel)
                  have q159 : h121 62 1 = h99 62 1 := f123 62 1 (by decide +kernel)
                  have q160 : h99 62 1 = h77 62 1 := f101 62 1 (by decide +kernel)
                  have q161 : h77 62 1 = h55 62 1 := f79 62 1 (by decide +kernel)
                  have q162 : h55 62 1 = h33 62 1 := f57 62 1 (by decide +kernel)
                  have q163 : h33 62 1 = h11 62 1 := f35 62 1 (by decide +kernel)
                  have q164 : h11 62 1 = h 62 1 := f13 62 1 (by decide +kernel)
                  have q165 : h143 (r1 + 11) 2 = h121 (r1 + 11) 2 := jK 0 f145 (rg_T11_2_0_1 t3) (by first | decide | omega) (by first | decide | omega) (by decide)
                  have q166 : h121 (r1 + 11) 2 = h99 (r1 + 11) 2 := jK 0 f123 (rg_T11_2_0_1 t3) (by first | decide | omega) (by first | decide | omega) (by decide)
                  have q167 : h99 (r1 + 11) 2 = h77 (r1 + 11) 2 := jK 0 f101 (rg_T11_2_0_1 t3) (by first | decide | omega) (by first | decide | omega) (by decide)
                  have q168 : h77 (r1 + 11) 2 = h55 (r1 + 11) 2 := jK 0 f79 (rg_T11_2_0_1 t3) (by first | decide | omega) (by first | decide | omega) (by decide)
                  have q169 : h55 (r1 + 11) 2 = h33 (r1 + 11) 2 := jK 0 f57 (rg_T11_2_0_1 t3) (by first | decide | omega) (by first | decide | omega) (by decide)
                  have q170 : h33 (r1 + 11) 2 = h11 (r1 + 11) 2 := jK 0 f35 (rg_T11_2_0_1 t3) (by first | decide | omega) (by first | decide | omega) (by decide)
                  have q171 : h11 (r1 + 11) 2 = h (r1 + 11) 2 := jK 0 f13 (rg_T11_2_0_1 t3) (by first | decide | omega) (by first | decide | omega) (by decide)
                  have e172 : cl9 h143 = (h (r1 + 11) 2) := (congrArg (fun z => h143 z 2) (((((((q158.trans q159).trans q160).trans q161).trans q162).trans q163).trans q164).trans q2)).trans ((((((q165.trans q166).trans q167).trans q168).trans q169).trans q170).trans q171)
                  obtain ⟨w173, e174⟩ := Tk.no c39 (by first | decide | omega)
                  have w175 : ¬ Wd tB tN 2 (h 1 2) := by rw [show h 1 2 = h11 1 2 from (show h11 1 2 = h 1 2 by first | decide | omega).symm]; exact w173
                  obtain ⟨w176, e177⟩ := Tk.no c61 (by first | decide | omega)
                  have w178 : ¬ Wd tB tN 27 (h 1 2) := by rw [show h 1 2 = h33 1 2 from (show h33 1 2 = h 1 2 by first | decide | omega).symm]; exact w176
                  obtain ⟨w179, e180⟩ := Tk.no c83 (by first | decide | omega)
                  have w181 : ¬ Wd tB tN 5 (h 1 2) := by rw [show h 1 2 = h55 1 2 from (show h55 1 2 = h 1 2 by first | decide | omega).symm]; exact w179
                  obtain ⟨w182, e183⟩ := Tk.no c105 (by first | decide | omega)
                  have w184 : ¬ Wd tB tN 28 (h 1 2) := by rw [show h 1 2 = h77 1 2 from (show h77 1 2 = h 1 2 by first | decide | omega).symm]; exact w182
                  obtain ⟨w185, e186⟩ := Tk.no c127 (by first | decide | omega)
                  have w187 : ¬ Wd tB tN 29 (h 1 2) := by rw [show h 1 2 = h99 1 2 from (show h99 1 2 = h 1 2 by first | decide | omega).symm]; exact w185
                  obtain ⟨w188, e189⟩ := Tk.no c149 (by first | decide | omega)
                  have w190 : ¬ Wd tB tN 30 (h 1 2) := by rw [show h 1 2 = h121 1 2 from (show h121 1 2 = h 1 2 by first | decide | omega).symm]; exact w188
                  obtain ⟨w191, e192⟩ := Tk.no c39 (by first | decide | omega)
                  have w193 : ¬ Wd tB tN 2 (h 1 2) := by rw [show h 1 2 = h11 1 2 from (show h11 1 2 = h 1 2 by first | decide | omega).symm]; exact w191
                  obtain ⟨w194, e195⟩ := Tk.no c61 (by first | decide | omega)
                  have w196 : ¬ Wd tB tN 27 (h 1 2) := by rw [show h 1 2 = h33 1 2 from (show h33 1 2 = h 1 2 by first | decide | omega).symm]; exact w194
                  obtain ⟨w197, e198⟩ := Tk.no c83 (by first | decide | omega)
                  have w199 : ¬ Wd tB tN 5 (h 1 2) := by rw [show h 1 2 = h55 1 2 from (show h55 1 2 = h 1 2 by first | decide | omega).symm]; exact w197
                  obtain ⟨w200, e201⟩ := Tk.no c105 (by first | decide | omega)
                  have w202 : ¬ Wd tB tN 28 (h 1 2) := by rw [show h 1 2 = h77 1 2 from (show h77 1 2 = h 1 2 by first | decide | omega).symm]; exact w200
                  obtain ⟨w203, e204⟩ := Tk.no c127 (by first | decide | omega)
                  have w205 : ¬ Wd tB tN 29 (h 1 2) := by rw [show h 1 2 = h99 1 2 from (show h99 1 2 = h 1 2 by first | decide | omega).symm]; exact w203
                  obtain ⟨w206, e207⟩ := Tk.no c149 (by first | decide | omega)
                  have w208 : ¬ Wd tB tN 30 (h 1 2) := by rw [show h 1 2 = h121 1 2 from (show h121 1 2 = h 1 2 by first | decide | omega).symm]; exact w206
                  refine x_retI (np := 68) (x := 0) (by decide +kernel) (by decide) (Or.inr ⟨by decide +kernel, by first | decide | omega, by first | decide | omega⟩) ⟨_, rfl, (by decide), ?_⟩
                  exact ⟨j144, f150, (by first | decide | omega), (fun z => by first | decide | omega), (fun z => by first | decide | omega), (fun l => gP_no (Nr.nb c18 (by first | decide | omega)) w175 w178 w181 w184 w187 w190 (by first | decide | omega)), (fun _ l => fP_no (Nr.nb c18 (by first | decide | omega)) w193 w196 w199 w202 w205 w208 (show h143 1 2 = h 1 2 by first | decide | omega))⟩
                have q157 : ¬ (2147483653 < 2147483654) := q157
                exfalso; omega
              have q154 : ¬ (v139 = 2147483648) := q154
              have b209 := c147 (by first | decide | omega)
              refine x_aload (np := 48) (x := 0) (by decide +kernel) rfl (x_nc_le (by decide)) ?_
              have q210 : h143 62 1 = h121 62 1 := f145 62 1 (by decide +kernel)
              have q211 : h121 62 1 = h99 62 1 := f123 62 1 (by decide +kernel)
              have q212 : h99 62 1 = h77 62 1 := f101 62 1 (by decide +kernel)
              have q213 : h77 62 1 = h55 62 1 := f79 62 1 (by decide +kernel)
              have q214 : h55 62 1 = h33 62 1 := f57 62 1 (by decide +kernel)
              have q215 : h33 62 1 = h11 62 1 := f35 62 1 (by decide +kernel)
              have q216 : h11 62 1 = h 62 1 := f13 62 1 (by decide +kernel)
              refine x_getR (np := 51) (x := 193) (f := 1) (q := (r1 + 11)) (by decide +kernel) (by decide) (by decide +kernel) (((((((q210.trans q211).trans q212).trans q213).trans q214).trans q215).trans q216).trans q2) ?_
              refine x_const (np := 54) (x := 9223376333969556456) (a := 2147484648) (by decide +kernel) (by decide) (by decide) ?_
              refine x_iload (np := 55) (x := 2) (by decide +kernel) rfl (by decide) ?_
              refine x_iadd (np := 56) (x := 0) (v := 2147484653) (by decide +kernel) (by decide) (by decide) (by first | decide | omega) (by first | decide | omega) ?_
              refine x_nI (t := 6) (mj := 36) (n := 2) (rc := 3) (ml := 2) (nr := 0) (np := 59) (as := [x_r (r1 + 11), iv_c 2147484653]) (rest := []) (lo1 := [x_r (r1 + 11), iv_c 2147484653]) (by decide +kernel) (by decide) (by decide +kernel) (x_rb_of (tr_11_3 t3)) rfl rfl (x_wr (tn_11 t3) (x_wi (by decide) x_wn)) x_wn (by decide) rfl ?_
              refine x_aload (np := 1) (x := 0) (by decide +kernel) rfl (x_nc_le (tn_11 t3)) ?_
              have q217 : h143 (r1 + 11) 2 = h121 (r1 + 11) 2 := jK 0 f145 (rg_T11_2_0_1 t3) (by first | decide | omega) (by first | decide | omega) (by decide)
              have q218 : h121 (r1 + 11) 2 = h99 (r1 + 11) 2 := jK 0 f123 (rg_T11_2_0_1 t3) (by first | decide | omega) (by first | decide | omega) (by decide)
              have q219 : h99 (r1 + 11) 2 = h77 (r1 + 11) 2 := jK 0 f101 (rg_T11_2_0_1 t3) (by first | decide | omega) (by first | decide | omega) (by decide)
              have q220 : h77 (r1 + 11) 2 = h55 (r1 + 11) 2 := jK 0 f79 (rg_T11_2_0_1 t3) (by first | decide | omega) (by first | decide | omega) (by decide)
              have q221 : h55 (r1 + 11) 2 = h33 (r1 + 11) 2 := jK 0 f57 (rg_T11_2_0_1 t3) (by first | decide | omega) (by first | decide | omega) (by decide)
              have q222 : h33 (r1 + 11) 2 = h11 (r1 + 11) 2 := jK 0 f35 (rg_T11_2_0_1 t3) (by first | decide | omega) (by first | decide | omega) (by decide)
              have q223 : h11 (r1 + 11) 2 = h (r1 + 11) 2 := jK 0 f13 (rg_T11_2_0_1 t3) (by first | decide | omega) (by first | decide | omega) (by decide)
              refine x_getC (np := 4) (x := 130) (f := 2) (q := (h (r1 + 11) 2)) (by decide +kernel) (by decide) (tg_11_130_2_0 t3) ((((((q217.trans q218).trans q219).trans q220).trans q221).trans q222).trans q223) (fun l224 => ?_)
              refine x_const (np := 7) (x := 9223373756989178256) (a := 2147484048) (by decide +kernel) (by decide) (by decide) ?_
              refine x_icmp (k := 2) (tg := 12) (np := 10) (by decide +kernel) (by decide) l224 (by decide) (fun q225 => ?_) (fun q226 => ?_)
              · have q225 : (h (r1 + 11) 2) < 2147484048 := q225
                refine x_aload (np := 13) (x := 0) (by decide +kernel) rfl (x_nc_le (tn_11 t3)) ?_
                have q227 : h143 (r1 + 11) 0 = (r1 + 12) := tf_11_0 j144 t3
                refine x_getR (np := 16) (x := 128) (f := 0) (q := (r1 + 12)) (by decide +kernel) (by decide) (tg_11_128_0_1 t3) q227 ?_
                refine x_aload (np := 17) (x := 0) (by decide +kernel) rfl (x_nc_le (tn_11 t3)) ?_
                have q228 : h143 (r1 + 11) 2 = h121 (r1 + 11) 2 := jK 0 f145 (rg_T11_2_0_1 t3) (by first | decide | omega) (by first | decide | omega) (by decide)
                have q229 : h121 (r1 + 11) 2 = h99 (r1 + 11) 2 := jK 0 f123 (rg_T11_2_0_1 t3) (by first | decide | omega) (by first | decide | omega) (by decide)
                have q230 : h99 (r1 + 11) 2 = h77 (r1 + 11) 2 := jK 0 f101 (rg_T11_2_0_1 t3) (by first | decide | omega) (by first | decide | omega) (by decide)
                have q231 : h77 (r1 + 11) 2 = h55 (r1 + 11) 2 := jK 0 f79 (rg_T11_2_0_1 t3) (by first | decide | omega) (by first | decide | omega) (by decide)
                have q232 : h55 (r1 + 11) 2 = h33 (r1 + 11) 2 := jK 0 f57 (rg_T11_2_0_1 t3) (by first | decide | omega) (by first | decide | omega) (by decide)
                have q233 : h33 (r1 + 11) 2 = h11 (r1 + 11) 2 := jK 0 f35 (rg_T11_2_0_1 t3) (by first | decide | omega) (by first | decide | omega) (by decide)
                have q234 : h11 (r1 + 11) 2 = h (r1 + 11) 2 := jK 0 f13 (rg_T11_2_0_1 t3) (by first | decide | omega) (by first | decide | omega) (by decide)
                refine x_getC (np := 20) (x := 130) (f := 2) (q := (h (r1 + 11) 2)) (by decide +kernel) (by decide) (tg_11_130_2_0 t3) ((((((q228.trans q229).trans q230).trans q231).trans q232).trans q233).trans q234) (fun l235 => ?_)
                refine x_iload (np := 21) (x := 1) (by decide +kernel) rfl (by decide) ?_
                obtain ⟨u236, q237⟩ : ∃ z, (h (r1 + 11) 2) = 2147483648 + z := ⟨(h (r1 + 11) 2) - 2147483648, by first | decide | omega⟩
                refine x_ast (np := 22) (x := 0) (kd := 1) (n := 400) (i := u236) (by decide +kernel) (Or.inl rfl) (ta_12_400 t3) (by first | decide | omega) (by first | decide | omega) (by decide) (by decide) (fun z => absurd z (by decide)) ?_
                have j239 := jU (e := u236) (v := 2147484653) u236 j144 (rg_T12_0_1_400 t3) (by first | decide | omega) (by first | decide | omega) (by first | decide | omega)
                have f241 := jF (e := u236) (v := 2147484653) u236 f150 (rg_T12_0_1_400 t3) (by first | decide | omega) (by first | decide | omega) (by decide)
                generalize e240 : x_up h143 (r1 + 12) u236 2147484653 = h238 at j239 f241 ⊢
                refine x_aload (np := 23) (x := 0) (by decide +kernel) rfl (x_nc_le (tn_11 t3)) ?_
                refine x_dup (np := 24) (x := 0) (by decide +kernel) (by have z := x_nc_le (k := (r1 + 11)) (tn_11 t3); unfold x_r; omega) ?_
                have q242 : h238 (r1 + 11) 2 = h143 (r1 + 11) 2 := by rw [← e240]; exact x_up_k tof_11_12
                have q243 : h143 (r1 + 11) 2 = h121 (r1 + 11) 2 := jK 0 f145 (rg_T11_2_0_1 t3) (by first | decide | omega) (by first | decide | omega) (by decide)
                have q244 : h121 (r1 + 11) 2 = h99 (r1 + 11) 2 := jK 0 f123 (rg_T11_2_0_1 t3) (by first | decide | omega) (by first | decide | omega) (by decide)
                have q245 : h99 (r1 + 11) 2 = h77 (r1 + 11) 2 := jK 0 f101 (rg_T11_2_0_1 t3) (by first | decide | omega) (by first | decide | omega) (by decide)
                have q246 : h77 (r1 + 11) 2 = h55 (r1 + 11) 2 := jK 0 f79 (rg_T11_2_0_1 t3) (by first | decide | omega) (by first | decide | omega) (by decide)
                have q247 : h55 (r1 + 11) 2 = h33 (r1 + 11) 2 := jK 0 f57 (rg_T11_2_0_1 t3) (by first | decide | omega) (by first | decide | omega) (by decide)
                have q248 : h33 (r1 + 11) 2 = h11 (r1 + 11) 2 := jK 0 f35 (rg_T11_2_0_1 t3) (by first | decide | omega) (by first | decide | omega) (by decide)
                have q249 : h11 (r1 + 11) 2 = h (r1 + 11) 2 := jK 0 f13 (rg_T11_2_0_1 t3) (by first | decide | omega) (by first | decide | omega) (by decide)
                refine x_getC (np := 27) (x := 130) (f := 2) (q := (h (r1 + 11) 2)) (by decide +kernel) (by decide) (tg_11_130_2_0 t3) (((((((q242.trans q243).trans q244).trans q245).trans q246).trans q247).trans q248).trans q249) (fun l250 => ?_)
                refine x_const (np := 28) (x := 9223372043297226753) (a := 2147483649) (by decide +kernel) (by decide) (by decide) ?_
                refine x_iadd (np := 29) (x := 0) (v := (1 + (h (r1 + 11) 2))) (by decide +kernel) l224 (by decide) (by first | decide | omega) (by first | decide | omega) ?_
                refine x_putI (np := 32) (x := 130) (f := 2) (by decide +kernel) (tg_11_130_2_0 t3) (by first | decide | omega) (Or.inl (by decide)) ?_
                have j252 := jU (e := 2) (v := (1 + (h (r1 + 11) 2))) 0 j239 (rg_T11_2_0_1 t3) (by first | decide | omega) (by first | decide | omega) (by first | decide | omega)
                have f254 := jF (e := 2) (v := (1 + (h (r1 + 11) 2))) 0 f241 (rg_T11_2_0_1 t3) (by first | decide | omega) (by first | decide | omega) (by decide)
                generalize e253 : x_up h238 (r1 + 11) 2 (1 + (h (r1 + 11) 2)) = h251 at j252 f254 ⊢
                refine x_const (np := 33) (x := 9223372043297226753) (a := 2147483649) (by decide +kernel) (by decide) (by decide) ?_
                refine x_retI (np := 34) (x := 0) (by decide +kernel) (by decide) (Or.inr ⟨by decide +kernel, by first | decide | omega, by first | decide | omega⟩) ⟨_, rfl, (by decide), ?_⟩
                have q255 : h251 1 2 = h238 1 2 := by rw [← e253]; exact x_up_k (Ne.symm (tne_11_1 t3))
                have q256 : h238 1 2 = h143 1 2 := by rw [← e240]; exact x_up_k (Ne.symm (tne_12_1 t3))
                have q257 : h251 62 1 = h238 62 1 := by rw [← e253]; exact x_up_k (Ne.symm (tne_11_62 t3))
                have q258 : h238 62 1 = h143 62 1 := by rw [← e240]; exact x_up_k (Ne.symm (tne_12_62 t3))
                have q259 : h143 62 1 = h121 62 1 := f145 62 1 (by decide +kernel)
                have q260 : h121 62 1 = h99 62 1 := f123 62 1 (by decide +kernel)
                have q261 : h99 62 1 = h77 62 1 := f101 62 1 (by decide +kernel)
                have q262 : h77 62 1 = h55 62 1 := f79 62 1 (by decide +kernel)
                have q263 : h55 62 1 = h33 62 1 := f57 62 1 (by decide +kernel)
                have q264 : h33 62 1 = h11 62 1 := f35 62 1 (by decide +kernel)
                have q265 : h11 62 1 = h 62 1 := f13 62 1 (by decide +kernel)
                have q266 : h251 (r1 + 11) 2 = (1 + (h (r1 + 11) 2)) := by rw [← e253]; exact x_up_at
                have e267 : cl9 h251 = (1 + (h (r1 + 11) 2)) := (congrArg (fun z => h251 z 2) (((((((((q257.trans q258).trans q259).trans q260).trans q261).trans q262).trans q263).trans q264).trans q265).trans q2)).trans q266
                have q268 : h251 1 2 = h238 1 2 := by rw [← e253]; exact x_up_k (Ne.symm (tne_11_1 t3))
                have q269 : h238 1 2 = h143 1 2 := by rw [← e240]; exact x_up_k (Ne.symm (tne_12_1 t3))
                obtain ⟨w270, e271⟩ := Tk.no c39 (by first | decide | omega)
                have w272 : ¬ Wd tB tN 2 (h 1 2) := by rw [show h 1 2 = h11 1 2 from (show h11 1 2 = h 1 2 by first | decide | omega).symm]; exact w270
                obtain ⟨w273, e274⟩ := Tk.no c61 (by first | decide | omega)
                have w275 : ¬ Wd tB tN 27 (h 1 2) := by rw [show h 1 2 = h33 1 2 from (show h33 1 2 = h 1 2 by first | decide | omega).symm]; exact w273
                obtain ⟨w276, e277⟩ := Tk.no c83 (by first | decide | omega)
                have w278 : ¬ Wd tB tN 5 (h 1 2) := by rw [show h 1 2 = h55 1 2 from (show h55 1 2 = h 1 2 by first | decide | omega).symm]; exact w276
                obtain ⟨w279, e280⟩ := Tk.no c105 (by first | decide | omega)
                have w281 : ¬ Wd tB tN 28 (h 1 2) := by rw [show h 1 2 = h77 1 2 from (show h77 1 2 = h 1 2 by first | decide | omega).symm]; exact w279
                obtain ⟨w282, e283⟩ := Tk.no c127 (by first | decide | omega)
                have w284 : ¬ Wd tB tN 29 (h 1 2) := by rw [show h 1 2 = h99 1 2 from (show h99 1 2 = h 1 2 by first | decide | omega).symm]; exact w282
                obtain ⟨w285, e286⟩ := Tk.yes c149 (by first | decide | omega)
                have q287 : h251 1 2 = h238 1 2 := by rw [← e253]; exact x_up_k (Ne.symm (tne_11_1 t3))
                have q288 : h238 1 2 = h143 1 2 := by rw [← e240]; exact x_up_k (Ne.symm (tne_12_1 t3))
                refine x_retI (np := 60) (x := 0) (by decide +kernel) (by decide) (Or.inr ⟨by decide +kernel, by first | decide | omega, by first | decide | omega⟩) ⟨_, rfl, (by decide), ?_⟩
                exact ⟨j252, f254, (by first | decide | omega), (fun z => by first | decide | omega), (fun z => by first | decide | omega), (fun l => gP_wd (i := 30) (by unfold six; decide) w285 (show h121 1 2 = h 1 2 by first | decide | omega) e286 (by first | decide | omega) (show h143 1 2 = h251 1 2 by first | decide | omega)), (fun z => absurd z (by first | decide | omega))⟩
              have q226 : ¬ ((h (r1 + 11) 2) < 2147484048) := q226
              exfalso; omega
            have q132 : ¬ (v117 = 2147483648) := q132
            have b289 := c125 (by first | decide | omega)
            refine x_aload (np := 48) (x := 0) (by decide +kernel) rfl (x_nc_le (by decide)) ?_
            have q290 : h121 62 1 = h99 62 1 := f123 62 1 (by decide +kernel)
            have q291 : h99 62 1 = h77 62 1 := f101 62 1 (by decide +kernel)
            have q292 : h77 62 1 = h55 62 1 := f79 62 1 (by decide +kernel)
            have q293 : h55 62 1 = h33 62 1 := f57 62 1 (by decide +kernel)
            have q294 : h33 62 1 = h11 62 1 := f35 62 1 (by decide +kernel)
            have q295 : h11 62 1 = h 62 1 := f13 62 1 (by decide +kernel)
            refine x_getR (np := 51) (x := 193) (f := 1) (q := (r1 + 11)) (by decide +kernel) (by decide) (by decide +kernel) ((((((q290.trans q291).trans q292).trans q293).trans q294).trans q295).trans q2) ?_
            refine x_const (np := 54) (x := 9223376333969556456) (a := 2147484648) (by decide +kernel) (by decide) (by decide) ?_
            refine x_iload (np := 55) (x := 2) (by decide +kernel) rfl (by decide) ?_
            refine x_iadd (np := 56) (x := 0) (v := 2147484652) (by decide +kernel) (by decide) (by decide) (by first | decide | omega) (by first | decide | omega) ?_
            refine x_nI (t := 6) (mj := 36) (n := 2) (rc := 3) (ml := 2) (nr := 0) (np := 59) (as := [x_r (r1 + 11), iv_c 2147484652]) (rest := []) (lo1 := [x_r (r1 + 11), iv_c 2147484652]) (by decide +kernel) (by decide) (by decide +kernel) (x_rb_of (tr_11_3 t3)) rfl rfl (x_wr (tn_11 t3) (x_wi (by decide) x_wn)) x_wn (by decide) rfl ?_
            refine x_aload (np := 1) (x := 0) (by decide +kernel) rfl (x_nc_le (tn_11 t3)) ?_
            have q296 : h121 (r1 + 11) 2 = h99 (r1 + 11) 2 := jK 0 f123 (rg_T11_2_0_1 t3) (by first | decide | omega) (by first | decide | omega) (by decide)
            have q297 : h99 (r1 + 11) 2 = h77 (r1 + 11) 2 := jK 0 f101 (rg_T11_2_0_1 t3) (by first | decide | omega) (by first | decide | omega) (by decide)
            have q298 : h77 (r1 + 11) 2 = h55 (r1 + 11) 2 := jK 0 f79 (rg_T11_2_0_1 t3) (by first | decide | omega) (by first | decide | omega) (by decide)
            have q299 : h55 (r1 + 11) 2 = h33 (r1 + 11) 2 := jK 0 f57 (rg_T11_2_0_1 t3) (by first | decide | omega) (by first | decide | omega) (by decide)
            have q300 : h33 (r1 + 11) 2 = h11 (r1 + 11) 2 := jK 0 f35 (rg_T11_2_0_1 t3) (by first | decide | omega) (by first | decide | omega) (by decide)
            have q301 : h11 (r1 + 11) 2 = h (r1 + 11) 2 := jK 0 f13 (rg_T11_2_0_1 t3) (by first | decide | omega) (by first | decide | omega) (by decide)
            refine x_getC (np := 4) (x := 130) (f := 2) (q := (h (r1 + 11) 2)) (by decide +kernel) (by decide) (tg_11_130_2_0 t3) (((((q296.trans q297).trans q298).trans q299).trans q300).trans q301) (fun l302 => ?_)
            refine x_const (np := 7) (x := 9223373756989178256) (a := 2147484048) (by decide +kernel) (by decide) (by decide) ?_
            refine x_icmp (k := 2) (tg := 12) (np := 10) (by decide +kernel) (by decide) l302 (by decide) (fun q303 => ?_) (fun q304 => ?_)
            · have q303 : (h (r1 + 11) 2) < 2147484048 := q303
              refine x_aload (np := 13) (x := 0) (by decide +kernel) rfl (x_nc_le (tn_11 t3)) ?_
              have q305 : h121 (r1 + 11) 0 = (r1 + 12) := tf_11_0 j122 t3
              refine x_getR (np := 16) (x := 128) (f := 0) (q := (r1 + 12)) (by decide +kernel) (by decide) (tg_11_128_0_1 t3) q305 ?_
              refine x_aload (np := 17) (x := 0) (by decide +kernel) rfl (x_nc_le (tn_11 t3)) ?_
              have q306 : h121 (r1 + 11) 2 = h99 (r1 + 11) 2 := jK 0 f123 (rg_T11_2_0_1 t3) (by first | decide | omega) (by first | decide | omega) (by decide)
              have q307 : h99 (r1 + 11) 2 = h77 (r1 + 11) 2 := jK 0 f101 (rg_T11_2_0_1 t3) (by first | decide | omega) (by first | decide | omega) (by decide)
              have q308 : h77 (r1 + 11) 2 = h55 (r1 + 11) 2 := jK 0 f79 (rg_T11_2_0_1 t3) (by first | decide | omega) (by first | decide | omega) (by decide)
              have q309 : h55 (r1 + 11) 2 = h33 (r1 + 11) 2 := jK 0 f57 (rg_T11_2_0_1 t3) (by first | decide | omega) (by first | decide | omega) (by decide)
              have q310 : h33 (r1 + 11) 2 = h11 (r1 + 11) 2 := jK 0 f35 (rg_T11_2_0_1 t3) (by first | decide | omega) (by first | decide | omega) (by decide)
              have q311 : h11 (r1 + 11) 2 = h (r1 + 11) 2 := jK 0 f13 (rg_T11_2_0_1 t3) (by first | decide | omega) (by first | decide | omega) (by decide)
              refine x_getC (np := 20) (x := 130) (f := 2) (q := (h (r1 + 11) 2)) (by decide +kernel) (by decide) (tg_11_130_2_0 t3) (((((q306.trans q307).trans q308).trans q309).trans q310).trans q311) (fun l312 => ?_)
              refine x_iload (np := 21) (x := 1) (by decide +kernel) rfl (by decide) ?_
              obtain ⟨u313, q314⟩ : ∃ z, (h (r1 + 11) 2) = 2147483648 + z := ⟨(h (r1 + 11) 2) - 2147483648, by first | decide | omega⟩
              refine x_ast (np := 22) (x := 0) (kd := 1) (n := 400) (i := u313) (by decide +kernel) (Or.inl rfl) (ta_12_400 t3) (by first | decide | omega) (by first | decide | omega) (by decide) (by decide) (fun z => absurd z (by decide)) ?_
              have j316 := jU (e := u313) (v := 2147484652) u313 j122 (rg_T12_0_1_400 t3) (by first | decide | omega) (by first | decide | omega) (by first | decide | omega)
              have f318 := jF (e := u313) (v := 2147484652) u313 f128 (rg_T12_0_1_400 t3) (by first | decide | omega) (by first | decide | omega) (by decide)
              generalize e317 : x_up h121 (r1 + 12) u313 2147484652 = h315 at j316 f318 ⊢
              refine x_aload (np := 23) (x := 0) (by decide +kernel) rfl (x_nc_le (tn_11 t3)) ?_
              refine x_dup (np := 24) (x := 0) (by decide +kernel) (by have z := x_nc_le (k := (r1 + 11)) (tn_11 t3); unfold x_r; omega) ?_
              have q319 : h315 (r1 + 11) 2 = h121 (r1 + 11) 2 := by rw [← e317]; exact x_up_k tof_11_12
              have q320 : h121 (r1 + 11) 2 = h99 (r1 + 11) 2 := jK 0 f123 (rg_T11_2_0_1 t3) (by first | decide | omega) (by first | decide | omega) (by decide)
              have q321 : h99 (r1 + 11) 2 = h77 (r1 + 11) 2 := jK 0 f101 (rg_T11_2_0_1 t3) (by first | decide | omega) (by first | decide | omega) (by decide)
              have q322 : h77 (r1 + 11) 2 = h55 (r1 + 11) 2 := jK 0 f79 (rg_T11_2_0_1 t3) (by first | decide | omega) (by first | decide | omega) (by decide)
              have q323 : h55 (r1 + 11) 2 = h33 (r1 + 11) 2 := jK 0 f57 (rg_T11_2_0_1 t3) (by first | decide | omega) (by first | decide | omega) (by decide)
              have q324 : h33 (r1 + 11) 2 = h11 (r1 + 11) 2 := jK 0 f35 (rg_T11_2_0_1 t3) (by first | decide | omega) (by first | decide | omega) (by decide)
              have q325 : h11 (r1 + 11) 2 = h (r1 + 11) 2 := jK 0 f13 (rg_T11_2_0_1 t3) (by first | decide | omega) (by first | decide | omega) (by decide)
              refine x_getC (np := 27) (x := 130) (f := 2) (q := (h (r1 + 11) 2)) (by decide +kernel) (by decide) (tg_11_130_2_0 t3) ((((((q319.trans q320).trans q321).trans q322).trans q323).trans q324).trans q325) (fun l326 => ?_)
              refine x_const (np := 28) (x := 9223372043297226753) (a := 2147483649) (by decide +kernel) (by decide) (by decide) ?_
              refine x_iadd (np := 29) (x := 0) (v := (1 + (h (r1 + 11) 2))) (by decide +kernel) l302 (by decide) (by first | decide | omega) (by first | decide | omega) ?_
              refine x_putI (np := 32) (x := 130) (f := 2) (by decide +kernel) (tg_11_130_2_0 t3) (by first | decide | omega) (Or.inl (by decide)) ?_
              have j328 := jU (e := 2) (v := (1 + (h (r1 + 11) 2))) 0 j316 (rg_T11_2_0_1 t3) (by first | decide | omega) (by first | decide | omega) (by first | decide | omega)
              have f330 := jF (e := 2) (v := (1 + (h (r1 + 11) 2))) 0 f318 (rg_T11_2_0_1 t3) (by first | decide | omega) (by first | decide | omega) (by decide)
              generalize e329 : x_up h315 (r1 + 11) 2 (1 + (h (r1 + 11) 2)) = h327 at j328 f330 ⊢
              refine x_const (np := 33) (x := 9223372043297226753) (a := 2147483649) (by decide +kernel) (by decide) (by decide) ?_
              refine x_retI (np := 34) (x := 0) (by decide +kernel) (by decide) (Or.inr ⟨by decide +kernel, by first | decide | omega, by first | decide | omega⟩) ⟨_, rfl, (by decide), ?_⟩
              have q331 : h327 1 2 = h315 1 2 := by rw [← e329]; exact x_up_k (Ne.symm (tne_11_1 t3))
              have q332 : h315 1 2 = h121 1 2 := by rw [← e317]; exact x_up_k (Ne.symm (tne_12_1 t3))
              have q333 : h327 62 1 = h315 62 1 := by rw [← e329]; exact x_up_k (Ne.symm (tne_11_62 t3))
              have q334 : h315 62 1 = h121 62 1 := by rw [← e317]; exact x_up_k (Ne.symm (tne_12_62 t3))
              have q335 : h121 62 1 = h99 62 1 := f123 62 1 (by decide +kernel)
              have q336 : h99 62 1 = h77 62 1 := f101 62 1 (by decide +kernel)
              have q337 : h77 62 1 = h55 62 1 := f79 62 1 (by decide +kernel)
              have q338 : h55 62 1 = h33 62 1 := f57 62 1 (by decide +kernel)
              have q339 : h33 62 1 = h11 62 1 := f35 62 1 (by decide +kernel)
              have q340 : h11 62 1 = h 62 1 := f13 62 1 (by decide +kernel)
              have q341 : h327 (r1 + 11) 2 = (1 + (h (r1 + 11) 2)) := by rw [← e329]; exact x_up_at
              have e342 : cl9 h327 = (1 + (h (r1 + 11) 2)) := (congrArg (fun z => h327 z 2) ((((((((q333.trans q334).trans q335).trans q336).trans q337).trans q338).trans q339).trans q340).trans q2)).trans q341
              have q343 : h327 1 2 = h315 1 2 := by rw [← e329]; exact x_up_k (Ne.symm (tne_11_1 t3))
              have q344 : h315 1 2 = h121 1 2 := by rw [← e317]; exact x_up_k (Ne.symm (tne_12_1 t3))
              obtain ⟨w345, e346⟩ := Tk.no c39 (by first | decide | omega)
              have w347 : ¬ Wd tB tN 2 (h 1 2) := by rw [show h 1 2 = h11 1 2 from (show h11 1 2 = h 1 2 by first | decide | omega).symm]; exact w345
              obtain ⟨w348, e349⟩ := Tk.no c61 (by first | decide | omega)
              have w350 : ¬ Wd tB tN 27 (h 1 2) := by rw [show h 1 2 = h33 1 2 from (show h33 1 2 = h 1 2 by first | decide | omega).symm]; exact w348
              obtain ⟨w351, e352⟩ := Tk.no c83 (by first | decide | omega)
              have w353 : ¬ Wd tB tN 5 (h 1 2) := by rw [show h 1 2 = h55 1 2 from (show h55 1 2 = h 1 2 by first | decide | omega).symm]; exact w351
              obtain ⟨w354, e355⟩ := Tk.no c105 (by first | decide | omega)
              have w356 : ¬ Wd tB tN 28 (h 1 2) := by rw [show h 1 2 = h77 1 2 from (show h77 1 2 = h 1 2 by first | decide | omega).symm]; exact w354
              obtain ⟨w357, e358⟩ := Tk.yes c127 (by first | decide | omega)
              have q359 : h327 1 2 = h315 1 2 := by rw [← e329]; exact x_up_k (Ne.symm (tne_11_1 t3))
              have q360 : h315 1 2 = h121 1 2 := by rw [← e317]; exact x_up_k (Ne.symm (tne_12_1 t3))
              refine x_retI (np := 60) (x := 0) (by decide +kernel) (by decide) (Or.inr ⟨by decide +kernel, by first | decide | omega, by first | decide | omega⟩) ⟨_, rfl, (by decide), ?_⟩
              exact ⟨j328, f330, (by first | decide | omega), (fun z => by first | decide | omega), (fun z => by first | decide | omega), (fun l => gP_wd (i := 29) (by unfold six; decide) w357 (show h99 1 2 = h 1 2 by first | decide | omega) e358 (by first | decide | omega) (show h121 1 2 = h327 1 2 by first | decide | omega)), (fun z => absurd z (by first | decide | omega))⟩
            have q304 : ¬ ((h (r1 + 11) 2) < 2147484048) := q304
            exfalso; omega
          have q110 : ¬ (v95 = 2147483648) := q110
          have b361 := c103 (by first | decide | omega)
          refine x_aload (np := 48) (x := 0) (by decide +kernel) rfl (x_nc_le (by decide)) ?_
          have q362 : h99 62 1 = h77 62 1 := f101 62 1 (by decide +kernel)
          have q363 : h77 62 1 = h55 62 1 := f79 62 1 (by decide +kernel)
          have q364 : h55 62 1 = h33 62 1 := f57 62 1 (by decide +kernel)
          have q365 : h33 62 1 = h11 62 1 := f35 62 1 (by decide +kernel)
          have q366 : h11 62 1 = h 62 1 := f13 62 1 (by decide +kernel)
          refine x_getR (np := 51) (x := 193) (f := 1) (q := (r1 + 11)) (by decide +kernel) (by decide) (by decide +kernel) (((((q362.trans q363).trans q364).trans q365).trans q366).trans q2) ?_
          refine x_const (np := 54) (x := 9223376333969556456) (a := 2147484648) (by decide +kernel) (by decide) (by decide) ?_
          refine x_iload (np := 55) (x := 2) (by decide +kernel) rfl (by decide) ?_
          refine x_iadd (np := 56) (x := 0) (v := 2147484651) (by decide +kernel) (by decide) (by decide) (by first | decide | omega) (by first | decide | omega) ?_
          refine x_nI (t := 6) (mj := 36) (n := 2) (rc := 3) (ml := 2) (nr := 0) (np := 59) (as := [x_r (r1 + 11), iv_c 2147484651]) (rest := []) (lo1 := [x_r (r1 + 11), iv_c 2147484651]) (by decide +kernel) (by decide) (by decide +kernel) (x_rb_of (tr_11_3 t3)) rfl rfl (x_wr (tn_11 t3) (x_wi (by decide) x_wn)) x_wn (by decide) rfl ?_
          refine x_aload (np := 1) (x := 0) (by decide +kernel) rfl (x_nc_le (tn_11 t3)) ?_
          have q367 : h99 (r1 + 11) 2 = h77 (r1 + 11) 2 := jK 0 f101 (rg_T11_2_0_1 t3) (by first | decide | omega) (by first | decide | omega) (by decide)
          have q368 : h77 (r1 + 11) 2 = h55 (r1 + 11) 2 := jK 0 f79 (rg_T11_2_0_1 t3) (by first | decide | omega) (by first | decide | omega) (by decide)
          have q369 : h55 (r1 + 11) 2 = h33 (r1 + 11) 2 := jK 0 f57 (rg_T11_2_0_1 t3) (by first | decide | omega) (by first | decide | omega) (by decide)
          have q370 : h33 (r1 + 11) 2 = h11 (r1 + 11) 2 := jK 0 f35 (rg_T11_2_0_1 t3) (by first | decide | omega) (by first | decide | omega) (by decide)
          have q371 : h11 (r1 + 11) 2 = h (r1 + 11) 2 := jK 0 f13 (rg_T11_2_0_1 t3) (by first | decide | omega) (by first | decide | omega) (by decide)
          refine x_getC (np := 4) (x := 130) (f := 2) (q := (h (r1 + 11) 2)) (by decide +kernel) (by decide) (tg_11_130_2_0 t3) ((((q367.trans q368).trans q369).trans q370).trans q371) (fun l372 => ?_)
          refine x_const (np := 7) (x := 9223373756989178256) (a := 2147484048) (by decide +kernel) (by decide) (by decide) ?_
          refine x_icmp (k := 2) (tg := 12) (np := 10) (by decide +kernel) (by decide) l372 (by decide) (fun q373 => ?_) (fun q374 => ?_)
          · have q373 : (h (r1 + 11) 2) < 2147484048 := q373
            refine x_aload (np := 13) (x := 0) (by decide +kernel) rfl (x_nc_le (tn_11 t3)) ?_
            have q375 : h99 (r1 + 11) 0 = (r1 + 12) := tf_11_0 j100 t3
            refine x_getR (np := 16) (x := 128) (f := 0) (q := (r1 + 12)) (by decide +kernel) (by decide) (tg_11_128_0_1 t3) q375 ?_
            refine x_aload (np := 17) (x := 0) (by decide +kernel) rfl (x_nc_le (tn_11 t3)) ?_
            have q376 : h99 (r1 + 11) 2 = h77 (r1 + 11) 2 := jK 0 f101 (rg_T11_2_0_1 t3) (by first | decide | omega) (by first | decide | omega) (by decide)
            have q377 : h77 (r1 + 11) 2 = h55 (r1 + 11) 2 := jK 0 f79 (rg_T11_2_0_1 t3) (by first | decide | omega) (by first | decide | omega) (by decide)
            have q378 : h55 (r1 + 11) 2 = h33 (r1 + 11) 2 := jK 0 f57 (rg_T11_2_0_1 t3) (by first | decide | omega) (by first | decide | omega) (by decide)
            have q379 : h33 (r1 + 11) 2 = h11 (r1 + 11) 2 := jK 0 f35 (rg_T11_2_0_1 t3) (by first | decide | omega) (by first | decide | omega) (by decide)
            have q380 : h11 (r1 + 11) 2 = h (r1 + 11) 2 := jK 0 f13 (rg_T11_2_0_1 t3) (by first | decide | omega) (by first | decide | omega) (by decide)
            refine x_getC (np := 20) (x := 130) (f := 2) (q := (h (r1 + 11) 2)) (by decide +kernel) (by decide) (tg_11_130_2_0 t3) ((((q376.trans q377).trans q378).trans q379).trans q380) (fun l381 => ?_)
            refine x_iload (np := 21) (x := 1) (by decide +kernel) rfl (by decide) ?_
            obtain ⟨u382, q383⟩ : ∃ z, (h (r1 + 11) 2) = 2147483648 + z := ⟨(h (r1 + 11) 2) - 2147483648, by first | decide | omega⟩
            refine x_ast (np := 22) (x := 0) (kd := 1) (n := 400) (i := u382) (by decide +kernel) (Or.inl rfl) (ta_12_400 t3) (by first | decide | omega) (by first | decide | omega) (by decide) (by decide) (fun z => absurd z (by decide)) ?_
            have j385 := jU (e := u382) (v := 2147484651) u382 j100 (rg_T12_0_1_400 t3) (by first | decide | omega) (by first | decide | omega) (by first | decide | omega)
            have f387 := jF (e := u382) (v := 2147484651) u382 f106 (rg_T12_0_1_400 t3) (by first | decide | omega) (by first | decide | omega) (by decide)
            generalize e386 : x_up h99 (r1 + 12) u382 2147484651 = h384 at j385 f387 ⊢
            refine x_aload (np := 23) (x := 0) (by decide +kernel) rfl (x_nc_le (tn_11 t3)) ?_
            refine x_dup (np := 24) (x := 0) (by decide +kernel) (by have z := x_nc_le (k := (r1 + 11)) (tn_11 t3); unfold x_r; omega) ?_
            have q388 : h384 (r1 + 11) 2 = h99 (r1 + 11) 2 := by rw [← e386]; exact x_up_k tof_11_12
            have q389 : h99 (r1 + 11) 2 = h77 (r1 + 11) 2 := jK 0 f101 (rg_T11_2_0_1 t3) (by first | decide | omega) (by first | decide | omega) (by decide)
            have q390 : h77 (r1 + 11) 2 = h55 (r1 + 11) 2 := jK 0 f79 (rg_T11_2_0_1 t3) (by first | decide | omega) (by first | decide | omega) (by decide)
            have q391 : h55 (r1 + 11) 2 = h33 (r1 + 11) 2 := jK 0 f57 (rg_T11_2_0_1 t3) (by first | decide | omega) (by first | decide | omega) (by decide)
            have q392 : h33 (r1 + 11) 2 = h11 (r1 + 11) 2 := jK 0 f35 (rg_T11_2_0_1 t3) (by first | decide | omega) (by first | decide | omega) (by decide)
            have q393 : h11 (r1 + 11) 2 = h (r1 + 11) 2 := jK 0 f13 (rg_T11_2_0_1 t3) (by first | decide | omega) (by first | decide | omega) (by decide)
            refine x_getC (np := 27) (x := 130) (f := 2) (q := (h (r1 + 11) 2)) (by decide +kernel) (by decide) (tg_11_130_2_0 t3) (((((q388.trans q389).trans q390).trans q391).trans q392).trans q393) (fun l394 => ?_)
            refine x_const (np := 28) (x := 9223372043297226753) (a := 2147483649) (by decide +kernel) (by decide) (by decide) ?_
            refine x_iadd (np := 29) (x := 0) (v := (1 + (h (r1 + 11) 2))) (by decide +kernel) l372 (by decide) (by first | decide | omega) (by first | decide | omega) ?_
            refine x_putI (np := 32) (x := 130) (f := 2) (by decide +kernel) (tg_11_130_2_0 t3) (by first | decide | omega) (Or.inl (by decide)) ?_
            have j396 := jU (e := 2) (v := (1 + (h (r1 + 11) 2))) 0 j385 (rg_T11_2_0_1 t3) (by first | decide | omega) (by first | decide | omega) (by first | decide | omega)
            have f398 := jF (e := 2) (v := (1 + (h (r1 + 11) 2))) 0 f387 (rg_T11_2_0_1 t3) (by first | decide | omega) (by first | decide | omega) (by decide)
            generalize e397 : x_up h384 (r1 + 11) 2 (1 + (h (r1 + 11) 2)) = h395 at j396 f398 ⊢
            refine x_const (np := 33) (x := 9223372043297226753) (a := 2147483649) (by decide +kernel) (by decide) (by decide) ?_
            refine x_retI (np := 34) (x := 0) (by decide +kernel) (by decide) (Or.inr ⟨by decide +kernel, by first | decide | omega, by first | decide | omega⟩) ⟨_, rfl, (by decide), ?_⟩
            have q399 : h395 1 2 = h384 1 2 := by rw [← e397]; exact x_up_k (Ne.symm (tne_11_1 t3))
            have q400 : h384 1 2 = h99 1 2 := by rw [← e386]; exact x_up_k (Ne.symm (tne_12_1 t3))
            have q401 : h395 62 1 = h384 62 1 := by rw [← e397]; exact x_up_k (Ne.symm (tne_11_62 t3))
            have q402 : h384 62 1 = h99 62 1 := by rw [← e386]; exact x_up_k (Ne.symm (tne_12_62 t3))
            have q403 : h99 62 1 = h77 62 1 := f101 62 1 (by decide +kernel)
            have q404 : h77 62 1 = h55 62 1 := f79 62 1 (by decide +kernel)
            have q405 : h55 62 1 = h33 62 1 := f57 62 1 (by decide +kernel)
            have q406 : h33 62 1 = h11 62 1 := f35 62 1 (by decide +kernel)
            have q407 : h11 62 1 = h 62 1 := f13 62 1 (by decide +kernel)
            have q408 : h395 (r1 + 11) 2 = (1 + (h (r1 + 11) 2)) := by rw [← e397]; exact x_up_at
            have e409 : cl9 h395 = (1 + (h (r1 + 11) 2)) := (congrArg (fun z => h395 z 2) (((((((q401.trans q402).trans q403).trans q404).trans q405).trans q406).trans q407).trans q2)).trans q408
            have q410 : h395 1 2 = h384 1 2 := by rw [← e397]; exact x_up_k (Ne.symm (tne_11_1 t3))
            have q411 : h384 1 2 = h99 1 2 := by rw [← e386]; exact x_up_k (Ne.symm (tne_12_1 t3))
            obtain ⟨w412, e413⟩ := Tk.no c39 (by first | decide | omega)
            have w414 : ¬ Wd tB tN 2 (h 1 2) := by rw [show h 1 2 = h11 1 2 from (show h11 1 2 = h 1 2 by first | decide | omega).symm]; exact w412
            obtain ⟨w415, e416⟩ := Tk.no c61 (by first | decide | omega)
            have w417 : ¬ Wd tB tN 27 (h 1 2) := by rw [show h 1 2 = h33 1 2 from (show h33 1 2 = h 1 2 by first | decide | omega).symm]; exact w415
            obtain ⟨w418, e419⟩ := Tk.no c83 (by first | decide | omega)
            have w420 : ¬ Wd tB tN 5 (h 1 2) := by rw [show h 1 2 = h55 1 2 from (show h55 1 2 = h 1 2 by first | decide | omega).symm]; exact w418
            obtain ⟨w421, e422⟩ := Tk.yes c105 (by first | decide | omega)
            have q423 : h395 1 2 = h384 1 2 := by rw [← e397]; exact x_up_k (Ne.symm (tne_11_1 t3))
            have q424 : h384 1 2 = h99 1 2 := by rw [← e386]; exact x_up_k (Ne.symm (tne_12_1 t3))
            refine x_retI (np := 60) (x := 0) (by decide +kernel) (by decide) (Or.inr ⟨by decide +kernel, by first | decide | omega, by first | decide | omega⟩) ⟨_, rfl, (by decide), ?_⟩
            exact ⟨j396, f398, (by first | decide | omega), (fun z => by first | decide | omega), (fun z => by first | decide | omega), (fun l => gP_wd (i := 28) (by unfold six; decide) w421 (show h77 1 2 = h 1 2 by first | decide | omega) e422 (by first | decide | omega) (show h99 1 2 = h395 1 2 by first | decide | omega)), (fun z => absurd z (by first | decide | omega))⟩
          have q374 : ¬ ((h (r1 + 11) 2) < 2147484048) := q374
          exfalso; omega
        have q88 : ¬ (v73 = 2147483648) := q88
        have b425 := c81 (by first | decide | omega)
        refine x_aload (np := 48) (x := 0) (by decide +kernel) rfl (x_nc_le (by decide)) ?_
        have q426 : h77 62 1 = h55 62 1 := f79 62 1 (by decide +kernel)
        have q427 : h55 62 1 = h33 62 1 := f57 62 1 (by decide +kernel)
        have q428 : h33 62 1 = h11 62 1 := f35 62 1 (by decide +kernel)
        have q429 : h11 62 1 = h 62 1 := f13 62 1 (by decide +kernel)
        refine x_getR (np := 51) (x := 193) (f := 1) (q := (r1 + 11)) (by decide +kernel) (by decide) (by decide +kernel) ((((q426.trans q427).trans q428).trans q429).trans q2) ?_
        refine x_const (np := 54) (x := 9223376333969556456) (a := 2147484648) (by decide +kernel) (by decide) (by decide) ?_
        refine x_iload (np := 55) (x := 2) (by decide +kernel) rfl (by decide) ?_
        refine x_iadd (np := 56) (x := 0) (v := 2147484650) (by decide +kernel) (by decide) (by decide) (by first | decide | omega) (by first | decide | omega) ?_
        refine x_nI (t := 6) (mj := 36) (n := 2) (rc := 3) (ml := 2) (nr := 0) (np := 59) (as := [x_r (r1 + 11), iv_c 2147484650]) (rest := []) (lo1 := [x_r (r1 + 11), iv_c 2147484650]) (by decide +kernel) (by decide) (by decide +kernel) (x_rb_of (tr_11_3 t3)) rfl rfl (x_wr (tn_11 t3) (x_wi (by decide) x_wn)) x_wn (by decide) rfl ?_
        refine x_aload (np := 1) (x := 0) (by decide +kernel) rfl (x_nc_le (tn_11 t3)) ?_
        have q430 : h77 (r1 + 11) 2 = h55 (r1 + 11) 2 := jK 0 f79 (rg_T11_2_0_1 t3) (by first | decide | omega) (by first | decide | omega) (by decide)
        have q431 : h55 (r1 + 11) 2 = h33 (r1 + 11) 2 := jK 0 f57 (rg_T11_2_0_1 t3) (by first | decide | omega) (by first | decide | omega) (by decide)
        have q432 : h33 (r1 + 11) 2 = h11 (r1 + 11) 2 := jK 0 f35 (rg_T11_2_0_1 t3) (by first | decide | omega) (by first | decide | omega) (by decide)
        have q433 : h11 (r1 + 11) 2 = h (r1 + 11) 2 := jK 0 f13 (rg_T11_2_0_1 t3) (by first | decide | omega) (by first | decide | omega) (by decide)
        refine x_getC (np := 4) (x := 130) (f := 2) (q := (h (r1 + 11) 2)) (by decide +kernel) (by decide) (tg_11_130_2_0 t3) (((q430.trans q431).trans q432).trans q433) (fun l434 => ?_)
        refine x_const (np := 7) (x := 9223373756989178256) (a := 2147484048) (by decide +kernel) (by decide) (by decide) ?_
        refine x_icmp (k := 2) (tg := 12) (np := 10) (by decide +kernel) (by decide) l434 (by decide) (fun q435 => ?_) (fun q436 => ?_)
        · have q435 : (h (r1 + 11) 2) < 2147484048 := q435
          refine x_aload (np := 13) (x := 0) (by decide +kernel) rfl (x_nc_le (tn_11 t3)) ?_
          have q437 : h77 (r1 + 11) 0 = (r1 + 12) := tf_11_0 j78 t3
          refine x_getR (np := 16) (x := 128) (f := 0) (q := (r1 + 12)) (by decide +kernel) (by decide) (tg_11_128_0_1 t3) q437 ?_
          refine x_aload (np := 17) (x := 0) (by decide +kernel) rfl (x_nc_le (tn_11 t3)) ?_
          have q438 : h77 (r1 + 11) 2 = h55 (r1 + 11) 2 := jK 0 f79 (rg_T11_2_0_1 t3) (by first | decide | omega) (by first | decide | omega) (by decide)
          have q439 : h55 (r1 + 11) 2 = h33 (r1 + 11) 2 := jK 0 f57 (rg_T11_2_0_1 t3) (by first | decide | omega) (by first | decide | omega) (by decide)
          have q440 : h33 (r1 + 11) 2 = h11 (r1 + 11) 2 := jK 0 f35 (rg_T11_2_0_1 t3) (by first | decide | omega) (by first | decide | omega) (by decide)
          have q441 : h11 (r1 + 11) 2 = h (r1 + 11) 2 := jK 0 f13 (rg_T11_2_0_1 t3) (by first | decide | omega) (by first | decide | omega) (by decide)
          refine x_getC (np := 20) (x := 130) (f := 2) (q := (h (r1 + 11) 2)) (by decide +kernel) (by decide) (tg_11_130_2_0 t3) (((q438.trans q439).trans q440).trans q441) (fun l442 => ?_)
          refine x_iload (np := 21) (x := 1) (by decide +kernel) rfl (by decide) ?_
          obtain ⟨u443, q444⟩ : ∃ z, (h (r1 + 11) 2) = 2147483648 + z := ⟨(h (r1 + 11) 2) - 2147483648, by first | decide | omega⟩
          refine x_ast (np := 22) (x := 0) (kd := 1) (n := 400) (i := u443) (by decide +kernel) (Or.inl rfl) (ta_12_400 t3) (by first | decide | omega) (by first | decide | omega) (by decide) (by decide) (fun z => absurd z (by decide)) ?_
          have j446 := jU (e := u443) (v := 2147484650) u443 j78 (rg_T12_0_1_400 t3) (by first | decide | omega) (by first | decide | omega) (by first | decide | omega)
          have f448 := jF (e := u443) (v := 2147484650) u443 f84 (rg_T12_0_1_400 t3) (by first | decide | omega) (by first | decide | omega) (by decide)
          generalize e447 : x_up h77 (r1 + 12) u443 2147484650 = h445 at j446 f448 ⊢
          refine x_aload (np := 23) (x := 0) (by decide +kernel) rfl (x_nc_le (tn_11 t3)) ?_
          refine x_dup (np := 24) (x := 0) (by decide +kernel) (by have z := x_nc_le (k := (r1 + 11)) (tn_11 t3); unfold x_r; omega) ?_
          have q449 : h445 (r1 + 11) 2 = h77 (r1 + 11) 2 := by rw [← e447]; exact x_up_k tof_11_12
          have q450 : h77 (r1 + 11) 2 = h55 (r1 + 11) 2 := jK 0 f79 (rg_T11_2_0_1 t3) (by first | decide | omega) (by first | decide | omega) (by decide)
          have q451 : h55 (r1 + 11) 2 = h33 (r1 + 11) 2 := jK 0 f57 (rg_T11_2_0_1 t3) (by first | decide | omega) (by first | decide | omega) (by decide)
          have q452 : h33 (r1 + 11) 2 = h11 (r1 + 11) 2 := jK 0 f35 (rg_T11_2_0_1 t3) (by first | decide | omega) (by first | decide | omega) (by decide)
          have q453 : h11 (r1 + 11) 2 = h (r1 + 11) 2 := jK 0 f13 (rg_T11_2_0_1 t3) (by first | decide | omega) (by first | decide | omega) (by decide)
          refine x_getC (np := 27) (x := 130) (f := 2) (q := (h (r1 + 11) 2)) (by decide +kernel) (by decide) (tg_11_130_2_0 t3) ((((q449.trans q450).trans q451).trans q452).trans q453) (fun l454 => ?_)
          refine x_const (np := 28) (x := 9223372043297226753) (a := 2147483649) (by decide +kernel) (by decide) (by decide) ?_
          refine x_iadd (np := 29) (x := 0) (v := (1 + (h (r1 + 11) 2))) (by decide +kernel) l434 (by decide) (by first | decide | omega) (by first | decide | omega) ?_
          refine x_putI (np := 32) (x := 130) (f := 2) (by decide +kernel) (tg_11_130_2_0 t3) (by first | decide | omega) (Or.inl (by decide)) ?_
          have j456 := jU (e := 2) (v := (1 + (h (r1 + 11) 2))) 0 j446 (rg_T11_2_0_1 t3) (by first | decide | omega) (by first | decide | omega) (by first | decide | omega)
          have f458 := jF (e := 2) (v := (1 + (h (r1 + 11) 2))) 0 f448 (rg_T11_2_0_1 t3) (by first | decide | omega) (by first | decide | omega) (by decide)
          generalize e457 : x_up h445 (r1 + 11) 2 (1 + (h (r1 + 11) 2)) = h455 at j456 f458 ⊢
          refine x_const (np := 33) (x := 9223372043297226753) (a := 2147483649) (by decide +kernel) (by decide) (by decide) ?_
          refine x_retI (np := 34) (x := 0) (by decide +kernel) (by decide) (Or.inr ⟨by decide +kernel, by first | decide | omega, by first | decide | omega⟩) ⟨_, rfl, (by decide), ?_⟩
          have q459 : h455 1 2 = h445 1 2 := by rw [← e457]; exact x_up_k (Ne.symm (tne_11_1 t3))
          have q460 : h445 1 2 = h77 1 2 := by rw [← e447]; exact x_up_k (Ne.symm (tne_12_1 t3))
          have q461 : h455 62 1 = h445 62 1 := by rw [← e457]; exact x_up_k (Ne.symm (tne_11_62 t3))
          have q462 : h445 62 1 = h77 62 1 := by rw [← e447]; exact x_up_k (Ne.symm (tne_12_62 t3))
          have q463 : h77 62 1 = h55 62 1 := f79 62 1 (by decide +kernel)
          have q464 : h55 62 1 = h33 62 1 := f57 62 1 (by decide +kernel)
          have q465 : h33 62 1 = h11 62 1 := f35 62 1 (by decide +kernel)
          have q466 : h11 62 1 = h 62 1 := f13 62 1 (by decide +kernel)
          have q467 : h455 (r1 + 11) 2 = (1 + (h (r1 + 11) 2)) := by rw [← e457]; exact x_up_at
          have e468 : cl9 h455 = (1 + (h (r1 + 11) 2)) := (congrArg (fun z => h455 z 2) ((((((q461.trans q462).trans q463).trans q464).trans q465).trans q466).trans q2)).trans q467
          have q469 : h455 1 2 = h445 1 2 := by rw [← e457]; exact x_up_k (Ne.symm (tne_11_1 t3))
          have q470 : h445 1 2 = h77 1 2 := by rw [← e447]; exact x_up_k (Ne.symm (tne_12_1 t3))
          obtain ⟨w471, e472⟩ := Tk.no c39 (by first | decide | omega)
          have w473 : ¬ Wd tB tN 2 (h 1 2) := by rw [show h 1 2 = h11 1 2 from (show h11 1 2 = h 1 2 by first | decide | omega).symm]; exact w471
          obtain ⟨w474, e475⟩ := Tk.no c61 (by first | decide | omega)
          have w476 : ¬ Wd tB tN 27 (h 1 2) := by rw [show h 1 2 = h33 1 2 from (show h33 1 2 = h 1 2 by first | decide | omega).symm]; exact w474
          obtain ⟨w477, e478⟩ := Tk.yes c83 (by first | decide | omega)
          have q479 : h455 1 2 = h445 1 2 := by rw [← e457]; exact x_up_k (Ne.symm (tne_11_1 t3))
          have q480 : h445 1 2 = h77 1 2 := by rw [← e447]; exact x_up_k (Ne.symm (tne_12_1 t3))
          refine x_retI (np := 60) (x := 0) (by decide +kernel) (by decide) (Or.inr ⟨by decide +kernel, by first | decide | omega, by first | decide | omega⟩) ⟨_, rfl, (by decide), ?_⟩
          exact ⟨j456, f458, (by first | decide | omega), (fun z => by first | decide | omega), (fun z => by first | decide | omega), (fun l => gP_wd (i := 5) (by unfold six; decide) w477 (show h55 1 2 = h 1 2 by first | decide | omega) e478 (by first | decide | omega) (show h77 1 2 = h455 1 2 by first | decide | omega)), (fun z => absurd z (by first | decide | omega))⟩
        have q436 : ¬ ((h (r1 + 11) 2) < 2147484048) := q436
        exfalso; omega
      have q66 : ¬ (v51 = 2147483648) := q66
      have b481 := c59 (by first | decide | omega)
      refine x_aload (np := 48) (x := 0) (by decide +kernel) rfl (x_nc_le (by decide)) ?_
      have q482 : h55 62 1 = h33 62 1 := f57 62 1 (by decide +kernel)
      have q483 : h33 62 1 = h11 62 1 := f35 62 1 (by decide +kernel)
      have q484 : h11 62 1 = h 62 1 := f13 62 1 (by decide +kernel)
      refine x_getR (np := 51) (x := 193) (f := 1) (q := (r1 + 11)) (by decide +kernel) (by decide) (by decide +kernel) (((q482.trans q483).trans q484).trans q2) ?_
      refine x_const (np := 54) (x := 9223376333969556456) (a := 2147484648) (by decide +kernel) (by decide) (by decide) ?_
      refine x_iload (np := 55) (x := 2) (by decide +kernel) rfl (by decide) ?_
      refine x_iadd (np := 56) (x := 0) (v := 2147484649) (by decide +kernel) (by decide) (by decide) (by first | decide | omega) (by first | decide | omega) ?_
      refine x_nI (t := 6) (mj := 36) (n := 2) (rc := 3) (ml := 2) (nr := 0) (np := 59) (as := [x_r (r1 + 11), iv_c 2147484649]) (rest := []) (lo1 := [x_r (r1 + 11), iv_c 2147484649]) (by decide +kernel) (by decide) (by decide +kernel) (x_rb_of (tr_11_3 t3)) rfl rfl (x_wr (tn_11 t3) (x_wi (by decide) x_wn)) x_wn (by decide) rfl ?_
      refine x_aload (np := 1) (x := 0) (by decide +kernel) rfl (x_nc_le (tn_11 t3)) ?_
      have q485 : h55 (r1 + 11) 2 = h33 (r1 + 11) 2 := jK 0 f57 (rg_T11_2_0_1 t3) (by first | decide | omega) (by first | decide | omega) (by decide)
      have q486 : h33 (r1 + 11) 2 = h11 (r1 + 11) 2 := jK 0 f35 (rg_T11_2_0_1 t3) (by first | decide | omega) (by first | decide | omega) (by decide)
      have q487 : h11 (r1 + 11) 2 = h (r1 + 11) 2 := jK 0 f13 (rg_T11_2_0_1 t3) (by first | decide | omega) (by first | decide | omega) (by decide)
      refine x_getC (np := 4) (x := 130) (f := 2) (q := (h (r1 + 11) 2)) (by decide +kernel) (by decide) (tg_11_130_2_0 t3) ((q485.trans q486).trans q487) (fun l488 => ?_)
      refine x_const (np := 7) (x := 9223373756989178256) (a := 2147484048) (by decide +kernel) (by decide) (by decide) ?_
      refine x_icmp (k := 2) (tg := 12) (np := 10) (by decide +kernel) (by decide) l488 (by decide) (fun q489 => ?_) (fun q490 => ?_)
      · have q489 : (h (r1 + 11) 2) < 2147484048 := q489
        refine x_aload (np := 13) (x := 0) (by decide +kernel) rfl (x_nc_le (tn_11 t3)) ?_
        have q491 : h55 (r1 + 11) 0 = (r1 + 12) := tf_11_0 j56 t3
        refine x_getR (np := 16) (x := 128) (f := 0) (q := (r1 + 12)) (by decide +kernel) (by decide) (tg_11_128_0_1 t3) q491 ?_
        refine x_aload (np := 17) (x := 0) (by decide +kernel) rfl (x_nc_le (tn_11 t3)) ?_
        have q492 : h55 (r1 + 11) 2 = h33 (r1 + 11) 2 := jK 0 f57 (rg_T11_2_0_1 t3) (by first | decide | omega) (by first | decide | omega) (by decide)
        have q493 : h33 (r1 + 11) 2 = h11 (r1 + 11) 2 := jK 0 f35 (rg_T11_2_0_1 t3) (by first | decide | omega) (by first | decide | omega) (by decide)
        have q494 : h11 (r1 + 11) 2 = h (r1 + 11) 2 := jK 0 f13 (rg_T11_2_0_1 t3) (by first | decide | omega) (by first | decide | omega) (by decide)
        refine x_getC (np := 20) (x := 130) (f := 2) (q := (h (r1 + 11) 2)) (by decide +kernel) (by decide) (tg_11_130_2_0 t3) ((q492.trans q493).trans q494) (fun l495 => ?_)
        refine x_iload (np := 21) (x := 1) (by decide +kernel) rfl (by decide) ?_
        obtain ⟨u496, q497⟩ : ∃ z, (h (r1 + 11) 2) = 2147483648 + z := ⟨(h (r1 + 11) 2) - 2147483648, by first | decide | omega⟩
        refine x_ast (np := 22) (x := 0) (kd := 1) (n := 400) (i := u496) (by decide +kernel) (Or.inl rfl) (ta_12_400 t3) (by first | decide | omega) (by first | decide | omega) (by decide) (by decide) (fun z => absurd z (by decide)) ?_
        have j499 := jU (e := u496) (v := 2147484649) u496 j56 (rg_T12_0_1_400 t3) (by first | decide | omega) (by first | decide | omega) (by first | decide | omega)
        have f501 := jF (e := u496) (v := 2147484649) u496 f62 (rg_T12_0_1_400 t3) (by first | decide | omega) (by first | decide | omega) (by decide)
        generalize e500 : x_up h55 (r1 + 12) u496 2147484649 = h498 at j499 f501 ⊢
        refine x_aload (np := 23) (x := 0) (by decide +kernel) rfl (x_nc_le (tn_11 t3)) ?_
        refine x_dup (np := 24) (x := 0) (by decide +kernel) (by have z := x_nc_le (k := (r1 + 11)) (tn_11 t3); unfold x_r; omega) ?_
        have q502 : h498 (r1 + 11) 2 = h55 (r1 + 11) 2 := by rw [← e500]; exact x_up_k tof_11_12
        have q503 : h55 (r1 + 11) 2 = h33 (r1 + 11) 2 := jK 0 f57 (rg_T11_2_0_1 t3) (by first | decide | omega) (by first | decide | omega) (by decide)
        have q504 : h33 (r1 + 11) 2 = h11 (r1 + 11) 2 := jK 0 f35 (rg_T11_2_0_1 t3) (by first | decide | omega) (by first | decide | omega) (by decide)
        have q505 : h11 (r1 + 11) 2 = h (r1 + 11) 2 := jK 0 f13 (rg_T11_2_0_1 t3) (by first | decide | omega) (by first | decide | omega) (by decide)
        refine x_getC (np := 27) (x := 130) (f := 2) (q := (h (r1 + 11) 2)) (by decide +kernel) (by decide) (tg_11_130_2_0 t3) (((q502.trans q503).trans q504).trans q505) (fun l506 => ?_)
        refine x_const (np := 28) (x := 9223372043297226753) (a := 2147483649) (by decide +kernel) (by decide) (by decide) ?_
        refine x_iadd (np := 29) (x := 0) (v := (1 + (h (r1 + 11) 2))) (by decide +kernel) l488 (by decide) (by first | decide | omega) (by first | decide | omega) ?_
        refine x_putI (np := 32) (x := 130) (f := 2) (by decide +kernel) (tg_11_130_2_0 t3) (by first | decide | omega) (Or.inl (by decide)) ?_
        have j508 := jU (e := 2) (v := (1 + (h (r1 + 11) 2))) 0 j499 (rg_T11_2_0_1 t3) (by first | decide | omega) (by first | decide | omega) (by first | decide | omega)
        have f510 := jF (e := 2) (v := (1 + (h (r1 + 11) 2))) 0 f501 (rg_T11_2_0_1 t3) (by first | decide | omega) (by first | decide | omega) (by decide)
        generalize e509 : x_up h498 (r1 + 11) 2 (1 + (h (r1 + 11) 2)) = h507 at j508 f510 ⊢
        refine x_const (np := 33) (x := 9223372043297226753) (a := 2147483649) (by decide +kernel) (by decide) (by decide) ?_
        refine x_retI (np := 34) (x := 0) (by decide +kernel) (by decide) (Or.inr ⟨by decide +kernel, by first | decide | omega, by first | decide | omega⟩) ⟨_, rfl, (by decide), ?_⟩
        have q511 : h507 1 2 = h498 1 2 := by rw [← e509]; exact x_up_k (Ne.symm (tne_11_1 t3))
        have q512 : h498 1 2 = h55 1 2 := by rw [← e500]; exact x_up_k (Ne.symm (tne_12_1 t3))
        have q513 : h507 62 1 = h498 62 1 := by rw [← e509]; exact x_up_k (Ne.symm (tne_11_62 t3))
        have q514 : h498 62 1 = h55 62 1 := by rw [← e500]; exact x_up_k (Ne.symm (tne_12_62 t3))
        have q515 : h55 62 1 = h33 62 1 := f57 62 1 (by decide +kernel)
        have q516 : h33 62 1 = h11 62 1 := f35 62 1 (by decide +kernel)
        have q517 : h11 62 1 = h 62 1 := f13 62 1 (by decide +kernel)
        have q518 : h507 (r1 + 11) 2 = (1 + (h (r1 + 11) 2)) := by rw [← e509]; exact x_up_at
        have e519 : cl9 h507 = (1 + (h (r1 + 11) 2)) := (congrArg (fun z => h507 z 2) (((((q513.trans q514).trans q515).trans q516).trans q517).trans q2)).trans q518
        have q520 : h507 1 2 = h498 1 2 := by rw [← e509]; exact x_up_k (Ne.symm (tne_11_1 t3))
        have q521 : h498 1 2 = h55 1 2 := by rw [← e500]; exact x_up_k (Ne.symm (tne_12_1 t3))
        obtain ⟨w522, e523⟩ := Tk.no c39 (by first | decide | omega)
        have w524 : ¬ Wd tB tN 2 (h 1 2) := by rw [show h 1 2 = h11 1 2 from (show h11 1 2 = h 1 2 by first | decide | omega).symm]; exact w522
        obtain ⟨w525, e526⟩ := Tk.yes c61 (by first | decide | omega)
        have q527 : h507 1 2 = h498 1 2 := by rw [← e509]; exact x_up_k (Ne.symm (tne_11_1 t3))
        have q528 : h498 1 2 = h55 1 2 := by rw [← e500]; exact x_up_k (Ne.symm (tne_12_1 t3))
        refine x_retI (np := 60) (x := 0) (by decide +kernel) (by decide) (Or.inr ⟨by decide +kernel, by first | decide | omega, by first | decide | omega⟩) ⟨_, rfl, (by decide), ?_⟩
        exact ⟨j508, f510, (by first | decide | omega), (fun z => by first | decide | omega), (fun z => by first | decide | omega), (fun l => gP_wd (i := 27) (by unfold six; decide) w525 (show h33 1 2 = h 1 2 by first | decide | omega) e526 (by first | decide | omega) (show h55 1 2 = h507 1 2 by first | decide | omega)), (fun z => absurd z (by first | decide | omega))⟩
      have q490 : ¬ ((h (r1 + 11) 2) < 2147484048) := q490
      exfalso; omega
    have q44 : ¬ (v29 = 2147483648) := q44
    have b529 := c37 (by first | decide | omega)
    refine x_aload (np := 48) (x := 0) (by decide +kernel) rfl (x_nc_le (by decide)) ?_
    have q530 : h33 62 1 = h11 62 1 := f35 62 1 (by decide +kernel)
    have q531 : h11 62 1 = h 62 1 := f13 62 1 (by decide +kernel)
    refine x_getR (np := 51) (x := 193) (f := 1) (q := (r1 + 11)) (by decide +kernel) (by decide) (by decide +kernel) ((q530.trans q531).trans q2) ?_
    refine x_const (np := 54) (x := 9223376333969556456) (a := 2147484648) (by decide +kernel) (by decide) (by decide) ?_
    refine x_iload (np := 55) (x := 2) (by decide +kernel) rfl (by decide) ?_
    refine x_iadd (np := 56) (x := 0) (v := 2147484648) (by decide +kernel) (by decide) (by decide) (by first | decide | omega) (by first | decide | omega) ?_
    refine x_nI (t := 6) (mj := 36) (n := 2) (rc := 3) (ml := 2) (nr := 0) (np := 59) (as := [x_r (r1 + 11), iv_c 2147484648]) (rest := []) (lo1 := [x_r (r1 + 11), iv_c 2147484648]) (by decide +kernel) (by decide) (by decide +kernel) (x_rb_of (tr_11_3 t3)) rfl rfl (x_wr (tn_11 t3) (x_wi (by decide) x_wn)) x_wn (by decide) rfl ?_
    refine x_aload (np := 1) (x := 0) (by decide +kernel) rfl (x_nc_le (tn_11 t3)) ?_
    have q532 : h33 (r1 + 11) 2 = h11 (r1 + 11) 2 := jK 0 f35 (rg_T11_2_0_1 t3) (by first | decide | omega) (by first | decide | omega) (by decide)
    have q533 : h11 (r1 + 11) 2 = h (r1 + 11) 2 := jK 0 f13 (rg_T11_2_0_1 t3) (by first | decide | omega) (by first | decide | omega) (by decide)
    refine x_getC (np := 4) (x := 130) (f := 2) (q := (h (r1 + 11) 2)) (by decide +kernel) (by decide) (tg_11_130_2_0 t3) (q532.trans q533) (fun l534 => ?_)
    refine x_const (np := 7) (x := 9223373756989178256) (a := 2147484048) (by decide +kernel) (by decide) (by decide) ?_
    refine x_icmp (k := 2) (tg := 12) (np := 10) (by decide +kernel) (by decide) l534 (by decide) (fun q535 => ?_) (fun q536 => ?_)
    · have q535 : (h (r1 + 11) 2) < 2147484048 := q535
      refine x_aload (np := 13) (x := 0) (by decide +kernel) rfl (x_nc_le (tn_11 t3)) ?_
      have q537 : h33 (r1 + 11) 0 = (r1 + 12) := tf_11_0 j34 t3
      refine x_getR (np := 16) (x := 128) (f := 0) (q := (r1 + 12)) (by decide +kernel) (by decide) (tg_11_128_0_1 t3) q537 ?_
      refine x_aload (np := 17) (x := 0) (by decide +kernel) rfl (x_nc_le (tn_11 t3)) ?_
      have q538 : h33 (r1 + 11) 2 = h11 (r1 + 11) 2 := jK 0 f35 (rg_T11_2_0_1 t3) (by first | decide | omega) (by first | decide | omega) (by decide)
      have q539 : h11 (r1 + 11) 2 = h (r1 + 11) 2 := jK 0 f13 (rg_T11_2_0_1 t3) (by first | decide | omega) (by first | decide | omega) (by decide)
      refine x_getC (np := 20) (x := 130) (f := 2) (q := (h (r1 + 11) 2)) (by decide +kernel) (by decide) (tg_11_130_2_0 t3) (q538.trans q539) (fun l540 => ?_)
      refine x_iload (np := 21) (x := 1) (by decide +kernel) rfl (by decide) ?_
      obtain ⟨u541, q542⟩ : ∃ z, (h (r1 + 11) 2) = 2147483648 + z := ⟨(h (r1 + 11) 2) - 2147483648, by first | decide | omega⟩
      refine x_ast (np := 22) (x := 0) (kd := 1) (n := 400) (i := u541) (by decide +kernel) (Or.inl rfl) (ta_12_400 t3) (by first | decide | omega) (by first | decide | omega) (by decide) (by decide) (fun z => absurd z (by decide)) ?_
      have j544 := jU (e := u541) (v := 2147484648) u541 j34 (rg_T12_0_1_400 t3) (by first | decide | omega) (by first | decide | omega) (by first | decide | omega)
      have f546 := jF (e := u541) (v := 2147484648) u541 f40 (rg_T12_0_1_400 t3) (by first | decide | omega) (by first | decide | omega) (by decide)
      generalize e545 : x_up h33 (r1 + 12) u541 2147484648 = h543 at j544 f546 ⊢
      refine x_aload (np := 23) (x := 0) (by decide +kernel) rfl (x_nc_le (tn_11 t3)) ?_
      refine x_dup (np := 24) (x := 0) (by decide +kernel) (by have z := x_nc_le (k := (r1 + 11)) (tn_11 t3); unfold x_r; omega) ?_
      have q547 : h543 (r1 + 11) 2 = h33 (r1 + 11) 2 := by rw [← e545]; exact x_up_k tof_11_12
      have q548 : h33 (r1 + 11) 2 = h11 (r1 + 11) 2 := jK 0 f35 (rg_T11_2_0_1 t3) (by first | decide | omega) (by first | decide | omega) (by decide)
      have q549 : h11 (r1 + 11) 2 = h (r1 + 11) 2 := jK 0 f13 (rg_T11_2_0_1 t3) (by first | decide | omega) (by first | decide | omega) (by decide)
      refine x_getC (np := 27) (x := 130) (f := 2) (q := (h (r1 + 11) 2)) (by decide +kernel) (by decide) (tg_11_130_2_0 t3) ((q547.trans q548).trans q549) (fun l550 => ?_)
      refine x_const (np := 28) (x := 9223372043297226753) (a := 2147483649) (by decide +kernel) (by decide) (by decide) ?_
      refine x_iadd (np := 29) (x := 0) (v := (1 + (h (r1 + 11) 2))) (by decide +kernel) l534 (by decide) (by first | decide | omega) (by first | decide | omega) ?_
      refine x_putI (np := 32) (x := 130) (f := 2) (by decide +kernel) (tg_11_130_2_0 t3) (by first | decide | omega) (Or.inl (by decide)) ?_
      have j552 := jU (e := 2) (v := (1 + (h (r1 + 11) 2))) 0 j544 (rg_T11_2_0_1 t3) (by first | decide | omega) (by first | decide | omega) (by first | decide | omega)
      have f554 := jF (e := 2) (v := (1 + (h (r1 + 11) 2))) 0 f546 (rg_T11_2_0_1 t3) (by first | decide | omega) (by first | decide | omega) (by decide)
      generalize e553 : x_up h543 (r1 + 11) 2 (1 + (h (r1 + 11) 2)) = h551 at j552 f554 ⊢
      refine x_const (np := 33) (x := 9223372043297226753) (a := 2147483649) (by decide +kernel) (by decide) (by decide) ?_
      refine x_retI (np := 34) (x := 0) (by decide +kernel) (by decide) (Or.inr ⟨by decide +kernel, by first | decide | omega, by first | decide | omega⟩) ⟨_, rfl, (by decide), ?_⟩
      have q555 : h551 1 2 = h543 1 2 := by rw [← e553]; exact x_up_k (Ne.symm (tne_11_1 t3))
      have q556 : h543 1 2 = h33 1 2 := by rw [← e545]; exact x_up_k (Ne.symm (tne_12_1 t3))
      have q557 : h551 62 1 = h543 62 1 := by rw [← e553]; exact x_up_k (Ne.symm (tne_11_62 t3))
      have q558 : h543 62 1 = h33 62 1 := by rw [← e545]; exact x_up_k (Ne.symm (tne_12_62 t3))
      have q559 : h33 62 1 = h11 62 1 := f35 62 1 (by decide +kernel)
      have q560 : h11 62 1 = h 62 1 := f13 62 1 (by decide +kernel)
      have q561 : h551 (r1 + 11) 2 = (1 + (h (r1 + 11) 2)) := by rw [← e553]; exact x_up_at
      have e562 : cl9 h551 = (1 + (h (r1 + 11) 2)) := (congrArg (fun z => h551 z 2) ((((q557.trans q558).trans q559).trans q560).trans q2)).trans q561
      have q563 : h551 1 2 = h543 1 2 := by rw [← e553]; exact x_up_k (Ne.symm (tne_11_1 t3))
      have q564 : h543 1 2 = h33 1 2 := by rw [← e545]; exact x_up_k (Ne.symm (tne_12_1 t3))
      obtain ⟨w565, e566⟩ := Tk.yes c39 (by first | decide | omega)
      have q567 : h551 1 2 = h543 1 2 := by rw [← e553]; exact x_up_k (Ne.symm (tne_11_1 t3))
      have q568 : h543 1 2 = h33 1 2 := by rw [← e545]; exact x_up_k (Ne.symm (tne_12_1 t3))
      refine x_retI (np := 60) (x := 0) (by decide +kernel) (by decide) (Or.inr ⟨by decide +kernel, by first | decide | omega, by first | decide | omega⟩) ⟨_, rfl, (by decide), ?_⟩
      exact ⟨j552, f554, (by first | decide | omega), (fun z => by first | decide | omega), (fun z => by first | decide | omega), (fun l => gP_wd (i := 2) (by unfold six; decide) w565 (show h11 1 2 = h 1 2 by first | decide | omega) e566 (by first | decide | omega) (show h33 1 2 = h551 1 2 by first | decide | omega)), (fun z => absurd z (by first | decide | omega))⟩
    have q536 : ¬ ((h (r1 + 11) 2) < 2147484048) := q536
    exfalso; omega
  have q22 : ¬ (v8 = 2147483647) := q22
  have b569 := c16 (by first | decide | omega)
  refine x_aload (np := 18) (x := 0) (by decide +kernel) rfl (x_nc_le (by decide)) ?_
  have q570 : h11 62 1 = h 62 1 := f13 62 1 (by decide +kernel)
  refine x_getR (np := 21) (x := 193) (f := 1) (q := (r1 + 11)) (by decide +kernel) (by decide) (by decide +kernel) (q570.trans q2) ?_
  refine x_iload (np := 22) (x := 1) (by decide +kernel) rfl l9 ?_
  refine x_nI (t := 6) (mj := 36) (n := 2) (rc := 3) (ml := 2) (nr := 0) (np := 25) (as := [x_r (r1 + 11), iv_c v8]) (rest := []) (lo1 := [x_r (r1 + 11), iv_c v8]) (by decide +kernel) (by decide) (by decide +kernel) (x_rb_of (tr_11_3 t3)) rfl rfl (x_wr (tn_11 t3) (x_wi l9 x_wn)) x_wn (by decide) rfl ?_
  refine x_aload (np := 1) (x := 0) (by decide +kernel) rfl (x_nc_le (tn_11 t3)) ?_
  have q571 : h11 (r1 + 11) 2 = h (r1 + 11) 2 := jK 0 f13 (rg_T11_2_0_1 t3) (by first | decide | omega) (by first | decide | omega) (by decide)
  refine x_getC (np := 4) (x := 130) (f := 2) (q := (h (r1 + 11) 2)) (by decide +kernel) (by decide) (tg_11_130_2_0 t3) q571 (fun l572 => ?_)
  refine x_const (np := 7) (x := 9223373756989178256) (a := 2147484048) (by decide +kernel) (by decide) (by decide) ?_
  refine x_icmp (k := 2) (tg := 12) (np := 10) (by decide +kernel) (by decide) l572 (by decide) (fun q573 => ?_) (fun q574 => ?_)
  · have q573 : (h (r1 + 11) 2) < 2147484048 := q573
    refine x_aload (np := 13) (x := 0) (by decide +kernel) rfl (x_nc_le (tn_11 t3)) ?_
    have q575 : h11 (r1 + 11) 0 = (r1 + 12) := tf_11_0 j12 t3
    refine x_getR (np := 16) (x := 128) (f := 0) (q := (r1 + 12)) (by decide +kernel) (by decide) (tg_11_128_0_1 t3) q575 ?_
    refine x_aload (np := 17) (x := 0) (by decide +kernel) rfl (x_nc_le (tn_11 t3)) ?_
    have q576 : h11 (r1 + 11) 2 = h (r1 + 11) 2 := jK 0 f13 (rg_T11_2_0_1 t3) (by first | decide | omega) (by first | decide | omega) (by decide)
    refine x_getC (np := 20) (x := 130) (f := 2) (q := (h (r1 + 11) 2)) (by decide +kernel) (by decide) (tg_11_130_2_0 t3) q576 (fun l577 => ?_)
    refine x_iload (np := 21) (x := 1) (by decide +kernel) rfl l9 ?_
    obtain ⟨u578, q579⟩ : ∃ z, (h (r1 + 11) 2) = 2147483648 + z := ⟨(h (r1 + 11) 2) - 2147483648, by first | decide | omega⟩
    refine x_ast (np := 22) (x := 0) (kd := 1) (n := 400) (i := u578) (by decide +kernel) (Or.inl rfl) (ta_12_400 t3) (by first | decide | omega) (by first | decide | omega) (by decide) l9 (fun z => absurd z (by decide)) ?_
    have j581 := jU (e := u578) (v := v8) u578 j12 (rg_T12_0_1_400 t3) (by first | decide | omega) (by first | decide | omega) (by first | decide | omega)
    have f583 := jF (e := u578) (v := v8) u578 f19 (rg_T12_0_1_400 t3) (by first | decide | omega) (by first | decide | omega) (by decide)
    generalize e582 : x_up h11 (r1 + 12) u578 v8 = h580 at j581 f583 ⊢
    refine x_aload (np := 23) (x := 0) (by decide +kernel) rfl (x_nc_le (tn_11 t3)) ?_
    refine x_dup (np := 24) (x := 0) (by decide +kernel) (by have z := x_nc_le (k := (r1 + 11)) (tn_11 t3); unfold x_r; omega) ?_
    have q584 : h580 (r1 + 11) 2 = h11 (r1 + 11) 2 := by rw [← e582]; exact x_up_k tof_11_12
    have q585 : h11 (r1 + 11) 2 = h (r1 + 11) 2 := jK 0 f13 (rg_T11_2_0_1 t3) (by first | decide | omega) (by first | decide | omega) (by decide)
    refine x_getC (np := 27) (x := 130) (f := 2) (q := (h (r1 + 11) 2)) (by decide +kernel) (by decide) (tg_11_130_2_0 t3) (q584.trans q585) (fun l586 => ?_)
    refine x_const (np := 28) (x := 9223372043297226753) (a := 2147483649) (by decide +kernel) (by decide) (by decide) ?_
    refine x_iadd (np := 29) (x := 0) (v := (1 + (h (r1 + 11) 2))) (by decide +kernel) l572 (by decide) (by first | decide | omega) (by first | decide | omega) ?_
    refine x_putI (np := 32) (x := 130) (f := 2) (by decide +kernel) (tg_11_130_2_0 t3) (by first | decide | omega) (Or.inl (by decide)) ?_
    have j588 := jU (e := 2) (v := (1 + (h (r1 + 11) 2))) 0 j581 (rg_T11_2_0_1 t3) (by first | decide | omega) (by first | decide | omega) (by first | decide | omega)
    have f590 := jF (e := 2) (v := (1 + (h (r1 + 11) 2))) 0 f583 (rg_T11_2_0_1 t3) (by first | decide | omega) (by first | decide | omega) (by decide)
    generalize e589 : x_up h580 (r1 + 11) 2 (1 + (h (r1 + 11) 2)) = h587 at j588 f590 ⊢
    refine x_const (np := 33) (x := 9223372043297226753) (a := 2147483649) (by decide +kernel) (by decide) (by decide) ?_
    refine x_retI (np := 34) (x := 0) (by decide +kernel) (by decide) (Or.inr ⟨by decide +kernel, by first | decide | omega, by first | decide | omega⟩) ⟨_, rfl, (by decide), ?_⟩
    have q591 : h587 1 2 = h580 1 2 := by rw [← e589]; exact x_up_k (Ne.symm (tne_11_1 t3))
    have q592 : h580 1 2 = h11 1 2 := by rw [← e582]; exact x_up_k (Ne.symm (tne_12_1 t3))
    have q593 : h587 62 1 = h580 62 1 := by rw [← e589]; exact x_up_k (Ne.symm (tne_11_62 t3))
    have q594 : h580 62 1 = h11 62 1 := by rw [← e582]; exact x_up_k (Ne.symm (tne_12_62 t3))
    have q595 : h11 62 1 = h 62 1 := f13 62 1 (by decide +kernel)
    have q596 : h587 (r1 + 11) 2 = (1 + (h (r1 + 11) 2)) := by rw [← e589]; exact x_up_at
    have e597 : cl9 h587 = (1 + (h (r1 + 11) 2)) := (congrArg (fun z => h587 z 2) (((q593.trans q594).trans q595).trans q2)).trans q596
    have q598 : h587 1 2 = h580 1 2 := by rw [← e589]; exact x_up_k (Ne.symm (tne_11_1 t3))
    have q599 : h580 1 2 = h11 1 2 := by rw [← e582]; exact x_up_k (Ne.symm (tne_12_1 t3))
    have q600 : h587 1 2 = h580 1 2 := by rw [← e589]; exact x_up_k (Ne.symm (tne_11_1 t3))
    have q601 : h580 1 2 = h11 1 2 := by rw [← e582]; exact x_up_k (Ne.symm (tne_12_1 t3))
    refine x_retI (np := 26) (x := 0) (by decide +kernel) (by decide) (Or.inr ⟨by decide +kernel, by first | decide | omega, by first | decide | omega⟩) ⟨_, rfl, (by decide), ?_⟩
    exact ⟨j588, f590, (by first | decide | omega), (fun z => by first | decide | omega), (fun z => by first | decide | omega), (fun l => gP_num c18 rfl (by first | decide | omega) (by first | decide | omega) (show h11 1 2 = h587 1 2 by first | decide | omega)), (fun z => absurd z (by first | decide | omega))⟩
  have q574 : ¬ ((h (r1 + 11) 2) < 2147484048) := q574
  exfalso; omega
set_option maxHeartbeats 0 in
/-- LentNames$CustomReader.readSum()Z -/
theorem c49_62 {sc : Nat × Nat} {d  : Nat} {h : xh} {tB : Nat → Nat} {tN : Nat} (hJ : J h) (hr0 : (cl9 h) + 5 ≤ (h 1 2)) (hT : Tp tB tN h) : X sc 49 (d + 7) (xI fun r h' => J h' ∧ Fr 161 h h' ∧ (2147483648 ≤ r ∧ r ≤ 2147483649) ∧ (r = 2147483649 → h 1 2 + 1 ≤ h' 1 2) ∧ (r = 2147483649 → cl9 h' + h 1 2 ≤ h' 1 2 + cl9 h) ∧ (∀ l, G tB tN (Kd.seq 0) l (h 1 2) (rs r (h' 1 2))) ∧ (r = 2147483648 → ∀ l, GF tB tN (Kd.seq 0) l (h 1 2) (h' 1 2))) 0 0 0 [x_r 62, 147573952589676412928] [] h := by
  have hF := Fr.refl 161 h
  obtain ⟨r1, q2, t3⟩ : ∃ z, (h 62 1) = z + 11 ∧ tw z := by
    rcases hJ.2.2.2.2.2.2.2 with z | z
    · exact ⟨17, by rw [z], Or.inl rfl⟩
    · exact ⟨31, by rw [z], Or.inr rfl⟩
  have b4 := jB (e := 2) 0 hJ (rg_T11_2_0_1 t3) (by first | decide | omega) (by first | decide | omega)
  have e5 : cl9 h = (h (r1 + 11) 2) := (congrArg (fun z => h z 2) q2).trans rfl
  have b6 := jB (e := 2) 0 hJ rg_1_2_0_1 (by first | decide | omega) (by first | decide | omega)
  refine x_aload (np := 1) (x := 0) (by decide +kernel) rfl (x_nc_le (by decide)) ?_
  refine x_cI (t := 6) (mj := 50) (n := 1) (rc := 4) (ml := 3) (nr := 0) (np := 4) (as := [x_r 62]) (rest := []) (lo1 := [x_r 62, 147573952589676412928, 147573952589676412928]) (by decide +kernel) (by decide) (by decide +kernel) (x_rb_of (by decide +kernel)) rfl rfl (x_wr (by decide) x_wn) x_wn (by decide) rfl (c50_62 hJ  (by first | decide | omega) hT) (fun v7 h10 l8 q9 => ?_)
  obtain ⟨j11, f12, b13, c14, c15, c16, c17⟩ := q9
  have f18 := Fr.trans hF f12 (by decide)
  have b19 := jB (e := 2) 0 j11 rg_1_2_0_1 (by first | decide | omega) (by first | decide | omega)
  have q20 : h10 62 1 = h 62 1 := f12 62 1 (by decide +kernel)
  have b21 := jB (e := 2) 0 j11 (rg_T11_2_0_1 t3) (by first | decide | omega) (by first | decide | omega)
  have e22 : cl9 h10 = (h10 (r1 + 11) 2) := (congrArg (fun z => h10 z 2) (q20.trans q2)).trans rfl
  refine x_ifz (k := 1) (tg := 9) (np := 7) (by decide +kernel) (by decide) l8 (fun q23 => ?_) (fun q24 => ?_)
  · have q23 : v7 ≠ 2147483648 := q23
    have b25 := c14 (by first | decide | omega)
    have b26 := c15 (by first | decide | omega)
    refine x_const (np := 10) (x := 9223372039002259456) (a := 2147483648) (by decide +kernel) (by decide) (by decide) ?_
    refine x_istore (np := 11) (x := 1) (lo' := [x_r 62, iv_c 2147483648]) (by decide +kernel) (by decide) (Nat.le_of_ble_eq_true rfl) rfl ?_
    have p2066 : ∀ (n : Nat) (v2061 : Nat) (h2063 : xh), 4294967296 - v2061 < n → (2147483648 ≤ v2061 ∧ v2061 ≤ 2147484047) → cl9 h2063 + h 1 2 ≤ h2063 1 2 + cl9 h → h 1 2 + 1 ≤ h2063 1 2 → v2061 ≤ h2063 1 2 → J h2063 → Fr 161 h10 h2063 → (∀ l, Res tB tN (Kd.lp 0) l (h2063 1 2) (Kd.seq 0) l (h 1 2)) → (∀ l, ResF tB tN (Kd.lp 0) l (h2063 1 2) (Kd.seq 0) l (h 1 2)) → X sc 49 (d + 7) (xI fun r h' => J h' ∧ Fr 161 h h' ∧ (2147483648 ≤ r ∧ r ≤ 2147483649) ∧ (r = 2147483649 → h 1 2 + 1 ≤ h' 1 2) ∧ (r = 2147483649 → cl9 h' + h 1 2 ≤ h' 1 2 + cl9 h) ∧ (∀ l, G tB tN (Kd.seq 0) l (h 1 2) (rs r (h' 1 2))) ∧ (r = 2147483648 → ∀ l, GF tB tN (Kd.seq 0) l (h 1 2) (h' 1 2))) 0 0 11 [x_r 62, iv_c v2061] [] h2063 := by
      intro n
      induction n with
      | zero => intro v2061 h2063 q2072; exact absurd q2072 (Nat.not_lt_zero _)
      | succ n i2073 =>
        intro v2061 h2063 q2072 b2062 b2067 b2068 b2069 j2065 f2064 m2070 m2071
        have f2074 := Fr.trans f18 f2064 (by decide)
        have b2075 := jB (e := 2) 0 j2065 rg_1_2_0_1 (by first | decide | omega) (by first | decide | omega)
        have q2076 : h2063 62 1 = h10 62 1 := f2064 62 1 (by decide +kernel)
        have q2077 : h10 62 1 = h 62 1 := f12 62 1 (by decide +kernel)
        have b2078 := jB (e := 2) 0 j2065 (rg_T11_2_0_1 t3) (by first | decide | omega) (by first | decide | omega)
        have e2079 : cl9 h2063 = (h2063 (r1 + 11) 2) := (congrArg (fun z => h2063 z 2) ((q2076.trans q2077).trans q2)).trans rfl
        refine x_iload (np := 12) (x := 1) (by decide +kernel) rfl (by first | decide | omega) ?_
        refine x_const (np := 15) (x := 9223373756989178256) (a := 2147484048) (by decide +kernel) (by decide) (by decide) ?_
        refine x_icmp (k := 3) (tg := 58) (np := 18) (by decide +kernel) (by decide) (by first | decide | omega) (by decide) (fun q2080 => ?_) (fun q2081 => ?_)
        · have q2080 : 2147484048 ≤ v2061 := q2080
          exfalso; omega
        have q2081 : ¬ (2147484048 ≤ v2061) := q2081
        refine x_aload (np := 19) (x := 0) (by decide +kernel) rfl (x_nc_le (by decide)) ?_
        have q2082 : h2063 62 0 = 1 := by have z := jB (e := 0) 0 j2065 rg_62_0_0_1 (by decide) (by decide); omega
        refine x_getR (np := 22) (x := 192) (f := 0) (q := 1) (by decide +kernel) (by decide) (by decide +kernel) q2082 ?_
        refine x_const (np := 24) (x := 9223372223685853227) (a := 2147483691) (by decide +kernel) (by decide) (by decide) ?_
        have m2087 := Tp.fr hT f12 (by decide) (by decide)
        have m2086 := Tp.fr m2087 f2064 (by decide) (by decide)
        refine x_cI (t := 6) (mj := 76) (n := 2) (rc := 8) (ml := 2) (nr := 0) (np := 27) (as := [x_r 1, iv_c 2147483691]) (rest := []) (lo1 := [x_r 1, iv_c 2147483691]) (by decide +kernel) (by decide) (by decide +kernel) (x_rb_of (by decide +kernel)) rfl rfl (x_wr (by decide) (x_wi (by decide) x_wn)) x_wn (by decide) rfl (c76_1 j2065  (by first | decide | omega) m2086) (fun v2083 h2088 l2084 q2085 => ?_)
        obtain ⟨j2089, f2090, b2091, c2092, c2093, c2094⟩ := q2085
        have f2095 := Fr.trans f2074 f2090 (by decide)
        have f2096 := Fr.trans f2064 f2090 (by decide)
        have b2097 := jB (e := 2) 0 j2089 rg_1_2_0_1 (by first | decide | omega) (by first | decide | omega)
        refine x_ifz (k := 0) (tg := 58) (np := 30) (by decide +kernel) (by decide) l2084 (fun q2098 => ?_) (fun q2099 => ?_)
        · have q2098 : v2083 = 2147483648 := q2098
          have b2100 := c2093 (by first | decide | omega)
          refine x_const (np := 59) (x := 9223372043297226753) (a := 2147483649) (by decide +kernel) (by decide) (by decide) ?_
          have q2101 : h2088 62 1 = h2063 62 1 := f2090 62 1 (by decide +kernel)
          have q2102 : h2063 62 1 = h10 62 1 := f2064 62 1 (by decide +kernel)
          have q2103 : h10 62 1 = h 62 1 := f12 62 1 (by decide +kernel)
          have q2104 : h2088 (r1 + 11) 2 = h2063 (r1 + 11) 2 := jK 0 f2090 (rg_T11_2_0_1 t3) (by first | decide | omega) (by first | decide | omega) (by decide)
          have e2105 : cl9 h2088 = (h2063 (r1 + 11) 2) := (congrArg (fun z => h2088 z 2) (((q2101.trans q2102).trans q2103).trans q2)).trans q2104
          obtain ⟨w2106, e2107⟩ := Tk.no c2094 (by first | decide | omega)
          refine x_retI (np := 60) (x := 0) (by decide +kernel) (by decide) (Or.inr ⟨by decide +kernel, by first | decide | omega, by first | decide | omega⟩) ⟨_, rfl, (by decide), ?_⟩
          exact ⟨j2089, f2095, (by first | decide | omega), (fun z => by first | decide | omega), (fun z => by first | decide | omega), (fun l => gQ_e (t := 0) (m2070 l) w2106 rfl (by first | decide | omega) (show h2063 1 2 = h2088 1 2 by first | decide | omega)), (fun z => absurd z (by first | decide | omega))⟩
        have q2099 : ¬ (v2083 = 2147483648) := q2099
        have b2108 := c2092 (by first | decide | omega)
        refine x_aload (np := 31) (x := 0) (by decide +kernel) rfl (x_nc_le (by decide)) ?_
        have q2109 : h2088 62 1 = h2063 62 1 := f2090 62 1 (by decide +kernel)
        have q2110 : h2063 62 1 = h10 62 1 := f2064 62 1 (by decide +kernel)
        have q2111 : h10 62 1 = h 62 1 := f12 62 1 (by decide +kernel)
        have q2112 : h2088 (r1 + 11) 2 = h2063 (r1 + 11) 2 := jK 0 f2090 (rg_T11_2_0_1 t3) (by first | decide | omega) (by first | decide | omega) (by decide)
        have e2113 : cl9 h2088 = (h2063 (r1 + 11) 2) := (congrArg (fun z => h2088 z 2) (((q2109.trans q2110).trans q2111).trans q2)).trans q2112
        have m2117 := Tp.fr m2086 f2090 (by decide) (by decide)
        refine x_cI (t := 6) (mj := 50) (n := 1) (rc := 4) (ml := 3) (nr := 0) (np := 34) (as := [x_r 62]) (rest := []) (lo1 := [x_r 62, 147573952589676412928, 147573952589676412928]) (by decide +kernel) (by decide) (by decide +kernel) (x_rb_of (by decide +kernel)) rfl rfl (x_wr (by decide) x_wn) x_wn (by decide) rfl (c50_62 j2089  (by first | decide | omega) m2117) (fun v2114 h2118 l2115 q2116 => ?_)
        obtain ⟨j2119, f2120, b2121, c2122, c2123, c2124, c2125⟩ := q2116
        have f2126 := Fr.trans f2095 f2120 (by decide)
        have f2127 := Fr.trans f2096 f2120 (by decide)
        have b2128 := jB (e := 2) 0 j2119 rg_1_2_0_1 (by first | decide | omega) (by first | decide | omega)
        have q2129 : h2088 62 1 = h2063 62 1 := f2090 62 1 (by decide +kernel)
        have q2130 : h2063 62 1 = h10 62 1 := f2064 62 1 (by decide +kernel)
        have q2131 : h10 62 1 = h 62 1 := f12 62 1 (by decide +kernel)
        have q2132 : h2088 (r1 + 11) 2 = h2063 (r1 + 11) 2 := jK 0 f2090 (rg_T11_2_0_1 t3) (by first | decide | omega) (by first | decide | omega) (by decide)
        have q2133 : h2118 62 1 = h2088 62 1 := f2120 62 1 (by decide +kernel)
        have q2134 : h2088 62 1 = h2063 62 1 := f2090 62 1 (by decide +kernel)
        have q2135 : h2063 62 1 = h10 62 1 := f2064 62 1 (by decide +kernel)
        have q2136 : h10 62 1 = h 62 1 := f12 62 1 (by decide +kernel)
        have b2137 := jB (e := 2) 0 j2119 (rg_T11_2_0_1 t3) (by first | decide | omega) (by first | decide | omega)
        have e2138 : cl9 h2118 = (h2118 (r1 + 11) 2) := (congrArg (fun z => h2118 z 2) ((((q2133.trans q2134).trans q2135).trans q2136).trans q2)).trans rfl
        refine x_ifz (k := 0) (tg := 50) (np := 37) (by decide +kernel) (by decide) l2115 (fun q2139 => ?_) (fun q2140 => ?_)
        · have q2139 : v2114 = 2147483648 := q2139
          refine x_const (np := 51) (x := 9223372039002259456) (a := 2147483648) (by decide +kernel) (by decide) (by decide) ?_
          have q2141 : h2118 62 1 = h2088 62 1 := f2120 62 1 (by decide +kernel)
          have q2142 : h2088 62 1 = h2063 62 1 := f2090 62 1 (by decide +kernel)
          have q2143 : h2063 62 1 = h10 62 1 := f2064 62 1 (by decide +kernel)
          have q2144 : h10 62 1 = h 62 1 := f12 62 1 (by decide +kernel)
          obtain ⟨w2145, e2146⟩ := Tk.yes c2094 (by first | decide | omega)
          obtain ⟨w2147, e2148⟩ := Tk.yes c2094 (by first | decide | omega)
          refine x_retI (np := 52) (x := 0) (by decide +kernel) (by decide) (Or.inr ⟨by decide +kernel, by first | decide | omega, by first | decide | omega⟩) ⟨_, rfl, (by decide), ?_⟩
          exact ⟨j2119, f2126, (by first | decide | omega), (fun z => by first | decide | omega), (fun z => by first | decide | omega), (fun l => gQ_f (t := 0) (m2070 l) w2145 rfl e2146 (c2124 l) rfl (by first | decide | omega) (by first | decide | omega)), (fun _ l => fQ_f (t := 0) (m2071 l) w2147 rfl e2148 (c2125 (by first | decide | omega) l) rfl rfl)⟩
        have q2140 : ¬ (v2114 = 2147483648) := q2140
        have b2149 := c2122 (by first | decide | omega)
        have b2150 := c2123 (by first | decide | omega)
        refine x_aload (np := 38) (x := 0) (by decide +kernel) rfl (x_nc_le (by decide)) ?_
        have q2151 : h2118 62 1 = h2088 62 1 := f2120 62 1 (by decide +kernel)
        have q2152 : h2088 62 1 = h2063 62 1 := f2090 62 1 (by decide +kernel)
        have q2153 : h2063 62 1 = h10 62 1 := f2064 62 1 (by decide +kernel)
        have q2154 : h10 62 1 = h 62 1 := f12 62 1 (by decide +kernel)
        refine x_getR (np := 41) (x := 193) (f := 1) (q := (r1 + 11)) (by decide +kernel) (by decide) (by decide +kernel) ((((q2151.trans q2152).trans q2153).trans q2154).trans q2) ?_
        refine x_const (np := 44) (x := 9223380628936853456) (a := 2147485648) (by decide +kernel) (by decide) (by decide) ?_
        refine x_nI (t := 6) (mj := 36) (n := 2) (rc := 3) (ml := 2) (nr := 0) (np := 47) (as := [x_r (r1 + 11), iv_c 2147485648]) (rest := []) (lo1 := [x_r (r1 + 11), iv_c 2147485648]) (by decide +kernel) (by decide) (by decide +kernel) (x_rb_of (tr_11_3 t3)) rfl rfl (x_wr (tn_11 t3) (x_wi (by decide) x_wn)) x_wn (by decide) rfl ?_
        refine x_aload (np := 1) (x := 0) (by decide +kernel) rfl (x_nc_le (tn_11 t3)) ?_
        refine x_getC (np := 4) (x := 130) (f := 2) (q := (h2118 (r1 + 11) 2)) (by decide +kernel) (by decide) (tg_11_130_2_0 t3) rfl (fun l2155 => ?_)
        refine x_const (np := 7) (x := 9223373756989178256) (a := 2147484048) (by decide +kernel) (by decide) (by decide) ?_
        refine x_icmp (k := 2) (tg := 12) (np := 10) (by decide +kernel) (by decide) l2155 (by decide) (fun q2156 => ?_) (fun q2157 => ?_)
        · have q2156 : (h2118 (r1 + 11) 2) < 2147484048 := q2156
          refine x_aload (np := 13) (x := 0) (by decide +kernel) rfl (x_nc_le (tn_11 t3)) ?_
          have q2158 : h2118 (r1 + 11) 0 = (r1 + 12) := tf_11_0 j2119 t3
          refine x_getR (np := 16) (x := 128) (f := 0) (q := (r1 + 12)) (by decide +kernel) (by decide) (tg_11_128_0_1 t3) q2158 ?_
          refine x_aload (np := 17) (x := 0) (by decide +kernel) rfl (x_nc_le (tn_11 t3)) ?_
          refine x_getC (np := 20) (x := 130) (f := 2) (q := (h2118 (r1 + 11) 2)) (by decide +kernel) (by decide) (tg_11_130_2_0 t3) rfl (fun l2159 => ?_)
          refine x_iload (np := 21) (x := 1) (by decide +kernel) rfl (by decide) ?_
          obtain ⟨u2160, q2161⟩ : ∃ z, (h2118 (r1 + 11) 2) = 2147483648 + z := ⟨(h2118 (r1 + 11) 2) - 2147483648, by first | decide | omega⟩
          refine x_ast (np := 22) (x := 0) (kd := 1) (n := 400) (i := u2160) (by decide +kernel) (Or.inl rfl) (ta_12_400 t3) (by first | decide | omega) (by first | decide | omega) (by decide) (by decide) (fun z => absurd z (by decide)) ?_
          have j2163 := jU (e := u2160) (v := 2147485648) u2160 j2119 (rg_T12_0_1_400 t3) (by first | decide | omega) (by first | decide | omega) (by first | decide | omega)
          have f2165 := jF (e := u2160) (v := 2147485648) u2160 f2126 (rg_T12_0_1_400 t3) (by first | decide | omega) (by first | decide | omega) (by decide)
          have f2166 := jF (e := u2160) (v := 2147485648) u2160 f2127 (rg_T12_0_1_400 t3) (by first | decide | omega) (by first | decide | omega) (by decide)
          generalize e2164 : x_up h2118 (r1 + 12) u2160 2147485648 = h2162 at j2163 f2165 f2166 ⊢
          refine x_aload (np := 23) (x := 0) (by decide +kernel) rfl (x_nc_le (tn_11 t3)) ?_
          refine x_dup (np := 24) (x := 0) (by decide +kernel) (by have z := x_nc_le (k := (r1 + 11)) (tn_11 t3); unfold x_r; omega) ?_
          have q2167 : h2162 (r1 + 11) 2 = h2118 (r1 + 11) 2 := by rw [← e2164]; exact x_up_k tof_11_12
          refine x_getC (np := 27) (x := 130) (f := 2) (q := (h2118 (r1 + 11) 2)) (by decide +kernel) (by decide) (tg_11_130_2_0 t3) q2167 (fun l2168 => ?_)
          refine x_const (np := 28) (x := 9223372043297226753) (a := 2147483649) (by decide +kernel) (by decide) (by decide) ?_
          refine x_iadd (np := 29) (x := 0) (v := (1 + (h2118 (r1 + 11) 2))) (by decide +kernel) l2155 (by decide) (by first | decide | omega) (by first | decide | omega) ?_
          refine x_putI (np := 32) (x := 130) (f := 2) (by decide +kernel) (tg_11_130_2_0 t3) (by first | decide | omega) (Or.inl (by decide)) ?_
          have j2170 := jU (e := 2) (v := (1 + (h2118 (r1 + 11) 2))) 0 j2163 (rg_T11_2_0_1 t3) (by first | decide | omega) (by first | decide | omega) (by first | decide | omega)
          have f2172 := jF (e := 2) (v := (1 + (h2118 (r1 + 11) 2))) 0 f2165 (rg_T11_2_0_1 t3) (by first | decide | omega) (by first | decide | omega) (by decide)
          have f2173 := jF (e := 2) (v := (1 + (h2118 (r1 + 11) 2))) 0 f2166 (rg_T11_2_0_1 t3) (by first | decide | omega) (by first | decide | omega) (by decide)
          generalize e2171 : x_up h2162 (r1 + 11) 2 (1 + (h2118 (r1 + 11) 2)) = h2169 at j2170 f2172 f2173 ⊢
          refine x_const (np := 33) (x := 9223372043297226753) (a := 2147483649) (by decide +kernel) (by decide) (by decide) ?_
          refine x_retI (np := 34) (x := 0) (by decide +kernel) (by decide) (Or.inr ⟨by decide +kernel, by first | decide | omega, by first | decide | omega⟩) ⟨_, rfl, (by decide), ?_⟩
          refine x_ifz (k := 1) (tg := 52) (np := 50) (by decide +kernel) (by decide) (by decide) (fun q2174 => ?_) (fun q2175 => ?_)
          · have q2174 : 2147483649 ≠ 2147483648 := q2174
            refine x_iinc (np := 55) (i := 1) (j := 2147483649) (v := (1 + v2061)) (lo' := [x_r 62, iv_c (1 + v2061)]) (by decide +kernel) (by decide) (by decide) rfl (by first | decide | omega) (by first | decide | omega) (by first | decide | omega) rfl ?_
            refine x_goto (np := 58) (x := 11) (by decide +kernel) ?_
            have q2176 : h2169 1 2 = h2162 1 2 := by rw [← e2171]; exact x_up_k (Ne.symm (tne_11_1 t3))
            have q2177 : h2162 1 2 = h2118 1 2 := by rw [← e2164]; exact x_up_k (Ne.symm (tne_12_1 t3))
            have q2178 : h2169 62 1 = h2162 62 1 := by rw [← e2171]; exact x_up_k (Ne.symm (tne_11_62 t3))
            have q2179 : h2162 62 1 = h2118 62 1 := by rw [← e2164]; exact x_up_k (Ne.symm (tne_12_62 t3))
            have q2180 : h2118 62 1 = h2088 62 1 := f2120 62 1 (by decide +kernel)
            have q2181 : h2088 62 1 = h2063 62 1 := f2090 62 1 (by decide +kernel)
            have q2182 : h2063 62 1 = h10 62 1 := f2064 62 1 (by decide +kernel)
            have q2183 : h10 62 1 = h 62 1 := f12 62 1 (by decide +kernel)
            have q2184 : h2169 (r1 + 11) 2 = (1 + (h2118 (r1 + 11) 2)) := by rw [← e2171]; exact x_up_at
            have e2185 : cl9 h2169 = (1 + (h2118 (r1 + 11) 2)) := (congrArg (fun z => h2169 z 2) ((((((q2178.trans q2179).trans q2180).trans q2181).trans q2182).trans q2183).trans q2)).trans q2184
            obtain ⟨w2186, e2187⟩ := Tk.yes c2094 (by first | decide | omega)
            have q2188 : h2169 1 2 = h2162 1 2 := by rw [← e2171]; exact x_up_k (Ne.symm (tne_11_1 t3))
            have q2189 : h2162 1 2 = h2118 1 2 := by rw [← e2164]; exact x_up_k (Ne.symm (tne_12_1 t3))
            obtain ⟨w2190, e2191⟩ := Tk.yes c2094 (by first | decide | omega)
            have q2192 : h2169 1 2 = h2162 1 2 := by rw [← e2171]; exact x_up_k (Ne.symm (tne_11_1 t3))
            have q2193 : h2162 1 2 = h2118 1 2 := by rw [← e2164]; exact x_up_k (Ne.symm (tne_12_1 t3))
            exact i2073 (1 + v2061) h2169 (by first | decide | omega) (by first | decide | omega) (by first | decide | omega) (by first | decide | omega) (by first | decide | omega) j2170 f2173 (fun l => gQ_st (t := 0) (m2070 l) w2186 rfl e2187 (c2124 l) rfl (by first | decide | omega) (show h2118 1 2 = h2169 1 2 by first | decide | omega)) (fun l => fQ_st (t := 0) (m2071 l) w2190 rfl e2191 (c2124 l) rfl (by first | decide | omega) (show h2118 1 2 = h2169 1 2 by first | decide | omega))
          have q2175 : ¬ (2147483649 ≠ 2147483648) := q2175
          exfalso; omega
        have q2157 : ¬ ((h2118 (r1 + 11) 2) < 2147484048) := q2157
        refine x_const (np := 11) (x := 9223372039002259456) (a := 2147483648) (by decide +kernel) (by decide) (by decide) ?_
        refine x_retI (np := 12) (x := 0) (by decide +kernel) (by decide) (Or.inr ⟨by decide +kernel, by first | decide | omega, by first | decide | omega⟩) ⟨_, rfl, (by decide), ?_⟩
        refine x_ifz (k := 1) (tg := 52) (np := 50) (by decide +kernel) (by decide) (by decide) (fun q2194 => ?_) (fun q2195 => ?_)
        · have q2194 : 2147483648 ≠ 2147483648 := q2194
          exfalso; omega
        have q2195 : ¬ (2147483648 ≠ 2147483648) := q2195
        refine x_const (np := 51) (x := 9223372039002259456) (a := 2147483648) (by decide +kernel) (by decide) (by decide) ?_
        have q2196 : h2118 62 1 = h2088 62 1 := f2120 62 1 (by decide +kernel)
        have q2197 : h2088 62 1 = h2063 62 1 := f2090 62 1 (by decide +kernel)
        have q2198 : h2063 62 1 = h10 62 1 := f2064 62 1 (by decide +kernel)
        have q2199 : h10 62 1 = h 62 1 := f12 62 1 (by decide +kernel)
        obtain ⟨w2200, e2201⟩ := Tk.yes c2094 (by first | decide | omega)
        obtain ⟨w2202, e2203⟩ := Tk.yes c2094 (by first | decide | omega)
        refine x_retI (np := 52) (x := 0) (by decide +kernel) (by decide) (Or.inr ⟨by decide +kernel, by first | decide | omega, by first | decide | omega⟩) ⟨_, rfl, (by decide), ?_⟩
        exact ⟨j2119, f2126, (by first | decide | omega), (fun z => by first | decide | omega), (fun z => by first | decide | omega), (fun l => gQ_f (t := 0) (m2070 l) w2200 rfl e2201 (c2124 l) rfl (by first | decide | omega) (by first | decide | omega)), (fun _ l => fQ_f (t := 0) (m2071 l) w2202 rfl e2203 (c2125 (by first | decide | omega) l) rfl rfl)⟩
    have q2204 : h10 62 1 = h 62 1 := f12 62 1 (by decide +kernel)
    exact p2066 _ 2147483648 h10 (Nat.lt_succ_self _) (by first | decide | omega) (by first | decide | omega) (by first | decide | omega) (by first | decide | omega) j11 (Fr.refl _ _) (fun l => gQ_in (t := 0) (c16 l) rfl (by first | decide | omega) rfl) (fun l => fQ_in (t := 0) (c16 l) rfl (by first | decide | omega) rfl)
  have q24 : ¬ (v7 ≠ 2147483648) := q24
  refine x_const (np := 8) (x := 9223372039002259456) (a := 2147483648) (by decide +kernel) (by decide) (by decide) ?_
  have q2205 : h10 62 1 = h 62 1 := f12 62 1 (by decide +kernel)
  refine x_retI (np := 9) (x := 0) (by decide +kernel) (by decide) (Or.inr ⟨by decide +kernel, by first | decide | omega, by first | decide | omega⟩) ⟨_, rfl, (by decide), ?_⟩
  exact ⟨j11, f18, (by first | decide | omega), (fun z => by first | decide | omega), (fun z => by first | decide | omega), (fun l => gQ_no (t := 0) (c16 l) rfl (by first | decide | omega) (by first | decide | omega)), (fun _ l => fQ_no (t := 0) (c17 (by first | decide | omega) l) rfl rfl)⟩
set_option maxHeartbeats 0 in
/-- LentNames$CustomReader.readAtom(I)Z -/
theorem c48_62_c6 {sc : Nat × Nat} {d  : Nat} {h : xh} {tB : Nat → Nat} {tN : Nat} (hJ : J h) (hr0 : (cl9 h) + 5 ≤ (h 1 2)) (hT : Tp tB tN h) : X sc 48 (d + 8) (xI fun r h' => J h' ∧ Fr 161 h h' ∧ (2147483648 ≤ r ∧ r ≤ 2147483649) ∧ (r = 2147483649 → h 1 2 + 1 ≤ h' 1 2) ∧ (r = 2147483649 → cl9 h' + h 1 2 ≤ h' 1 2 + cl9 h) ∧ G tB tN Kd.atom 6 (h 1 2) (rs r (h' 1 2)) ∧ (r = 2147483648 → GF tB tN Kd.atom 6 (h 1 2) (h' 1 2))) 0 0 0 [x_r 62, iv_c 2147483654] [] h := by
  have hF := Fr.refl 161 h
  obtain ⟨r1, q2, t3⟩ : ∃ z, (h 62 1) = z + 11 ∧ tw z := by
    rcases hJ.2.2.2.2.2.2.2 with z | z
    · exact ⟨17, by rw [z], Or.inl rfl⟩
    · exact ⟨31, by rw [z], Or.inr rfl⟩
  have b4 := jB (e := 2) 0 hJ (rg_T11_2_0_1 t3) (by first | decide | omega) (by first | decide | omega)
  have e5 : cl9 h = (h (r1 + 11) 2) := (congrArg (fun z => h z 2) q2).trans rfl
  have b6 := jB (e := 2) 0 hJ rg_1_2_0_1 (by first | decide | omega) (by first | decide | omega)
  refine x_aload (np := 1) (x := 0) (by decide +kernel) rfl (x_nc_le (by decide)) ?_
  have q7 : h 62 0 = 1 := by have z := jB (e := 0) 0 hJ rg_62_0_0_1 (by decide) (by decide); omega
  refine x_getR (np := 4) (x := 192) (f := 0) (q := 1) (by decide +kernel) (by decide) (by decide +kernel) q7 ?_
  refine x_ldcB (i := 24) (idx := 71) (tx := "not") (by rw [tb_y48]; exact List.mem_of_getElem? (i := 24) rfl) (by decide) (by rw [tb_b48]; decide +kernel) ?_
  refine x_cP (t := 6) (mj := 77) (n := 2) (rc := 8) (ml := 4) (nr := 0) (np := 9) (as := [x_r 1, x_b (24 + 1)]) (rest := []) (lo1 := [x_r 1, x_b (24 + 1), 147573952589676412928, 147573952589676412928]) (by decide +kernel) (by decide) (by decide +kernel) (x_rb_of (by decide +kernel)) rfl rfl (x_wr (by decide) (x_wB (by decide) x_wn)) x_wn (by decide) rfl (c77_1_S0 hJ  (by decide) hT) (fun v8 l9 q10 => ?_)
  obtain ⟨b13, c11, c12⟩ := q10
  refine x_ifz (k := 0) (tg := 59) (np := 12) (by decide +kernel) (by decide) l9 (fun q14 => ?_) (fun q15 => ?_)
  · have q14 : v8 = 2147483648 := q14
    refine x_aload (np := 60) (x := 0) (by decide +kernel) rfl (x_nc_le (by decide)) ?_
    have q16 : h 62 0 = 1 := by have z := jB (e := 0) 0 hJ rg_62_0_0_1 (by decide) (by decide); omega
    refine x_getR (np := 63) (x := 192) (f := 0) (q := 1) (by decide +kernel) (by decide) (by decide +kernel) q16 ?_
    refine x_const (np := 65) (x := 9223372210800951336) (a := 2147483688) (by decide +kernel) (by decide) (by decide) ?_
    refine x_cP (t := 6) (mj := 75) (n := 2) (rc := 8) (ml := 2) (nr := 0) (np := 68) (as := [x_r 1, iv_c 2147483688]) (rest := []) (lo1 := [x_r 1, iv_c 2147483688]) (by decide +kernel) (by decide) (by decide +kernel) (x_rb_of (by decide +kernel)) rfl rfl (x_wr (by decide) (x_wi (by decide) x_wn)) x_wn (by decide) rfl (c75_1 hJ  (by first | decide | omega) hT) (fun v17 l18 q19 => ?_)
    obtain ⟨b22, c20, c21⟩ := q19
    have b23 := jB (e := 1) 0 hJ rg_1_1_0_1 (by first | decide | omega) (by first | decide | omega)
    refine x_ifz (k := 0) (tg := 117) (np := 71) (by decide +kernel) (by decide) l18 (fun q24 => ?_) (fun q25 => ?_)
    · have q24 : v17 = 2147483648 := q24
      refine x_aload (np := 118) (x := 0) (by decide +kernel) rfl (x_nc_le (by decide)) ?_
      have q26 : h 62 0 = 1 := by have z := jB (e := 0) 0 hJ rg_62_0_0_1 (by decide) (by decide); omega
      refine x_getR (np := 121) (x := 192) (f := 0) (q := 1) (by decide +kernel) (by decide) (by decide +kernel) q26 ?_
      refine x_ldcB (i := 25) (idx := 79) (tx := "own") (by rw [tb_y48]; exact List.mem_of_getElem? (i := 25) rfl) (by decide) (by rw [tb_b48]; decide +kernel) ?_
      refine x_cI (t := 6) (mj := 78) (n := 2) (rc := 8) (ml := 2) (nr := 0) (np := 126) (as := [x_r 1, x_b (25 + 1)]) (rest := []) (lo1 := [x_r 1, x_b (25 + 1)]) (by decide +kernel) (by decide) (by decide +kernel) (x_rb_of (by decide +kernel)) rfl rfl (x_wr (by decide) (x_wB (by decide) x_wn)) x_wn (by decide) rfl (c78_1_S0 hJ  (by decide) hT) (fun v27 h30 l28 q29 => ?_)
      obtain ⟨j31, f32, b33, c34, c35, c36⟩ := q29
      have f37 := Fr.trans hF f32 (by decide)
      have b38 := jB (e := 2) 0 j31 rg_1_2_0_1 (by first | decide | omega) (by first | decide | omega)
      have b39 : iv_tl 25 = 3 := by decide
      refine x_ifz (k := 0) (tg := 140) (np := 129) (by decide +kernel) (by decide) l28 (fun q40 => ?_) (fun q41 => ?_)
      · have q40 : v27 = 2147483648 := q40
        have b42 := c35 (by first | decide | omega)
        refine x_aload (np := 141) (x := 0) (by decide +kernel) rfl (x_nc_le (by decide)) ?_
        have q43 : h30 62 0 = 1 := by have z := jB (e := 0) 0 j31 rg_62_0_0_1 (by decide) (by decide); omega
        refine x_getR (np := 144) (x := 192) (f := 0) (q := 1) (by decide +kernel) (by decide) (by decide +kernel) q43 ?_
        refine x_ldcB (i := 26) (idx := 81) (tx := "mine") (by rw [tb_y48]; exact List.mem_of_getElem? (i := 26) rfl) (by decide) (by rw [tb_b48]; decide +kernel) ?_
        have m47 := Tp.fr hT f32 (by decide) (by decide)
        refine x_cI (t := 6) (mj := 78) (n := 2) (rc := 8) (ml := 2) (nr := 0) (np := 149) (as := [x_r 1, x_b (26 + 1)]) (rest := []) (lo1 := [x_r 1, x_b (26 + 1)]) (by decide +kernel) (by decide) (by decide +kernel) (x_rb_of (by decide +kernel)) rfl rfl (x_wr (by decide) (x_wB (by decide) x_wn)) x_wn (by decide) rfl (c78_1_S0 j31  (by decide) m47) (fun v44 h48 l45 q46 => ?_)
        obtain ⟨j49, f50, b51, c52, c53, c54⟩ := q46
        have f55 := Fr.trans f37 f50 (by decide)
        have b56 := jB (e := 2) 0 j49 rg_1_2_0_1 (by first | decide | omega) (by first | decide | omega)
        have b57 : iv_tl 26 = 4 := by decide
        refine x_ifz (k := 0) (tg := 163) (np := 152) (by decide +kernel) (by decide) l45 (fun q58 => ?_) (fun q59 => ?_)
        · have q58 : v44 = 2147483648 := q58
          have b60 := c53 (by first | decide | omega)
          refine x_aload (np := 164) (x := 0) (by decide +kernel) rfl (x_nc_le (by decide)) ?_
          have q61 : h48 62 1 = h30 62 1 := f50 62 1 (by decide +kernel)
          have q62 : h30 62 1 = h 62 1 := f32 62 1 (by decide +kernel)
          have q63 : h48 (r1 + 11) 2 = h30 (r1 + 11) 2 := jK 0 f50 (rg_T11_2_0_1 t3) (by first | decide | omega) (by first | decide | omega) (by decide)
          have q64 : h30 (r1 + 11) 2 = h (r1 + 11) 2 := jK 0 f32 (rg_T11_2_0_1 t3) (by first | decide | omega) (by first | decide | omega) (by decide)
          have e65 : cl9 h48 = (h (r1 + 11) 2) := (congrArg (fun z => h48 z 2) ((q61.trans q62).trans q2)).trans (q63.trans q64)
          have m69 := Tp.fr m47 f50 (by decide) (by decide)
          refine x_cI (t := 6) (mj := 49) (n := 1) (rc := 4) (ml := 2) (nr := 0) (np := 167) (as := [x_r 62]) (rest := []) (lo1 := [x_r 62, 147573952589676412928]) (by decide +kernel) (by decide) (by decide +kernel) (x_rb_of (by decide +kernel)) rfl rfl (x_wr (by decide) x_wn) x_wn (by decide) rfl (c49_62 j49  (by first | decide | omega) m69) (fun v66 h70 l67 q68 => ?_)
          obtain ⟨j71, f72, b73, c74, c75, c76, c77⟩ := q68
          have f78 := Fr.trans f55 f72 (by decide)
          have b79 := jB (e := 2) 0 j71 rg_1_2_0_1 (by first | decide | omega) (by first | decide | omega)
          have q80 : h48 62 1 = h30 62 1 := f50 62 1 (by decide +kernel)
          have q81 : h30 62 1 = h 62 1 := f32 62 1 (by decide +kernel)
          have q82 : h48 (r1 + 11) 2 = h30 (r1 + 11) 2 := jK 0 f50 (rg_T11_2_0_1 t3) (by first | decide | omega) (by first | decide | omega) (by decide)
          have q83 : h30 (r1 + 11) 2 = h (r1 + 11) 2 := jK 0 f32 (rg_T11_2_0_1 t3) (by first | decide | omega) (by first | decide | omega) (by decide)
          have q84 : h70 62 1 = h48 62 1 := f72 62 1 (by decide +kernel)
          have q85 : h48 62 1 = h30 62 1 := f50 62 1 (by decide +kernel)
          have q86 : h30 62 1 = h 62 1 := f32 62 1 (by decide +kernel)
          have b87 := jB (e := 2) 0 j71 (rg_T11_2_0_1 t3) (by first | decide | omega) (by first | decide | omega)
          have e88 : cl9 h70 = (h70 (r1 + 11) 2) := (congrArg (fun z => h70 z 2) (((q84.trans q85).trans q86).trans q2)).trans rfl
          refine x_ifz (k := 1) (tg := 172) (np := 170) (by decide +kernel) (by decide) l67 (fun q89 => ?_) (fun q90 => ?_)
          · have q89 : v66 ≠ 2147483648 := q89
            have b91 := c74 (by first | decide | omega)
            have b92 := c75 (by first | decide | omega)
            refine x_aload (np := 173) (x := 0) (by decide +kernel) rfl (x_nc_le (by decide)) ?_
            have q93 : h70 62 0 = 1 := by have z := jB (e := 0) 0 j71 rg_62_0_0_1 (by decide) (by decide); omega
            refine x_getR (np := 176) (x := 192) (f := 0) (q := 1) (by decide +kernel) (by decide) (by decide +kernel) q93 ?_
            refine x_const (np := 178) (x := 9223372296700297276) (a := 2147483708) (by decide +kernel) (by decide) (by decide) ?_
            have m97 := Tp.fr m69 f72 (by decide) (by decide)
            refine x_cI (t := 6) (mj := 76) (n := 2) (rc := 8) (ml := 2) (nr := 0) (np := 181) (as := [x_r 1, iv_c 2147483708]) (rest := []) (lo1 := [x_r 1, iv_c 2147483708]) (by decide +kernel) (by decide) (by decide +kernel) (x_rb_of (by decide +kernel)) rfl rfl (x_wr (by decide) (x_wi (by decide) x_wn)) x_wn (by decide) rfl (c76_1 j71  (by first | decide | omega) m97) (fun v94 h98 l95 q96 => ?_)
            obtain ⟨j99, f100, b101, c102, c103, c104⟩ := q96
            have f105 := Fr.trans f78 f100 (by decide)
            have b106 := jB (e := 2) 0 j99 rg_1_2_0_1 (by first | decide | omega) (by first | decide | omega)
            refine x_ifz (k := 0) (tg := 210) (np := 184) (by decide +kernel) (by decide) l95 (fun q107 => ?_) (fun q108 => ?_)
            · have q107 : v94 = 2147483648 := q107
              have b109 := c103 (by first | decide | omega)
              refine x_aload (np := 211) (x := 0) (by decide +kernel) rfl (x_nc_le (by decide)) ?_
              have q110 : h98 62 0 = 1 := by have z := jB (e := 0) 0 j99 rg_62_0_0_1 (by decide) (by decide); omega
              refine x_getR (np := 214) (x := 192) (f := 0) (q := 1) (by decide +kernel) (by decide) (by decide +kernel) q110 ?_
              refine x_const (np := 216) (x := 9223372305290231870) (a := 2147483710) (by decide +kernel) (by decide) (by decide) ?_
              have m114 := Tp.fr m97 f100 (by decide) (by decide)
              refine x_cI (t := 6) (mj := 76) (n := 2) (rc := 8) (ml := 2) (nr := 0) (np := 219) (as := [x_r 1, iv_c 2147483710]) (rest := []) (lo1 := [x_r 1, iv_c 2147483710]) (by decide +kernel) (by decide) (by decide +kernel) (x_rb_of (by decide +kernel)) rfl rfl (x_wr (by decide) (x_wi (by decide) x_wn)) x_wn (by decide) rfl (c76_1 j99  (by first | decide | omega) m114) (fun v111 h115 l112 q113 => ?_)
              obtain ⟨j116, f117, b118, c119, c120, c121⟩ := q113
              have f122 := Fr.trans f105 f117 (by decide)
              have b123 := jB (e := 2) 0 j116 rg_1_2_0_1 (by first | decide | omega) (by first | decide | omega)
              refine x_ifz (k := 0) (tg := 246) (np := 222) (by decide +kernel) (by decide) l112 (fun q124 => ?_) (fun q125 => ?_)
              · have q124 : v111 = 2147483648 := q124
                have b126 := c120 (by first | decide | omega)
                refine x_const (np := 247) (x := 9223372039002259456) (a := 2147483648) (by decide +kernel) (by decide) (by decide) ?_
                have q127 : h115 62 1 = h98 62 1 := f117 62 1 (by decide +kernel)
                have q128 : h98 62 1 = h70 62 1 := f100 62 1 (by decide +kernel)
                have q129 : h70 62 1 = h48 62 1 := f72 62 1 (by decide +kernel)
                have q130 : h48 62 1 = h30 62 1 := f50 62 1 (by decide +kernel)
                have q131 : h30 62 1 = h 62 1 := f32 62 1 (by decide +kernel)
                have q132 : h115 (r1 + 11) 2 = h98 (r1 + 11) 2 := jK 0 f117 (rg_T11_2_0_1 t3) (by first | decide | omega) (by first | decide | omega) (by decide)
                have q133 : h98 (r1 + 11) 2 = h70 (r1 + 11) 2 := jK 0 f100 (rg_T11_2_0_1 t3) (by first | decide | omega) (by first | decide | omega) (by decide)
                have e134 : cl9 h115 = (h70 (r1 + 11) 2) := (congrArg (fun z => h115 z 2) (((((q127.trans q128).trans q129).trans q130).trans q131).trans q2)).trans (q132.trans q133)
                obtain ⟨w135, e136⟩ := Tk.no c36 (by first | decide | omega)
                obtain ⟨w137, e138⟩ := Tk.no c54 (by first | decide | omega)
                have w139 : An tB tN (h 1 2) := gA_an (Is.no c12 (by first | decide | omega)) rfl (Is.no c21 (by first | decide | omega)) rfl w135 rfl w137 (show h30 1 2 = h 1 2 by first | decide | omega)
                obtain ⟨w140, e141⟩ := Tk.no c104 (by first | decide | omega)
                obtain ⟨w142, e143⟩ := Tk.no c121 (by first | decide | omega)
                obtain ⟨w144, e145⟩ := Tk.no c36 (by first | decide | omega)
                obtain ⟨w146, e147⟩ := Tk.no c54 (by first | decide | omega)
                have w148 : An tB tN (h 1 2) := gA_an (Is.no c12 (by first | decide | omega)) rfl (Is.no c21 (by first | decide | omega)) rfl w144 rfl w146 (show h30 1 2 = h 1 2 by first | decide | omega)
                obtain ⟨w149, e150⟩ := Tk.no c104 (by first | decide | omega)
                obtain ⟨w151, e152⟩ := Tk.no c121 (by first | decide | omega)
                refine x_retI (np := 248) (x := 0) (by decide +kernel) (by decide) (Or.inr ⟨by decide +kernel, by first | decide | omega, by first | decide | omega⟩) ⟨_, rfl, (by decide), ?_⟩
                exact ⟨j116, f122, (by first | decide | omega), (fun z => by first | decide | omega), (fun z => by first | decide | omega), (gA_c1 w139 (c76 6) (show h48 1 2 = h 1 2 by first | decide | omega) (by first | decide | omega) w140 rfl w142 (show h98 1 2 = h70 1 2 by first | decide | omega) (by first | decide | omega)), (fun _ => fA_c1 w148 (c76 6) (show h48 1 2 = h 1 2 by first | decide | omega) (by first | decide | omega) w149 rfl w151 (show h98 1 2 = h70 1 2 by first | decide | omega) (show h115 1 2 = h98 1 2 by first | decide | omega))⟩
              have q125 : ¬ (v111 = 2147483648) := q125
              have b153 := c119 (by first | decide | omega)
              refine x_aload (np := 223) (x := 0) (by decide +kernel) rfl (x_nc_le (by decide)) ?_
              have q154 : h115 62 1 = h98 62 1 := f117 62 1 (by decide +kernel)
              have q155 : h98 62 1 = h70 62 1 := f100 62 1 (by decide +kernel)
              have q156 : h70 62 1 = h48 62 1 := f72 62 1 (by decide +kernel)
              have q157 : h48 62 1 = h30 62 1 := f50 62 1 (by decide +kernel)
              have q158 : h30 62 1 = h 62 1 := f32 62 1 (by decide +kernel)
              have q159 : h115 (r1 + 11) 2 = h98 (r1 + 11) 2 := jK 0 f117 (rg_T11_2_0_1 t3) (by first | decide | omega) (by first | decide | omega) (by decide)
              have q160 : h98 (r1 + 11) 2 = h70 (r1 + 11) 2 := jK 0 f100 (rg_T11_2_0_1 t3) (by first | decide | omega) (by first | decide | omega) (by decide)
              have e161 : cl9 h115 = (h70 (r1 + 11) 2) := (congrArg (fun z => h115 z 2) (((((q154.trans q155).trans q156).trans q157).trans q158).trans q2)).trans (q159.trans q160)
              have m165 := Tp.fr m114 f117 (by decide) (by decide)
              refine x_cI (t := 6) (mj := 49) (n := 1) (rc := 4) (ml := 2) (nr := 0) (np := 226) (as := [x_r 62]) (rest := []) (lo1 := [x_r 62, 147573952589676412928]) (by decide +kernel) (by decide) (by decide +kernel) (x_rb_of (by decide +kernel)) rfl rfl (x_wr (by decide) x_wn) x_wn (by decide) rfl (c49_62 j116  (by first | decide | omega) m165) (fun v162 h166 l163 q164 => ?_)
              obtain ⟨j167, f168, b169, c170, c171, c172, c173⟩ := q164
              have f174 := Fr.trans f122 f168 (by decide)
              have b175 := jB (e := 2) 0 j167 rg_1_2_0_1 (by first | decide | omega) (by first | decide | omega)
              have q176 : h115 62 1 = h98 62 1 := f117 62 1 (by decide +kernel)
              have q177 : h98 62 1 = h70 62 1 := f100 62 1 (by decide +kernel)
              have q178 : h70 62 1 = h48 62 1 := f72 62 1 (by decide +kernel)
              have q179 : h48 62 1 = h30 62 1 := f50 62 1 (by decide +kernel)
              have q180 : h30 62 1 = h 62 1 := f32 62 1 (by decide +kernel)
              have q181 : h115 (r1 + 11) 2 = h98 (r1 + 11) 2 := jK 0 f117 (rg_T11_2_0_1 t3) (by first | decide | omega) (by first | decide | omega) (by decide)
              have q182 : h98 (r1 + 11) 2 = h70 (r1 + 11) 2 := jK 0 f100 (rg_T11_2_0_1 t3) (by first | decide | omega) (by first | decide | omega) (by decide)
              have q183 : h166 62 1 = h115 62 1 := f168 62 1 (by decide +kernel)
              have q184 : h115 62 1 = h98 62 1 := f117 62 1 (by decide +kernel)
              have q185 : h98 62 1 = h70 62 1 := f100 62 1 (by decide +kernel)
              have q186 : h70 62 1 = h48 62 1 := f72 62 1 (by decide +kernel)
              have q187 : h48 62 1 = h30 62 1 := f50 62 1 (by decide +kernel)
              have q188 : h30 62 1 = h 62 1 := f32 62 1 (by decide +kernel)
              have b189 := jB (e := 2) 0 j167 (rg_T11_2_0_1 t3) (by first | decide | omega) (by first | decide | omega)
              have e190 : cl9 h166 = (h166 (r1 + 11) 2) := (congrArg (fun z => h166 z 2) ((((((q183.trans q184).trans q185).trans q186).trans q187).trans q188).trans q2)).trans rfl
              refine x_ifz (k := 0) (tg := 246) (np := 229) (by decide +kernel) (by decide) l163 (fun q191 => ?_) (fun q192 => ?_)
              · have q191 : v162 = 2147483648 := q191
                refine x_const (np := 247) (x := 9223372039002259456) (a := 2147483648) (by decide +kernel) (by decide) (by decide) ?_
                have q193 : h166 62 1 = h115 62 1 := f168 62 1 (by decide +kernel)
                have q194 : h115 62 1 = h98 62 1 := f117 62 1 (by decide +kernel)
                have q195 : h98 62 1 = h70 62 1 := f100 62 1 (by decide +kernel)
                have q196 : h70 62 1 = h48 62 1 := f72 62 1 (by decide +kernel)
                have q197 : h48 62 1 = h30 62 1 := f50 62 1 (by decide +kernel)
                have q198 : h30 62 1 = h 62 1 := f32 62 1 (by decide +kernel)
                obtain ⟨w199, e200⟩ := Tk.no c36 (by first | decide | omega)
                obtain ⟨w201, e202⟩ := Tk.no c54 (by first | decide | omega)
                have w203 : An tB tN (h 1 2) := gA_an (Is.no c12 (by first | decide | omega)) rfl (Is.no c21 (by first | decide | omega)) rfl w199 rfl w201 (show h30 1 2 = h 1 2 by first | decide | omega)
                obtain ⟨w204, e205⟩ := Tk.no c104 (by first | decide | omega)
                obtain ⟨w206, e207⟩ := Tk.yes c121 (by first | decide | omega)
                obtain ⟨w208, e209⟩ := Tk.no c36 (by first | decide | omega)
                obtain ⟨w210, e211⟩ := Tk.no c54 (by first | decide | omega)
                have w212 : An tB tN (h 1 2) := gA_an (Is.no c12 (by first | decide | omega)) rfl (Is.no c21 (by first | decide | omega)) rfl w208 rfl w210 (show h30 1 2 = h 1 2 by first | decide | omega)
                obtain ⟨w213, e214⟩ := Tk.no c104 (by first | decide | omega)
                obtain ⟨w215, e216⟩ := Tk.yes c121 (by first | decide | omega)
                refine x_retI (np := 248) (x := 0) (by decide +kernel) (by decide) (Or.inr ⟨by decide +kernel, by first | decide | omega, by first | decide | omega⟩) ⟨_, rfl, (by decide), ?_⟩
                exact ⟨j167, f174, (by first | decide | omega), (fun z => by first | decide | omega), (fun z => by first | decide | omega), (gA_c2 w203 (c76 6) (show h48 1 2 = h 1 2 by first | decide | omega) (by first | decide | omega) (Or.inr w206) (show h98 1 2 = h70 1 2 by first | decide | omega) e207 (c172 6) rfl (by first | decide | omega) (fun z => absurd z (by first | decide | omega))), (fun _ => fA_c2 w212 (c76 6) (show h48 1 2 = h 1 2 by first | decide | omega) (by first | decide | omega) (Or.inr w215) (show h98 1 2 = h70 1 2 by first | decide | omega) e216 (c173 (by first | decide | omega) 6) rfl rfl)⟩
              have q192 : ¬ (v162 = 2147483648) := q192
              have b217 := c170 (by first | decide | omega)
              have b218 := c171 (by first | decide | omega)
              refine x_aload (np := 230) (x := 0) (by decide +kernel) rfl (x_nc_le (by decide)) ?_
              have q219 : h166 62 1 = h115 62 1 := f168 62 1 (by decide +kernel)
              have q220 : h115 62 1 = h98 62 1 := f117 62 1 (by decide +kernel)
              have q221 : h98 62 1 = h70 62 1 := f100 62 1 (by decide +kernel)
              have q222 : h70 62 1 = h48 62 1 := f72 62 1 (by decide +kernel)
              have q223 : h48 62 1 = h30 62 1 := f50 62 1 (by decide +kernel)
              have q224 : h30 62 1 = h 62 1 := f32 62 1 (by decide +kernel)
              refine x_getR (np := 233) (x := 193) (f := 1) (q := (r1 + 11)) (by decide +kernel) (by decide) (by decide +kernel) ((((((q219.trans q220).trans q221).trans q222).trans q223).trans q224).trans q2) ?_
              refine x_const (np := 236) (x := 9223380637526788050) (a := 2147485650) (by decide +kernel) (by decide) (by decide) ?_
              refine x_nI (t := 6) (mj := 36) (n := 2) (rc := 3) (ml := 2) (nr := 0) (np := 239) (as := [x_r (r1 + 11), iv_c 2147485650]) (rest := []) (lo1 := [x_r (r1 + 11), iv_c 2147485650]) (by decide +kernel) (by decide) (by decide +kernel) (x_rb_of (tr_11_3 t3)) rfl rfl (x_wr (tn_11 t3) (x_wi (by decide) x_wn)) x_wn (by decide) rfl ?_
              refine x_aload (np := 1) (x := 0) (by decide +kernel) rfl (x_nc_le (tn_11 t3)) ?_
              refine x_getC (np := 4) (x := 130) (f := 2) (q := (h166 (r1 + 11) 2)) (by decide +kernel) (by decide) (tg_11_130_2_0 t3) rfl (fun l225 => ?_)
              refine x_const (np := 7) (x := 9223373756989178256) (a := 2147484048) (by decide +kernel) (by decide) (by decide) ?_
              refine x_icmp (k := 2) (tg := 12) (np := 10) (by decide +kernel) (by decide) l225 (by decide) (fun q226 => ?_) (fun q227 => ?_)
              · have q226 : (h166 (r1 + 11) 2) < 2147484048 := q226
                refine x_aload (np := 13) (x := 0) (by decide +kernel) rfl (x_nc_le (tn_11 t3)) ?_
                have q228 : h166 (r1 + 11) 0 = (r1 + 12) := tf_11_0 j167 t3
                refine x_getR (np := 16) (x := 128) (f := 0) (q := (r1 + 12)) (by decide +kernel) (by decide) (tg_11_128_0_1 t3) q228 ?_
                refine x_aload (np := 17) (x := 0) (by decide +kernel) rfl (x_nc_le (tn_11 t3)) ?_
                refine x_getC (np := 20) (x := 130) (f := 2) (q := (h166 (r1 + 11) 2)) (by decide +kernel) (by decide) (tg_11_130_2_0 t3) rfl (fun l229 => ?_)
                refine x_iload (np := 21) (x := 1) (by decide +kernel) rfl (by decide) ?_
                obtain ⟨u230, q231⟩ : ∃ z, (h166 (r1 + 11) 2) = 2147483648 + z := ⟨(h166 (r1 + 11) 2) - 2147483648, by first | decide | omega⟩
                refine x_ast (np := 22) (x := 0) (kd := 1) (n := 400) (i := u230) (by decide +kernel) (Or.inl rfl) (ta_12_400 t3) (by first | decide | omega) (by first | decide | omega) (by decide) (by decide) (fun z => absurd z (by decide)) ?_
                have j233 := jU (e := u230) (v := 2147485650) u230 j167 (rg_T12_0_1_400 t3) (by first | decide | omega) (by first | decide | omega) (by first | decide | omega)
                have f235 := jF (e := u230) (v := 2147485650) u230 f174 (rg_T12_0_1_400 t3) (by first | decide | omega) (by first | decide | omega) (by decide)
                generalize e234 : x_up h166 (r1 + 12) u230 2147485650 = h232 at j233 f235 ⊢
                refine x_aload (np := 23) (x := 0) (by decide +kernel) rfl (x_nc_le (tn_11 t3)) ?_
                refine x_dup (np := 24) (x := 0) (by decide +kernel) (by have z := x_nc_le (k := (r1 + 11)) (tn_11 t3); unfold x_r; omega) ?_
                have q236 : h232 (r1 + 11) 2 = h166 (r1 + 11) 2 := by rw [← e234]; exact x_up_k tof_11_12
                refine x_getC (np := 27) (x := 130) (f := 2) (q := (h166 (r1 + 11) 2)) (by decide +kernel) (by decide) (tg_11_130_2_0 t3) q236 (fun l237 => ?_)
                refine x_const (np := 28) (x := 9223372043297226753) (a := 2147483649) (by decide +kernel) (by decide) (by decide) ?_
                refine x_iadd (np := 29) (x := 0) (v := (1 + (h166 (r1 + 11) 2))) (by decide +kernel) l225 (by decide) (by first | decide | omega) (by first | decide | omega) ?_
                refine x_putI (np := 32) (x := 130) (f := 2) (by decide +kernel) (tg_11_130_2_0 t3) (by first | decide | omega) (Or.inl (by decide)) ?_
                have j239 := jU (e := 2) (v := (1 + (h166 (r1 + 11) 2))) 0 j233 (rg_T11_2_0_1 t3) (by first | decide | omega) (by first | decide | omega) (by first | decide | omega)
                have f241 := jF (e := 2) (v := (1 + (h166 (r1 + 11) 2))) 0 f235 (rg_T11_2_0_1 t3) (by first | decide | omega) (by first | decide | omega) (by decide)
                generalize e240 : x_up h232 (r1 + 11) 2 (1 + (h166 (r1 + 11) 2)) = h238 at j239 f241 ⊢
                refine x_const (np := 33) (x := 9223372043297226753) (a := 2147483649) (by decide +kernel) (by decide) (by decide) ?_
                refine x_retI (np := 34) (x := 0) (by decide +kernel) (by decide) (Or.inr ⟨by decide +kernel, by first | decide | omega, by first | decide | omega⟩) ⟨_, rfl, (by decide), ?_⟩
                refine x_ifz (k := 0) (tg := 246) (np := 242) (by decide +kernel) (by decide) (by decide) (fun q242 => ?_) (fun q243 => ?_)
                · have q242 : 2147483649 = 2147483648 := q242
                  exfalso; omega
                have q243 : ¬ (2147483649 = 2147483648) := q243
                refine x_const (np := 243) (x := 9223372043297226753) (a := 2147483649) (by decide +kernel) (by decide) (by decide) ?_
                refine x_goto (np := 246) (x := 247) (by decide +kernel) ?_
                have q244 : h238 1 2 = h232 1 2 := by rw [← e240]; exact x_up_k (Ne.symm (tne_11_1 t3))
                have q245 : h232 1 2 = h166 1 2 := by rw [← e234]; exact x_up_k (Ne.symm (tne_12_1 t3))
                have q246 : h238 62 1 = h232 62 1 := by rw [← e240]; exact x_up_k (Ne.symm (tne_11_62 t3))
                have q247 : h232 62 1 = h166 62 1 := by rw [← e234]; exact x_up_k (Ne.symm (tne_12_62 t3))
                have q248 : h166 62 1 = h115 62 1 := f168 62 1 (by decide +kernel)
                have q249 : h115 62 1 = h98 62 1 := f117 62 1 (by decide +kernel)
                have q250 : h98 62 1 = h70 62 1 := f100 62 1 (by decide +kernel)
                have q251 : h70 62 1 = h48 62 1 := f72 62 1 (by decide +kernel)
                have q252 : h48 62 1 = h30 62 1 := f50 62 1 (by decide +kernel)
                have q253 : h30 62 1 = h 62 1 := f32 62 1 (by decide +kernel)
                have q254 : h238 (r1 + 11) 2 = (1 + (h166 (r1 + 11) 2)) := by rw [← e240]; exact x_up_at
                have e255 : cl9 h238 = (1 + (h166 (r1 + 11) 2)) := (congrArg (fun z => h238 z 2) ((((((((q246.trans q247).trans q248).trans q249).trans q250).trans q251).trans q252).trans q253).trans q2)).trans q254
                have q256 : h238 1 2 = h232 1 2 := by rw [← e240]; exact x_up_k (Ne.symm (tne_11_1 t3))
                have q257 : h232 1 2 = h166 1 2 := by rw [← e234]; exact x_up_k (Ne.symm (tne_12_1 t3))
                obtain ⟨w258, e259⟩ := Tk.no c36 (by first | decide | omega)
                obtain ⟨w260, e261⟩ := Tk.no c54 (by first | decide | omega)
                have w262 : An tB tN (h 1 2) := gA_an (Is.no c12 (by first | decide | omega)) rfl (Is.no c21 (by first | decide | omega)) rfl w258 rfl w260 (show h30 1 2 = h 1 2 by first | decide | omega)
                obtain ⟨w263, e264⟩ := Tk.no c104 (by first | decide | omega)
                obtain ⟨w265, e266⟩ := Tk.yes c121 (by first | decide | omega)
                have q267 : h238 1 2 = h232 1 2 := by rw [← e240]; exact x_up_k (Ne.symm (tne_11_1 t3))
                have q268 : h232 1 2 = h166 1 2 := by rw [← e234]; exact x_up_k (Ne.symm (tne_12_1 t3))
                refine x_retI (np := 248) (x := 0) (by decide +kernel) (by decide) (Or.inr ⟨by decide +kernel, by first | decide | omega, by first | decide | omega⟩) ⟨_, rfl, (by decide), ?_⟩
                exact ⟨j239, f241, (by first | decide | omega), (fun z => by first | decide | omega), (fun z => by first | decide | omega), (gA_c2 w262 (c76 6) (show h48 1 2 = h 1 2 by first | decide | omega) (by first | decide | omega) (Or.inr w265) (show h98 1 2 = h70 1 2 by first | decide | omega) e266 (c172 6) rfl (by first | decide | omega) (fun z => (show h166 1 2 = h238 1 2 by first | decide | omega))), (fun z => absurd z (by first | decide | omega))⟩
              have q227 : ¬ ((h166 (r1 + 11) 2) < 2147484048) := q227
              refine x_const (np := 11) (x := 9223372039002259456) (a := 2147483648) (by decide +kernel) (by decide) (by decide) ?_
              refine x_retI (np := 12) (x := 0) (by decide +kernel) (by decide) (Or.inr ⟨by decide +kernel, by first | decide | omega, by first | decide | omega⟩) ⟨_, rfl, (by decide), ?_⟩
              refine x_ifz (k := 0) (tg := 246) (np := 242) (by decide +kernel) (by decide) (by decide) (fun q269 => ?_) (fun q270 => ?_)
              · have q269 : 2147483648 = 2147483648 := q269
                refine x_const (np := 247) (x := 9223372039002259456) (a := 2147483648) (by decide +kernel) (by decide) (by decide) ?_
                have q271 : h166 62 1 = h115 62 1 := f168 62 1 (by decide +kernel)
                have q272 : h115 62 1 = h98 62 1 := f117 62 1 (by decide +kernel)
                have q273 : h98 62 1 = h70 62 1 := f100 62 1 (by decide +kernel)
                have q274 : h70 62 1 = h48 62 1 := f72 62 1 (by decide +kernel)
                have q275 : h48 62 1 = h30 62 1 := f50 62 1 (by decide +kernel)
                have q276 : h30 62 1 = h 62 1 := f32 62 1 (by decide +kernel)
                obtain ⟨w277, e278⟩ := Tk.no c36 (by first | decide | omega)
                obtain ⟨w279, e280⟩ := Tk.no c54 (by first | decide | omega)
                have w281 : An tB tN (h 1 2) := gA_an (Is.no c12 (by first | decide | omega)) rfl (Is.no c21 (by first | decide | omega)) rfl w277 rfl w279 (show h30 1 2 = h 1 2 by first | decide | omega)
                obtain ⟨w282, e283⟩ := Tk.no c104 (by first | decide | omega)
                obtain ⟨w284, e285⟩ := Tk.yes c121 (by first | decide | omega)
                obtain ⟨w286, e287⟩ := Tk.no c36 (by first | decide | omega)
                obtain ⟨w288, e289⟩ := Tk.no c54 (by first | decide | omega)
                have w290 : An tB tN (h 1 2) := gA_an (Is.no c12 (by first | decide | omega)) rfl (Is.no c21 (by first | decide | omega)) rfl w286 rfl w288 (show h30 1 2 = h 1 2 by first | decide | omega)
                obtain ⟨w291, e292⟩ := Tk.no c104 (by first | decide | omega)
                obtain ⟨w293, e294⟩ := Tk.yes c121 (by first | decide | omega)
                refine x_retI (np := 248) (x := 0) (by decide +kernel) (by decide) (Or.inr ⟨by decide +kernel, by first | decide | omega, by first | decide | omega⟩) ⟨_, rfl, (by decide), ?_⟩
                exact ⟨j167, f174, (by first | decide | omega), (fun z => by first | decide | omega), (fun z => by first | decide | omega), (gA_c2 w281 (c76 6) (show h48 1 2 = h 1 2 by first | decide | omega) (by first | decide | omega) (Or.inr w284) (show h98 1 2 = h70 1 2 by first | decide | omega) e285 (c172 6) rfl (by first | decide | omega) (fun z => rfl)), (fun _ => fA_c2 w290 (c76 6) (show h48 1 2 = h 1 2 by first | decide | omega) (by first | decide | omega) (Or.inr w293) (show h98 1 2 = h70 1 2 by first | decide | omega) e294 (c173 (by first | decide | omega) 6) rfl rfl)⟩
              have q270 : ¬ (2147483648 = 2147483648) := q270
              exfalso; omega
            have q108 : ¬ (v94 = 2147483648) := q108
            have b295 := c102 (by first | decide | omega)
            refine x_aload (np := 185) (x := 0) (by decide +kernel) rfl (x_nc_le (by decide)) ?_
            have q296 : h98 62 1 = h70 62 1 := f100 62 1 (by decide +kernel)
            have q297 : h70 62 1 = h48 62 1 := f72 62 1 (by decide +kernel)
            have q298 : h48 62 1 = h30 62 1 := f50 62 1 (by decide +kernel)
            have q299 : h30 62 1 = h 62 1 := f32 62 1 (by decide +kernel)
            have q300 : h98 (r1 + 11) 2 = h70 (r1 + 11) 2 := jK 0 f100 (rg_T11_2_0_1 t3) (by first | decide | omega) (by first | decide | omega) (by decide)
            have e301 : cl9 h98 = (h70 (r1 + 11) 2) := (congrArg (fun z => h98 z 2) ((((q296.trans q297).trans q298).trans q299).trans q2)).trans q300
            have m305 := Tp.fr m97 f100 (by decide) (by decide)
            refine x_cI (t := 6) (mj := 49) (n := 1) (rc := 4) (ml := 2) (nr := 0) (np := 188) (as := [x_r 62]) (rest := []) (lo1 := [x_r 62, 147573952589676412928]) (by decide +kernel) (by decide) (by decide +kernel) (x_rb_of (by decide +kernel)) rfl rfl (x_wr (by decide) x_wn) x_wn (by decide) rfl (c49_62 j99  (by first | decide | omega) m305) (fun v302 h306 l303 q304 => ?_)
            obtain ⟨j307, f308, b309, c310, c311, c312, c313⟩ := q304
            have f314 := Fr.trans f105 f308 (by decide)
            have b315 := jB (e := 2) 0 j307 rg_1_2_0_1 (by first | decide | omega) (by first | decide | omega)
            have q316 : h98 62 1 = h70 62 1 := f100 62 1 (by decide +kernel)
            have q317 : h70 62 1 = h48 62 1 := f72 62 1 (by decide +kernel)
            have q318 : h48 62 1 = h30 62 1 := f50 62 1 (by decide +kernel)
            have q319 : h30 62 1 = h 62 1 := f32 62 1 (by decide +kernel)
            have q320 : h98 (r1 + 11) 2 = h70 (r1 + 11) 2 := jK 0 f100 (rg_T11_2_0_1 t3) (by first | decide | omega) (by first | decide | omega) (by decide)
            have q321 : h306 62 1 = h98 62 1 := f308 62 1 (by decide +kernel)
            have q322 : h98 62 1 = h70 62 1 := f100 62 1 (by decide +kernel)
            have q323 : h70 62 1 = h48 62 1 := f72 62 1 (by decide +kernel)
            have q324 : h48 62 1 = h30 62 1 := f50 62 1 (by decide +kernel)
            have q325 : h30 62 1 = h 62 1 := f32 62 1 (by decide +kernel)
            have b326 := jB (e := 2) 0 j307 (rg_T11_2_0_1 t3) (by first | decide | omega) (by first | decide | omega)
            have e327 : cl9 h306 = (h306 (r1 + 11) 2) := (congrArg (fun z => h306 z 2) (((((q321.trans q322).trans q323).trans q324).trans q325).trans q2)).trans rfl
            refine x_ifz (k := 0) (tg := 208) (np := 191) (by decide +kernel) (by decide) l303 (fun q328 => ?_) (fun q329 => ?_)
            · have q328 : v302 = 2147483648 := q328
              refine x_const (np := 209) (x := 9223372039002259456) (a := 2147483648) (by decide +kernel) (by decide) (by decide) ?_
              have q330 : h306 62 1 = h98 62 1 := f308 62 1 (by decide +kernel)
              have q331 : h98 62 1 = h70 62 1 := f100 62 1 (by decide +kernel)
              have q332 : h70 62 1 = h48 62 1 := f72 62 1 (by decide +kernel)
              have q333 : h48 62 1 = h30 62 1 := f50 62 1 (by decide +kernel)
              have q334 : h30 62 1 = h 62 1 := f32 62 1 (by decide +kernel)
              obtain ⟨w335, e336⟩ := Tk.no c36 (by first | decide | omega)
              obtain ⟨w337, e338⟩ := Tk.no c54 (by first | decide | omega)
              have w339 : An tB tN (h 1 2) := gA_an (Is.no c12 (by first | decide | omega)) rfl (Is.no c21 (by first | decide | omega)) rfl w335 rfl w337 (show h30 1 2 = h 1 2 by first | decide | omega)
              obtain ⟨w340, e341⟩ := Tk.yes c104 (by first | decide | omega)
              obtain ⟨w342, e343⟩ := Tk.no c36 (by first | decide | omega)
              obtain ⟨w344, e345⟩ := Tk.no c54 (by first | decide | omega)
              have w346 : An tB tN (h 1 2) := gA_an (Is.no c12 (by first | decide | omega)) rfl (Is.no c21 (by first | decide | omega)) rfl w342 rfl w344 (show h30 1 2 = h 1 2 by first | decide | omega)
              obtain ⟨w347, e348⟩ := Tk.yes c104 (by first | decide | omega)
              refine x_retI (np := 210) (x := 0) (by decide +kernel) (by decide) (Or.inr ⟨by decide +kernel, by first | decide | omega, by first | decide | omega⟩) ⟨_, rfl, (by decide), ?_⟩
              exact ⟨j307, f314, (by first | decide | omega), (fun z => by first | decide | omega), (fun z => by first | decide | omega), (gA_c2 w339 (c76 6) (show h48 1 2 = h 1 2 by first | decide | omega) (by first | decide | omega) (Or.inl w340) rfl e341 (c312 6) rfl (by first | decide | omega) (fun z => absurd z (by first | decide | omega))), (fun _ => fA_c2 w346 (c76 6) (show h48 1 2 = h 1 2 by first | decide | omega) (by first | decide | omega) (Or.inl w347) rfl e348 (c313 (by first | decide | omega) 6) rfl rfl)⟩
            have q329 : ¬ (v302 = 2147483648) := q329
            have b349 := c310 (by first | decide | omega)
            have b350 := c311 (by first | decide | omega)
            refine x_aload (np := 192) (x := 0) (by decide +kernel) rfl (x_nc_le (by decide)) ?_
            have q351 : h306 62 1 = h98 62 1 := f308 62 1 (by decide +kernel)
            have q352 : h98 62 1 = h70 62 1 := f100 62 1 (by decide +kernel)
            have q353 : h70 62 1 = h48 62 1 := f72 62 1 (by decide +kernel)
            have q354 : h48 62 1 = h30 62 1 := f50 62 1 (by decide +kernel)
            have q355 : h30 62 1 = h 62 1 := f32 62 1 (by decide +kernel)
            refine x_getR (np := 195) (x := 193) (f := 1) (q := (r1 + 11)) (by decide +kernel) (by decide) (by decide +kernel) (((((q351.trans q352).trans q353).trans q354).trans q355).trans q2) ?_
            refine x_const (np := 198) (x := 9223380633231820753) (a := 2147485649) (by decide +kernel) (by decide) (by decide) ?_
            refine x_nI (t := 6) (mj := 36) (n := 2) (rc := 3) (ml := 2) (nr := 0) (np := 201) (as := [x_r (r1 + 11), iv_c 2147485649]) (rest := []) (lo1 := [x_r (r1 + 11), iv_c 2147485649]) (by decide +kernel) (by decide) (by decide +kernel) (x_rb_of (tr_11_3 t3)) rfl rfl (x_wr (tn_11 t3) (x_wi (by decide) x_wn)) x_wn (by decide) rfl ?_
            refine x_aload (np := 1) (x := 0) (by decide +kernel) rfl (x_nc_le (tn_11 t3)) ?_
            refine x_getC (np := 4) (x := 130) (f := 2) (q := (h306 (r1 + 11) 2)) (by decide +kernel) (by decide) (tg_11_130_2_0 t3) rfl (fun l356 => ?_)
            refine x_const (np := 7) (x := 9223373756989178256) (a := 2147484048) (by decide +kernel) (by decide) (by decide) ?_
            refine x_icmp (k := 2) (tg := 12) (np := 10) (by decide +kernel) (by decide) l356 (by decide) (fun q357 => ?_) (fun q358 => ?_)
            · have q357 : (h306 (r1 + 11) 2) < 2147484048 := q357
              refine x_aload (np := 13) (x := 0) (by decide +kernel) rfl (x_nc_le (tn_11 t3)) ?_
              have q359 : h306 (r1 + 11) 0 = (r1 + 12) := tf_11_0 j307 t3
              refine x_getR (np := 16) (x := 128) (f := 0) (q := (r1 + 12)) (by decide +kernel) (by decide) (tg_11_128_0_1 t3) q359 ?_
              refine x_aload (np := 17) (x := 0) (by decide +kernel) rfl (x_nc_le (tn_11 t3)) ?_
              refine x_getC (np := 20) (x := 130) (f := 2) (q := (h306 (r1 + 11) 2)) (by decide +kernel) (by decide) (tg_11_130_2_0 t3) rfl (fun l360 => ?_)
              refine x_iload (np := 21) (x := 1) (by decide +kernel) rfl (by decide) ?_
              obtain ⟨u361, q362⟩ : ∃ z, (h306 (r1 + 11) 2) = 2147483648 + z := ⟨(h306 (r1 + 11) 2) - 2147483648, by first | decide | omega⟩
              refine x_ast (np := 22) (x := 0) (kd := 1) (n := 400) (i := u361) (by decide +kernel) (Or.inl rfl) (ta_12_400 t3) (by first | decide | omega) (by first | decide | omega) (by decide) (by decide) (fun z => absurd z (by decide)) ?_
              have j364 := jU (e := u361) (v := 2147485649) u361 j307 (rg_T12_0_1_400 t3) (by first | decide | omega) (by first | decide | omega) (by first | decide | omega)
              have f366 := jF (e := u361) (v := 2147485649) u361 f314 (rg_T12_0_1_400 t3) (by first | decide | omega) (by first | decide | omega) (by decide)
              generalize e365 : x_up h306 (r1 + 12) u361 2147485649 = h363 at j364 f366 ⊢
              refine x_aload (np := 23) (x := 0) (by decide +kernel) rfl (x_nc_le (tn_11 t3)) ?_
              refine x_dup (np := 24) (x := 0) (by decide +kernel) (by have z := x_nc_le (k := (r1 + 11)) (tn_11 t3); unfold x_r; omega) ?_
              have q367 : h363 (r1 + 11) 2 = h306 (r1 + 11) 2 := by rw [← e365]; exact x_up_k tof_11_12
              refine x_getC (np := 27) (x := 130) (f := 2) (q := (h306 (r1 + 11) 2)) (by decide +kernel) (by decide) (tg_11_130_2_0 t3) q367 (fun l368 => ?_)
              refine x_const (np := 28) (x := 9223372043297226753) (a := 2147483649) (by decide +kernel) (by decide) (by decide) ?_
              refine x_iadd (np := 29) (x := 0) (v := (1 + (h306 (r1 + 11) 2))) (by decide +kernel) l356 (by decide) (by first | decide | omega) (by first | decide | omega) ?_
              refine x_putI (np := 32) (x := 130) (f := 2) (by decide +kernel) (tg_11_130_2_0 t3) (by first | decide | omega) (Or.inl (by decide)) ?_
              have j370 := jU (e := 2) (v := (1 + (h306 (r1 + 11) 2))) 0 j364 (rg_T11_2_0_1 t3) (by first | decide | omega) (by first | decide | omega) (by first | decide | omega)
              have f372 := jF (e := 2) (v := (1 + (h306 (r1 + 11) 2))) 0 f366 (rg_T11_2_0_1 t3) (by first | decide | omega) (by first | decide | omega) (by decide)
              generalize e371 : x_up h363 (r1 + 11) 2 (1 + (h306 (r1 + 11) 2)) = h369 at j370 f372 ⊢
              refine x_const (np := 33) (x := 9223372043297226753) (a := 2147483649) (by decide +kernel) (by decide) (by decide) ?_
              refine x_retI (np := 34) (x := 0) (by decide +kernel) (by decide) (Or.inr ⟨by decide +kernel, by first | decide | omega, by first | decide | omega⟩) ⟨_, rfl, (by decide), ?_⟩
              refine x_ifz (k := 0) (tg := 208) (np := 204) (by decide +kernel) (by decide) (by decide) (fun q373 => ?_) (fun q374 => ?_)
              · have q373 : 2147483649 = 2147483648 := q373
                exfalso; omega
              have q374 : ¬ (2147483649 = 2147483648) := q374
              refine x_const (np := 205) (x := 9223372043297226753) (a := 2147483649) (by decide +kernel) (by decide) (by decide) ?_
              refine x_goto (np := 208) (x := 209) (by decide +kernel) ?_
              have q375 : h369 1 2 = h363 1 2 := by rw [← e371]; exact x_up_k (Ne.symm (tne_11_1 t3))
              have q376 : h363 1 2 = h306 1 2 := by rw [← e365]; exact x_up_k (Ne.symm (tne_12_1 t3))
              have q377 : h369 62 1 = h363 62 1 := by rw [← e371]; exact x_up_k (Ne.symm (tne_11_62 t3))
              have q378 : h363 62 1 = h306 62 1 := by rw [← e365]; exact x_up_k (Ne.symm (tne_12_62 t3))
              have q379 : h306 62 1 = h98 62 1 := f308 62 1 (by decide +kernel)
              have q380 : h98 62 1 = h70 62 1 := f100 62 1 (by decide +kernel)
              have q381 : h70 62 1 = h48 62 1 := f72 62 1 (by decide +kernel)
              have q382 : h48 62 1 = h30 62 1 := f50 62 1 (by decide +kernel)
              have q383 : h30 62 1 = h 62 1 := f32 62 1 (by decide +kernel)
              have q384 : h369 (r1 + 11) 2 = (1 + (h306 (r1 + 11) 2)) := by rw [← e371]; exact x_up_at
              have e385 : cl9 h369 = (1 + (h306 (r1 + 11) 2)) := (congrArg (fun z => h369 z 2) (((((((q377.trans q378).trans q379).trans q380).trans q381).trans q382).trans q383).trans q2)).trans q384
              have q386 : h369 1 2 = h363 1 2 := by rw [← e371]; exact x_up_k (Ne.symm (tne_11_1 t3))
              have q387 : h363 1 2 = h306 1 2 := by rw [← e365]; exact x_up_k (Ne.symm (tne_12_1 t3))
              obtain ⟨w388, e389⟩ := Tk.no c36 (by first | decide | omega)
              obtain ⟨w390, e391⟩ := Tk.no c54 (by first | decide | omega)
              have w392 : An tB tN (h 1 2) := gA_an (Is.no c12 (by first | decide | omega)) rfl (Is.no c21 (by first | decide | omega)) rfl w388 rfl w390 (show h30 1 2 = h 1 2 by first | decide | omega)
              obtain ⟨w393, e394⟩ := Tk.yes c104 (by first | decide | omega)
              have q395 : h369 1 2 = h363 1 2 := by rw [← e371]; exact x_up_k (Ne.symm (tne_11_1 t3))
              have q396 : h363 1 2 = h306 1 2 := by rw [← e365]; exact x_up_k (Ne.symm (tne_12_1 t3))
              refine x_retI (np := 210) (x := 0) (by decide +kernel) (by decide) (Or.inr ⟨by decide +kernel, by first | decide | omega, by first | decide | omega⟩) ⟨_, rfl, (by decide), ?_⟩
              exact ⟨j370, f372, (by first | decide | omega), (fun z => by first | decide | omega), (fun z => by first | decide | omega), (gA_c2 w392 (c76 6) (show h48 1 2 = h 1 2 by first | decide | omega) (by first | decide | omega) (Or.inl w393) rfl e394 (c312 6) rfl (by first | decide | omega) (fun z => (show h306 1 2 = h369 1 2 by first | decide | omega))), (fun z => absurd z (by first | decide | omega))⟩
            have q358 : ¬ ((h306 (r1 + 11) 2) < 2147484048) := q358
            refine x_const (np := 11) (x := 9223372039002259456) (a := 2147483648) (by decide +kernel) (by decide) (by decide) ?_
            refine x_retI (np := 12) (x := 0) (by decide +kernel) (by decide) (Or.inr ⟨by decide +kernel, by first | decide | omega, by first | decide | omega⟩) ⟨_, rfl, (by decide), ?_⟩
            refine x_ifz (k := 0) (tg := 208) (np := 204) (by decide +kernel) (by decide) (by decide) (fun q397 => ?_) (fun q398 => ?_)
            · have q397 : 2147483648 = 2147483648 := q397
              refine x_const (np := 209) (x := 9223372039002259456) (a := 2147483648) (by decide +kernel) (by decide) (by decide) ?_
              have q399 : h306 62 1 = h98 62 1 := f308 62 1 (by decide +kernel)
              have q400 : h98 62 1 = h70 62 1 := f100 62 1 (by decide +kernel)
              have q401 : h70 62 1 = h48 62 1 := f72 62 1 (by decide +kernel)
              have q402 : h48 62 1 = h30 62 1 := f50 62 1 (by decide +kernel)
              have q403 : h30 62 1 = h 62 1 := f32 62 1 (by decide +kernel)
              obtain ⟨w404, e405⟩ := Tk.no c36 (by first | decide | omega)
              obtain ⟨w406, e407⟩ := Tk.no c54 (by first | decide | omega)
              have w408 : An tB tN (h 1 2) := gA_an (Is.no c12 (by first | decide | omega)) rfl (Is.no c21 (by first | decide | omega)) rfl w404 rfl w406 (show h30 1 2 = h 1 2 by first | decide | omega)
              obtain ⟨w409, e410⟩ := Tk.yes c104 (by first | decide | omega)
              obtain ⟨w411, e412⟩ := Tk.no c36 (by first | decide | omega)
              obtain ⟨w413, e414⟩ := Tk.no c54 (by first | decide | omega)
              have w415 : An tB tN (h 1 2) := gA_an (Is.no c12 (by first | decide | omega)) rfl (Is.no c21 (by first | decide | omega)) rfl w411 rfl w413 (show h30 1 2 = h 1 2 by first | decide | omega)
              obtain ⟨w416, e417⟩ := Tk.yes c104 (by first | decide | omega)
              refine x_retI (np := 210) (x := 0) (by decide +kernel) (by decide) (Or.inr ⟨by decide +kernel, by first | decide | omega, by first | decide | omega⟩) ⟨_, rfl, (by decide), ?_⟩
              exact ⟨j307, f314, (by first | decide | omega), (fun z => by first | decide | omega), (fun z => by first | decide | omega), (gA_c2 w408 (c76 6) (show h48 1 2 = h 1 2 by first | decide | omega) (by first | decide | omega) (Or.inl w409) rfl e410 (c312 6) rfl (by first | decide | omega) (fun z => rfl)), (fun _ => fA_c2 w415 (c76 6) (show h48 1 2 = h 1 2 by first | decide | omega) (by first | decide | omega) (Or.inl w416) rfl e417 (c313 (by first | decide | omega) 6) rfl rfl)⟩
            have q398 : ¬ (2147483648 = 2147483648) := q398
            exfalso; omega
          have q90 : ¬ (v66 ≠ 2147483648) := q90
          refine x_const (np := 171) (x := 9223372039002259456) (a := 2147483648) (by decide +kernel) (by decide) (by decide) ?_
          have q418 : h70 62 1 = h48 62 1 := f72 62 1 (by decide +kernel)
          have q419 : h48 62 1 = h30 62 1 := f50 62 1 (by decide +kernel)
          have q420 : h30 62 1 = h 62 1 := f32 62 1 (by decide +kernel)
          obtain ⟨w421, e422⟩ := Tk.no c36 (by first | decide | omega)
          obtain ⟨w423, e424⟩ := Tk.no c54 (by first | decide | omega)
          have w425 : An tB tN (h 1 2) := gA_an (Is.no c12 (by first | decide | omega)) rfl (Is.no c21 (by first | decide | omega)) rfl w421 rfl w423 (show h30 1 2 = h 1 2 by first | decide | omega)
          obtain ⟨w426, e427⟩ := Tk.no c36 (by first | decide | omega)
          obtain ⟨w428, e429⟩ := Tk.no c54 (by first | decide | omega)
          have w430 : An tB tN (h 1 2) := gA_an (Is.no c12 (by first | decide | omega)) rfl (Is.no c21 (by first | decide | omega)) rfl w426 rfl w428 (show h30 1 2 = h 1 2 by first | decide | omega)
          refine x_retI (np := 172) (x := 0) (by decide +kernel) (by decide) (Or.inr ⟨by decide +kernel, by first | decide | omega, by first | decide | omega⟩) ⟨_, rfl, (by decide), ?_⟩
          exact ⟨j71, f78, (by first | decide | omega), (fun z => by first | decide | omega), (fun z => by first | decide | omega), (gA_c0 w425 (c76 6) (show h48 1 2 = h 1 2 by first | decide | omega) (by first | decide | omega) (by first | decide | omega)), (fun _ => fA_c0 w430 (c77 (by first | decide | omega) 6) (show h48 1 2 = h 1 2 by first | decide | omega) rfl)⟩
        have q59 : ¬ (v44 = 2147483648) := q59
        have b431 := c52 (by first | decide | omega)
        refine x_aload (np := 153) (x := 0) (by decide +kernel) rfl (x_nc_le (by decide)) ?_
        have q432 : h48 62 1 = h30 62 1 := f50 62 1 (by decide +kernel)
        have q433 : h30 62 1 = h 62 1 := f32 62 1 (by decide +kernel)
        refine x_getR (np := 156) (x := 193) (f := 1) (q := (r1 + 11)) (by decide +kernel) (by decide) (by decide +kernel) ((q432.trans q433).trans q2) ?_
        refine x_const (np := 159) (x := 9223376364034327535) (a := 2147484655) (by decide +kernel) (by decide) (by decide) ?_
        refine x_nI (t := 6) (mj := 36) (n := 2) (rc := 3) (ml := 2) (nr := 0) (np := 162) (as := [x_r (r1 + 11), iv_c 2147484655]) (rest := []) (lo1 := [x_r (r1 + 11), iv_c 2147484655]) (by decide +kernel) (by decide) (by decide +kernel) (x_rb_of (tr_11_3 t3)) rfl rfl (x_wr (tn_11 t3) (x_wi (by decide) x_wn)) x_wn (by decide) rfl ?_
        refine x_aload (np := 1) (x := 0) (by decide +kernel) rfl (x_nc_le (tn_11 t3)) ?_
        have q434 : h48 (r1 + 11) 2 = h30 (r1 + 11) 2 := jK 0 f50 (rg_T11_2_0_1 t3) (by first | decide | omega) (by first | decide | omega) (by decide)
        have q435 : h30 (r1 + 11) 2 = h (r1 + 11) 2 := jK 0 f32 (rg_T11_2_0_1 t3) (by first | decide | omega) (by first | decide | omega) (by decide)
        refine x_getC (np := 4) (x := 130) (f := 2) (q := (h (r1 + 11) 2)) (by decide +kernel) (by decide) (tg_11_130_2_0 t3) (q434.trans q435) (fun l436 => ?_)
        refine x_const (np := 7) (x := 9223373756989178256) (a := 2147484048) (by decide +kernel) (by decide) (by decide) ?_
        refine x_icmp (k := 2) (tg := 12) (np := 10) (by decide +kernel) (by decide) l436 (by decide) (fun q437 => ?_) (fun q438 => ?_)
        · have q437 : (h (r1 + 11) 2) < 2147484048 := q437
          refine x_aload (np := 13) (x := 0) (by decide +kernel) rfl (x_nc_le (tn_11 t3)) ?_
          have q439 : h48 (r1 + 11) 0 = (r1 + 12) := tf_11_0 j49 t3
          refine x_getR (np := 16) (x := 128) (f := 0) (q := (r1 + 12)) (by decide +kernel) (by decide) (tg_11_128_0_1 t3) q439 ?_
          refine x_aload (np := 17) (x := 0) (by decide +kernel) rfl (x_nc_le (tn_11 t3)) ?_
          have q440 : h48 (r1 + 11) 2 = h30 (r1 + 11) 2 := jK 0 f50 (rg_T11_2_0_1 t3) (by first | decide | omega) (by first | decide | omega) (by decide)
          have q441 : h30 (r1 + 11) 2 = h (r1 + 11) 2 := jK 0 f32 (rg_T11_2_0_1 t3) (by first | decide | omega) (by first | decide | omega) (by decide)
          refine x_getC (np := 20) (x := 130) (f := 2) (q := (h (r1 + 11) 2)) (by decide +kernel) (by decide) (tg_11_130_2_0 t3) (q440.trans q441) (fun l442 => ?_)
          refine x_iload (np := 21) (x := 1) (by decide +kernel) rfl (by decide) ?_
          obtain ⟨u443, q444⟩ : ∃ z, (h (r1 + 11) 2) = 2147483648 + z := ⟨(h (r1 + 11) 2) - 2147483648, by first | decide | omega⟩
          refine x_ast (np := 22) (x := 0) (kd := 1) (n := 400) (i := u443) (by decide +kernel) (Or.inl rfl) (ta_12_400 t3) (by first | decide | omega) (by first | decide | omega) (by decide) (by decide) (fun z => absurd z (by decide)) ?_
          have j446 := jU (e := u443) (v := 2147484655) u443 j49 (rg_T12_0_1_400 t3) (by first | decide | omega) (by first | decide | omega) (by first | decide | omega)
          have f448 := jF (e := u443) (v := 2147484655) u443 f55 (rg_T12_0_1_400 t3) (by first | decide | omega) (by first | decide | omega) (by decide)
          generalize e447 : x_up h48 (r1 + 12) u443 2147484655 = h445 at j446 f448 ⊢
          refine x_aload (np := 23) (x := 0) (by decide +kernel) rfl (x_nc_le (tn_11 t3)) ?_
          refine x_dup (np := 24) (x := 0) (by decide +kernel) (by have z := x_nc_le (k := (r1 + 11)) (tn_11 t3); unfold x_r; omega) ?_
          have q449 : h445 (r1 + 11) 2 = h48 (r1 + 11) 2 := by rw [← e447]; exact x_up_k tof_11_12
          have q450 : h48 (r1 + 11) 2 = h30 (r1 + 11) 2 := jK 0 f50 (rg_T11_2_0_1 t3) (by first | decide | omega) (by first | decide | omega) (by decide)
          have q451 : h30 (r1 + 11) 2 = h (r1 + 11) 2 := jK 0 f32 (rg_T11_2_0_1 t3) (by first | decide | omega) (by first | decide | omega) (by decide)
          refine x_getC (np := 27) (x := 130) (f := 2) (q := (h (r1 + 11) 2)) (by decide +kernel) (by decide) (tg_11_130_2_0 t3) ((q449.trans q450).trans q451) (fun l452 => ?_)
          refine x_const (np := 28) (x := 9223372043297226753) (a := 2147483649) (by decide +kernel) (by decide) (by decide) ?_
          refine x_iadd (np := 29) (x := 0) (v := (1 + (h (r1 + 11) 2))) (by decide +kernel) l436 (by decide) (by first | decide | omega) (by first | decide | omega) ?_
          refine x_putI (np := 32) (x := 130) (f := 2) (by decide +kernel) (tg_11_130_2_0 t3) (by first | decide | omega) (Or.inl (by decide)) ?_
          have j454 := jU (e := 2) (v := (1 + (h (r1 + 11) 2))) 0 j446 (rg_T11_2_0_1 t3) (by first | decide | omega) (by first | decide | omega) (by first | decide | omega)
          have f456 := jF (e := 2) (v := (1 + (h (r1 + 11) 2))) 0 f448 (rg_T11_2_0_1 t3) (by first | decide | omega) (by first | decide | omega) (by decide)
          generalize e455 : x_up h445 (r1 + 11) 2 (1 + (h (r1 + 11) 2)) = h453 at j454 f456 ⊢
          refine x_const (np := 33) (x := 9223372043297226753) (a := 2147483649) (by decide +kernel) (by decide) (by decide) ?_
          refine x_retI (np := 34) (x := 0) (by decide +kernel) (by decide) (Or.inr ⟨by decide +kernel, by first | decide | omega, by first | decide | omega⟩) ⟨_, rfl, (by decide), ?_⟩
          have q457 : h453 1 2 = h445 1 2 := by rw [← e455]; exact x_up_k (Ne.symm (tne_11_1 t3))
          have q458 : h445 1 2 = h48 1 2 := by rw [← e447]; exact x_up_k (Ne.symm (tne_12_1 t3))
          have q459 : h453 62 1 = h445 62 1 := by rw [← e455]; exact x_up_k (Ne.symm (tne_11_62 t3))
          have q460 : h445 62 1 = h48 62 1 := by rw [← e447]; exact x_up_k (Ne.symm (tne_12_62 t3))
          have q461 : h48 62 1 = h30 62 1 := f50 62 1 (by decide +kernel)
          have q462 : h30 62 1 = h 62 1 := f32 62 1 (by decide +kernel)
          have q463 : h453 (r1 + 11) 2 = (1 + (h (r1 + 11) 2)) := by rw [← e455]; exact x_up_at
          have e464 : cl9 h453 = (1 + (h (r1 + 11) 2)) := (congrArg (fun z => h453 z 2) ((((q459.trans q460).trans q461).trans q462).trans q2)).trans q463
          have q465 : h453 1 2 = h445 1 2 := by rw [← e455]; exact x_up_k (Ne.symm (tne_11_1 t3))
          have q466 : h445 1 2 = h48 1 2 := by rw [← e447]; exact x_up_k (Ne.symm (tne_12_1 t3))
          obtain ⟨w467, e468⟩ := Tk.no c36 (by first | decide | omega)
          obtain ⟨w469, e470⟩ := Tk.yes c54 (by first | decide | omega)
          have q471 : h453 1 2 = h445 1 2 := by rw [← e455]; exact x_up_k (Ne.symm (tne_11_1 t3))
          have q472 : h445 1 2 = h48 1 2 := by rw [← e447]; exact x_up_k (Ne.symm (tne_12_1 t3))
          refine x_retI (np := 163) (x := 0) (by decide +kernel) (by decide) (Or.inr ⟨by decide +kernel, by first | decide | omega, by first | decide | omega⟩) ⟨_, rfl, (by decide), ?_⟩
          exact ⟨j454, f456, (by first | decide | omega), (fun z => by first | decide | omega), (fun z => by first | decide | omega), (gA_mine w469 (show h30 1 2 = h 1 2 by first | decide | omega) e470 (by first | decide | omega) (show h48 1 2 = h453 1 2 by first | decide | omega)), (fun z => absurd z (by first | decide | omega))⟩
        have q438 : ¬ ((h (r1 + 11) 2) < 2147484048) := q438
        exfalso; omega
      have q41 : ¬ (v27 = 2147483648) := q41
      have b473 := c34 (by first | decide | omega)
      refine x_aload (np := 130) (x := 0) (by decide +kernel) rfl (x_nc_le (by decide)) ?_
      have q474 : h30 62 1 = h 62 1 := f32 62 1 (by decide +kernel)
      refine x_getR (np := 133) (x := 193) (f := 1) (q := (r1 + 11)) (by decide +kernel) (by decide) (by decide +kernel) (q474.trans q2) ?_
      refine x_const (np := 136) (x := 9223376359739360238) (a := 2147484654) (by decide +kernel) (by decide) (by decide) ?_
      refine x_nI (t := 6) (mj := 36) (n := 2) (rc := 3) (ml := 2) (nr := 0) (np := 139) (as := [x_r (r1 + 11), iv_c 2147484654]) (rest := []) (lo1 := [x_r (r1 + 11), iv_c 2147484654]) (by decide +kernel) (by decide) (by decide +kernel) (x_rb_of (tr_11_3 t3)) rfl rfl (x_wr (tn_11 t3) (x_wi (by decide) x_wn)) x_wn (by decide) rfl ?_
      refine x_aload (np := 1) (x := 0) (by decide +kernel) rfl (x_nc_le (tn_11 t3)) ?_
      have q475 : h30 (r1 + 11) 2 = h (r1 + 11) 2 := jK 0 f32 (rg_T11_2_0_1 t3) (by first | decide | omega) (by first | decide | omega) (by decide)
      refine x_getC (np := 4) (x := 130) (f := 2) (q := (h (r1 + 11) 2)) (by decide +kernel) (by decide) (tg_11_130_2_0 t3) q475 (fun l476 => ?_)
      refine x_const (np := 7) (x := 9223373756989178256) (a := 2147484048) (by decide +kernel) (by decide) (by decide) ?_
      refine x_icmp (k := 2) (tg := 12) (np := 10) (by decide +kernel) (by decide) l476 (by decide) (fun q477 => ?_) (fun q478 => ?_)
      · have q477 : (h (r1 + 11) 2) < 2147484048 := q477
        refine x_aload (np := 13) (x := 0) (by decide +kernel) rfl (x_nc_le (tn_11 t3)) ?_
        have q479 : h30 (r1 + 11) 0 = (r1 + 12) := tf_11_0 j31 t3
        refine x_getR (np := 16) (x := 128) (f := 0) (q := (r1 + 12)) (by decide +kernel) (by decide) (tg_11_128_0_1 t3) q479 ?_
        refine x_aload (np := 17) (x := 0) (by decide +kernel) rfl (x_nc_le (tn_11 t3)) ?_
        have q480 : h30 (r1 + 11) 2 = h (r1 + 11) 2 := jK 0 f32 (rg_T11_2_0_1 t3) (by first | decide | omega) (by first | decide | omega) (by decide)
        refine x_getC (np := 20) (x := 130) (f := 2) (q := (h (r1 + 11) 2)) (by decide +kernel) (by decide) (tg_11_130_2_0 t3) q480 (fun l481 => ?_)
        refine x_iload (np := 21) (x := 1) (by decide +kernel) rfl (by decide) ?_
        obtain ⟨u482, q483⟩ : ∃ z, (h (r1 + 11) 2) = 2147483648 + z := ⟨(h (r1 + 11) 2) - 2147483648, by first | decide | omega⟩
        refine x_ast (np := 22) (x := 0) (kd := 1) (n := 400) (i := u482) (by decide +kernel) (Or.inl rfl) (ta_12_400 t3) (by first | decide | omega) (by first | decide | omega) (by decide) (by decide) (fun z => absurd z (by decide)) ?_
        have j485 := jU (e := u482) (v := 2147484654) u482 j31 (rg_T12_0_1_400 t3) (by first | decide | omega) (by first | decide | omega) (by first | decide | omega)
        have f487 := jF (e := u482) (v := 2147484654) u482 f37 (rg_T12_0_1_400 t3) (by first | decide | omega) (by first | decide | omega) (by decide)
        generalize e486 : x_up h30 (r1 + 12) u482 2147484654 = h484 at j485 f487 ⊢
        refine x_aload (np := 23) (x := 0) (by decide +kernel) rfl (x_nc_le (tn_11 t3)) ?_
        refine x_dup (np := 24) (x := 0) (by decide +kernel) (by have z := x_nc_le (k := (r1 + 11)) (tn_11 t3); unfold x_r; omega) ?_
        have q488 : h484 (r1 + 11) 2 = h30 (r1 + 11) 2 := by rw [← e486]; exact x_up_k tof_11_12
        have q489 : h30 (r1 + 11) 2 = h (r1 + 11) 2 := jK 0 f32 (rg_T11_2_0_1 t3) (by first | decide | omega) (by first | decide | omega) (by decide)
        refine x_getC (np := 27) (x := 130) (f := 2) (q := (h (r1 + 11) 2)) (by decide +kernel) (by decide) (tg_11_130_2_0 t3) (q488.trans q489) (fun l490 => ?_)
        refine x_const (np := 28) (x := 9223372043297226753) (a := 2147483649) (by decide +kernel) (by decide) (by decide) ?_
        refine x_iadd (np := 29) (x := 0) (v := (1 + (h (r1 + 11) 2))) (by decide +kernel) l476 (by decide) (by first | decide | omega) (by first | decide | omega) ?_
        refine x_putI (np := 32) (x := 130) (f := 2) (by decide +kernel) (tg_11_130_2_0 t3) (by first | decide | omega) (Or.inl (by decide)) ?_
        have j492 := jU (e := 2) (v := (1 + (h (r1 + 11) 2))) 0 j485 (rg_T11_2_0_1 t3) (by first | decide | omega) (by first | decide | omega) (by first | decide | omega)
        have f494 := jF (e := 2) (v := (1 + (h (r1 + 11) 2))) 0 f487 (rg_T11_2_0_1 t3) (by first | decide | omega) (by first | decide | omega) (by decide)
        generalize e493 : x_up h484 (r1 + 11) 2 (1 + (h (r1 + 11) 2)) = h491 at j492 f494 ⊢
        refine x_const (np := 33) (x := 9223372043297226753) (a := 2147483649) (by decide +kernel) (by decide) (by decide) ?_
        refine x_retI (np := 34) (x := 0) (by decide +kernel) (by decide) (Or.inr ⟨by decide +kernel, by first | decide | omega, by first | decide | omega⟩) ⟨_, rfl, (by decide), ?_⟩
        have q495 : h491 1 2 = h484 1 2 := by rw [← e493]; exact x_up_k (Ne.symm (tne_11_1 t3))
        have q496 : h484 1 2 = h30 1 2 := by rw [← e486]; exact x_up_k (Ne.symm (tne_12_1 t3))
        have q497 : h491 62 1 = h484 62 1 := by rw [← e493]; exact x_up_k (Ne.symm (tne_11_62 t3))
        have q498 : h484 62 1 = h30 62 1 := by rw [← e486]; exact x_up_k (Ne.symm (tne_12_62 t3))
        have q499 : h30 62 1 = h 62 1 := f32 62 1 (by decide +kernel)
        have q500 : h491 (r1 + 11) 2 = (1 + (h (r1 + 11) 2)) := by rw [← e493]; exact x_up_at
        have e501 : cl9 h491 = (1 + (h (r1 + 11) 2)) := (congrArg (fun z => h491 z 2) (((q497.trans q498).trans q499).trans q2)).trans q500
        have q502 : h491 1 2 = h484 1 2 := by rw [← e493]; exact x_up_k (Ne.symm (tne_11_1 t3))
        have q503 : h484 1 2 = h30 1 2 := by rw [← e486]; exact x_up_k (Ne.symm (tne_12_1 t3))
        obtain ⟨w504, e505⟩ := Tk.yes c36 (by first | decide | omega)
        have q506 : h491 1 2 = h484 1 2 := by rw [← e493]; exact x_up_k (Ne.symm (tne_11_1 t3))
        have q507 : h484 1 2 = h30 1 2 := by rw [← e486]; exact x_up_k (Ne.symm (tne_12_1 t3))
        refine x_retI (np := 140) (x := 0) (by decide +kernel) (by decide) (Or.inr ⟨by decide +kernel, by first | decide | omega, by first | decide | omega⟩) ⟨_, rfl, (by decide), ?_⟩
        exact ⟨j492, f494, (by first | decide | omega), (fun z => by first | decide | omega), (fun z => by first | decide | omega), (gA_own w504 rfl e505 (by first | decide | omega) (show h30 1 2 = h491 1 2 by first | decide | omega)), (fun z => absurd z (by first | decide | omega))⟩
      have q478 : ¬ ((h (r1 + 11) 2) < 2147484048) := q478
      exfalso; omega
    have q25 : ¬ (v17 = 2147483648) := q25
    have b508 := c20 (by first | decide | omega)
    refine x_iload (np := 72) (x := 1) (by decide +kernel) rfl (by decide) ?_
    refine x_const (np := 74) (x := 9223372064772063238) (a := 2147483654) (by decide +kernel) (by decide) (by decide) ?_
    refine x_icmp (k := 3) (tg := 115) (np := 77) (by decide +kernel) (by decide) (by decide) (by decide) (fun q509 => ?_) (fun q510 => ?_)
    · have q509 : 2147483654 ≤ 2147483654 := q509
      refine x_const (np := 116) (x := 9223372039002259456) (a := 2147483648) (by decide +kernel) (by decide) (by decide) ?_
      refine x_retI (np := 117) (x := 0) (by decide +kernel) (by decide) (Or.inr ⟨by decide +kernel, by first | decide | omega, by first | decide | omega⟩) ⟨_, rfl, (by decide), ?_⟩
      exact ⟨hJ, hF, (by first | decide | omega), (fun z => by first | decide | omega), (fun z => by first | decide | omega), (gA_par6 (Is.yes c21 (by first | decide | omega)) rfl (by decide) (by first | decide | omega)), (fun _ => fA_par6 (Is.yes c21 (by first | decide | omega)) rfl (by decide) rfl)⟩
    have q510 : ¬ (2147483654 ≤ 2147483654) := q510
    exfalso; omega
  have q15 : ¬ (v8 = 2147483648) := q15
  have b511 := c11 (by first | decide | omega)
  refine x_iload (np := 13) (x := 1) (by decide +kernel) rfl (by decide) ?_
  refine x_const (np := 15) (x := 9223372064772063238) (a := 2147483654) (by decide +kernel) (by decide) (by decide) ?_
  refine x_icmp (k := 3) (tg := 57) (np := 18) (by decide +kernel) (by decide) (by decide) (by decide) (fun q512 => ?_) (fun q513 => ?_)
  · have q512 : 2147483654 ≤ 2147483654 := q512
    refine x_const (np := 58) (x := 9223372039002259456) (a := 2147483648) (by decide +kernel) (by decide) (by decide) ?_
    refine x_retI (np := 59) (x := 0) (by decide +kernel) (by decide) (Or.inr ⟨by decide +kernel, by first | decide | omega, by first | decide | omega⟩) ⟨_, rfl, (by decide), ?_⟩
    exact ⟨hJ, hF, (by first | decide | omega), (fun z => by first | decide | omega), (fun z => by first | decide | omega), (gA_not6 (Is.yes c12 (by first | decide | omega)) rfl (by decide) (by first | decide | omega)), (fun _ => fA_not6 (Is.yes c12 (by first | decide | omega)) rfl (by decide) rfl)⟩
  have q513 : ¬ (2147483654 ≤ 2147483654) := q513
  exfalso; omega
