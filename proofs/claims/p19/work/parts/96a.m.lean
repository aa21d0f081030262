/-! ===== tables of regions, methods ===== -/
theorem rg_77_0_0_1 : rgn 77 0 0 1 2147483648 2147483654 27 := by
  unfold rgn j_nt
  decide +kernel
set_option maxHeartbeats 0 in
/-- LentNamesModel.tell()I -/
theorem c195_75n {sc : Nat × Nat} {d  : Nat} {h : xh} (hJ : J h) (hW : WT 76 h) : X sc 195 (d + 9) (xI fun r h' => J h' ∧ Fr 326762497 h h' ∧ (0 ≤ r ∧ r ≤ 4294967295) ∧ (h' 75 6 = 2147483648) ∧ WT 76 h') 0 0 0 [x_r 75, 147573952589676412928, 147573952589676412928] [] h := by
  have hF := Fr.refl 326762497 h
  refine x_aload (np := 1) (x := 0) (by decide +kernel) rfl (x_nc_le (by decide)) ?_
  refine x_const (np := 2) (x := 9223372039002259456) (a := 2147483648) (by decide +kernel) (by decide) (by decide) ?_
  refine x_putI (np := 5) (x := 704) (f := 0) (by decide +kernel) (by decide +kernel) (by decide) (Or.inl (by decide)) ?_
  have j2 := jU (e := 0) (v := 2147483648) 0 hJ rg_75_0_0_1 (by omega) (by omega) (by omega)
  have f4 := jF (e := 0) (v := 2147483648) 0 hF rg_75_0_0_1 (by omega) (by omega) (by decide)
  generalize e3 : x_up h 75 0 2147483648 = h1 at j2 f4 ⊢
  refine x_const (np := 6) (x := 9223372039002259456) (a := 2147483648) (by decide +kernel) (by decide) (by decide) ?_
  refine x_istore (np := 7) (x := 1) (lo' := [x_r 75, iv_c 2147483648, 147573952589676412928]) (by decide +kernel) (by decide) (Nat.le_of_ble_eq_true rfl) rfl ?_
  have p366 : ∀ (n : Nat) (v361 : Nat) (h363 : xh), 4294967296 - v361 < n → (2147483648 ≤ v361 ∧ v361 ≤ 2147483938) → J h363 → Fr 268435456 h1 h363 → Clp (v361 - 2147483648) h363 → X sc 195 (d + 9) (xI fun r h' => J h' ∧ Fr 326762497 h h' ∧ (0 ≤ r ∧ r ≤ 4294967295) ∧ (h' 75 6 = 2147483648) ∧ WT 76 h') 0 0 7 [x_r 75, iv_c v361, 147573952589676412928] [] h363 := by
    intro n
    induction n with
    | zero => intro v361 h363 q368; exact absurd q368 (Nat.not_lt_zero _)
    | succ n i369 =>
      intro v361 h363 q368 b362 j365 f364 m367
      have f370 := Fr.trans f4 f364 (by decide)
      refine x_iload (np := 8) (x := 1) (by decide +kernel) rfl (by omega) ?_
      refine x_const (np := 11) (x := 9223373284542775586) (a := 2147483938) (by decide +kernel) (by decide) (by decide) ?_
      refine x_icmp (k := 3) (tg := 32) (np := 14) (by decide +kernel) (by decide) (by omega) (by decide) (fun q371 => ?_) (fun q372 => ?_)
      · have q371 : 2147483938 ≤ v361 := q371
        refine x_aload (np := 33) (x := 0) (by decide +kernel) rfl (x_nc_le (by decide)) ?_
        refine x_const (np := 34) (x := 9223372043297226753) (a := 2147483649) (by decide +kernel) (by decide) (by decide) ?_
        have m376 : Cl h363 := Clp.cl m367 (by omega)
        refine x_cI (t := 6) (mj := 194) (n := 2) (rc := 12) (ml := 3) (nr := 0) (np := 37) (as := [x_r 75, iv_c 2147483649]) (rest := []) (lo1 := [x_r 75, iv_c 2147483649, 147573952589676412928]) (by decide +kernel) (by decide) (by decide +kernel) (x_rb_of (by decide +kernel)) rfl rfl (x_wr (by decide) (x_wi (by decide) x_wn)) x_wn (by decide) rfl (c194_75_c1 j365   m376) (fun v373 h377 l374 q375 => ?_)
        obtain ⟨j378, f379, b380, c381, c382⟩ := q375
        have f383 := Fr.trans f370 f379 (by decide)
        have b384 := jB (e := 6) 0 j378 rg_75_6_0_1 (by omega) (by omega)
        refine x_istore (np := 38) (x := 1) (lo' := [x_r 75, iv_c v373, 147573952589676412928]) (by decide +kernel) l374 (Nat.le_of_ble_eq_true rfl) rfl ?_
        refine x_aload (np := 39) (x := 0) (by decide +kernel) rfl (x_nc_le (by decide)) ?_
        refine x_iload (np := 40) (x := 1) (by decide +kernel) rfl l374 ?_
        refine x_ifz (k := 3) (tg := 50) (np := 43) (by decide +kernel) (by decide) l374 (fun q385 => ?_) (fun q386 => ?_)
        · have q385 : 2147483648 ≤ v373 := q385
          have m387 := c382 (by omega)
          refine x_const (np := 51) (x := 9223372034707292159) (a := 2147483647) (by decide +kernel) (by decide) (by decide) ?_
          refine x_putI (np := 54) (x := 715) (f := 11) (by decide +kernel) (by decide +kernel) (by decide) (Or.inl (by decide)) ?_
          have j389 := jU (e := 11) (v := 2147483647) 0 j378 rg_75_11_0_1 (by omega) (by omega) (by omega)
          have f391 := jF (e := 11) (v := 2147483647) 0 f383 rg_75_11_0_1 (by omega) (by omega) (by decide)
          generalize e390 : x_up h377 75 11 2147483647 = h388 at j389 f391 ⊢
          refine x_aload (np := 55) (x := 0) (by decide +kernel) rfl (x_nc_le (by decide)) ?_
          refine x_iload (np := 56) (x := 1) (by decide +kernel) rfl l374 ?_
          refine x_ifz (k := 3) (tg := 63) (np := 59) (by decide +kernel) (by decide) l374 (fun q392 => ?_) (fun q393 => ?_)
          · have q392 : 2147483648 ≤ v373 := q392
            refine x_const (np := 64) (x := 9223372039002259456) (a := 2147483648) (by decide +kernel) (by decide) (by decide) ?_
            refine x_const (np := 65) (x := 9223372043297226753) (a := 2147483649) (by decide +kernel) (by decide) (by decide) ?_
            refine x_nI (t := 6) (mj := 152) (n := 3) (rc := 12) (ml := 3) (nr := 0) (np := 68) (as := [x_r 75, iv_c 2147483648, iv_c 2147483649]) (rest := []) (lo1 := [x_r 75, iv_c 2147483648, iv_c 2147483649]) (by decide +kernel) (by decide) (by decide +kernel) (x_rb_of (by decide +kernel)) rfl rfl (x_wr (by decide) (x_wi (by decide) (x_wi (by decide) x_wn))) x_wn (by decide) rfl ?_
            refine x_iload (np := 1) (x := 1) (by decide +kernel) rfl (by decide) ?_
            refine x_ifz (k := 0) (tg := 9) (np := 4) (by decide +kernel) (by decide) (by decide) (fun q394 => ?_) (fun q395 => ?_)
            · have q394 : 2147483648 = 2147483648 := q394
              refine x_iload (np := 10) (x := 1) (by decide +kernel) rfl (by decide) ?_
              refine x_retI (np := 11) (x := 0) (by decide +kernel) (by decide) (Or.inr ⟨by decide +kernel, by omega, by omega⟩) ⟨_, rfl, (by decide), ?_⟩
              refine x_ifz (k := 1) (tg := 95) (np := 71) (by decide +kernel) (by decide) (by decide) (fun q396 => ?_) (fun q397 => ?_)
              · have q396 : 2147483648 ≠ 2147483648 := q396
                exfalso; omega
              have q397 : ¬ (2147483648 ≠ 2147483648) := q397
              refine x_aload (np := 72) (x := 0) (by decide +kernel) rfl (x_nc_le (by decide)) ?_
              refine x_aload (np := 73) (x := 0) (by decide +kernel) rfl (x_nc_le (by decide)) ?_
              have q398 : h388 75 1 = 76 := by have z := jB (e := 1) 0 j389 rg_75_1_0_1 (by decide) (by decide); omega
              refine x_getR (np := 76) (x := 705) (f := 1) (q := 76) (by decide +kernel) (by decide) (by decide +kernel) q398 ?_
              refine x_const (np := 77) (x := 9223372043297226753) (a := 2147483649) (by decide +kernel) (by decide) (by decide) ?_
              have q399 : h388 76 1 = h377 76 1 := by rw [← e390]; exact x_up_k (by decide)
              have q400 : h377 76 1 = h363 76 1 := jK 0 f379 rg_76_1_0_1 (by omega) (by omega) (by decide)
              have q401 : h363 76 1 = h1 76 1 := jK 0 f364 rg_76_1_0_1 (by omega) (by omega) (by decide)
              have q402 : h1 76 1 = h 76 1 := by rw [← e3]; exact x_up_k (by decide)
              refine x_aldC (np := 78) (x := 0) (n := 1952) (i := 1) (q := (h 76 1)) (by decide +kernel) (by decide +kernel) (by omega) (by omega) (by decide) (((q399.trans q400).trans q401).trans q402) (fun l403 => ?_)
              refine x_const (np := 80) (x := 9223372081951932426) (a := 2147483658) (by decide +kernel) (by decide) (by decide) ?_
              refine x_icmp (k := 1) (tg := 87) (np := 83) (by decide +kernel) (by decide) l403 (by decide) (fun q404 => ?_) (fun q405 => ?_)
              · have q404 : (h 76 1) ≠ 2147483658 := q404
                refine x_const (np := 88) (x := 9223372039002259456) (a := 2147483648) (by decide +kernel) (by decide) (by decide) ?_
                refine x_const (np := 89) (x := 9223372047592194050) (a := 2147483650) (by decide +kernel) (by decide) (by decide) ?_
                refine x_nI (t := 6) (mj := 152) (n := 3) (rc := 12) (ml := 3) (nr := 0) (np := 92) (as := [x_r 75, iv_c 2147483648, iv_c 2147483650]) (rest := []) (lo1 := [x_r 75, iv_c 2147483648, iv_c 2147483650]) (by decide +kernel) (by decide) (by decide +kernel) (x_rb_of (by decide +kernel)) rfl rfl (x_wr (by decide) (x_wi (by decide) (x_wi (by decide) x_wn))) x_wn (by decide) rfl ?_
                refine x_iload (np := 1) (x := 1) (by decide +kernel) rfl (by decide) ?_
                refine x_ifz (k := 0) (tg := 9) (np := 4) (by decide +kernel) (by decide) (by decide) (fun q406 => ?_) (fun q407 => ?_)
                · have q406 : 2147483648 = 2147483648 := q406
                  refine x_iload (np := 10) (x := 1) (by decide +kernel) rfl (by decide) ?_
                  refine x_retI (np := 11) (x := 0) (by decide +kernel) (by decide) (Or.inr ⟨by decide +kernel, by omega, by omega⟩) ⟨_, rfl, (by decide), ?_⟩
                  refine x_ifz (k := 0) (tg := 97) (np := 95) (by decide +kernel) (by decide) (by decide) (fun q408 => ?_) (fun q409 => ?_)
                  · have q408 : 2147483648 = 2147483648 := q408
                    refine x_const (np := 98) (x := 9223372039002259456) (a := 2147483648) (by decide +kernel) (by decide) (by decide) ?_
                    refine x_istore (np := 99) (x := 2) (lo' := [x_r 75, iv_c v373, iv_c 2147483648]) (by decide +kernel) (by decide) (Nat.le_of_ble_eq_true rfl) rfl ?_
                    have p811 : ∀ (n : Nat) (v806 : Nat) (h808 : xh), 4294967296 - v806 < n → (2147483648 ≤ v806 ∧ v806 ≤ 2147483938) → J h808 → Fr 33554432 h388 h808 → WT 76 h808 → X sc 195 (d + 9) (xI fun r h' => J h' ∧ Fr 326762497 h h' ∧ (0 ≤ r ∧ r ≤ 4294967295) ∧ (h' 75 6 = 2147483648) ∧ WT 76 h') 0 0 99 [x_r 75, iv_c v373, iv_c v806] [] h808 := by
                      intro n
                      induction n with
                      | zero => intro v806 h808 q813; exact absurd q813 (Nat.not_lt_zero _)
                      | succ n i814 =>
                        intro v806 h808 q813 b807 j810 f809 m812
                        have f815 := Fr.trans f391 f809 (by decide)
                        refine x_iload (np := 100) (x := 2) (by decide +kernel) rfl (by omega) ?_
                        refine x_const (np := 103) (x := 9223373284542775586) (a := 2147483938) (by decide +kernel) (by decide) (by decide) ?_
                        refine x_icmp (k := 3) (tg := 124) (np := 106) (by decide +kernel) (by decide) (by omega) (by decide) (fun q816 => ?_) (fun q817 => ?_)
                        · have q816 : 2147483938 ≤ v806 := q816
                          refine x_aload (np := 125) (x := 0) (by decide +kernel) rfl (x_nc_le (by decide)) ?_
                          have q818 : h808 75 1 = 76 := by have z := jB (e := 1) 0 j810 rg_75_1_0_1 (by decide) (by decide); omega
                          refine x_getR (np := 128) (x := 705) (f := 1) (q := 76) (by decide +kernel) (by decide) (by decide +kernel) q818 ?_
                          refine x_const (np := 129) (x := 9223372043297226753) (a := 2147483649) (by decide +kernel) (by decide) (by decide) ?_
                          refine x_dup2 (np := 130) (x := 0) (by decide +kernel) (by have z := (iw_c_lt (a := 2147483649) (by decide)).1; omega) (by have z := x_nc_le (k := 76) (by decide); unfold x_r; omega) ?_
                          refine x_aldC (np := 131) (x := 0) (n := 1952) (i := 1) (q := (h808 76 1)) (by decide +kernel) (by decide +kernel) (by omega) (by omega) (by decide) rfl (fun l819 => ?_)
                          refine x_const (np := 132) (x := 9223372043297226753) (a := 2147483649) (by decide +kernel) (by decide) (by decide) ?_
                          refine x_addA (by rw [tb_b195]; decide +kernel) l819 (by decide) (fun v820 l821 => ?_)
                          refine x_ast (np := 134) (x := 0) (kd := 1) (n := 1952) (i := 1) (by decide +kernel) (Or.inl rfl) (by decide +kernel) (by omega) (by omega) (by decide) l821 (fun z => absurd z (by decide)) ?_
                          have j823 := jU (e := 1) (v := v820) 0 j810 rg_76_1_0_1 (by omega) (by omega) (by omega)
                          have f825 := jF (e := 1) (v := v820) 0 f815 rg_76_1_0_1 (by omega) (by omega) (by decide)
                          generalize e824 : x_up h808 76 1 v820 = h822 at j823 f825 ⊢
                          refine x_aload (np := 135) (x := 0) (by decide +kernel) rfl (x_nc_le (by decide)) ?_
                          have q826 : h822 75 1 = 76 := by have z := jB (e := 1) 0 j823 rg_75_1_0_1 (by decide) (by decide); omega
                          refine x_getR (np := 138) (x := 705) (f := 1) (q := 76) (by decide +kernel) (by decide) (by decide +kernel) q826 ?_
                          refine x_const (np := 139) (x := 9223372043297226753) (a := 2147483649) (by decide +kernel) (by decide) (by decide) ?_
                          have q827 : h822 76 1 = v820 := by rw [← e824]; exact x_up_at
                          refine x_aldC (np := 140) (x := 0) (n := 1952) (i := 1) (q := v820) (by decide +kernel) (by decide +kernel) (by omega) (by omega) (by decide) q827 (fun l828 => ?_)
                          have q829 : h822 75 6 = h808 75 6 := by rw [← e824]; exact x_up_k (by decide)
                          have q830 : h808 75 6 = h388 75 6 := jK 0 f809 rg_75_6_0_1 (by omega) (by omega) (by decide)
                          have q831 : h388 75 6 = h377 75 6 := by rw [← e390]; exact x_up_i (by omega)
                          have m832 : WT 76 h822 := by rw [← e824]; exact WT.up m812 j810 (by omega)
                          refine x_retI (np := 141) (x := 0) (by decide +kernel) l821 (Or.inl (by decide +kernel)) ⟨_, rfl, l821, ?_⟩
                          exact ⟨j823, f825, (by omega), (by omega), m832⟩
                        have q817 : ¬ (2147483938 ≤ v806) := q817
                        refine x_aload (np := 107) (x := 0) (by decide +kernel) rfl (x_nc_le (by decide)) ?_
                        have q833 : h808 75 1 = 76 := by have z := jB (e := 1) 0 j810 rg_75_1_0_1 (by decide) (by decide); omega
                        refine x_getR (np := 110) (x := 705) (f := 1) (q := 76) (by decide +kernel) (by decide) (by decide +kernel) q833 ?_
                        refine x_iload (np := 111) (x := 2) (by decide +kernel) rfl (by omega) ?_
                        refine x_aload (np := 112) (x := 0) (by decide +kernel) rfl (x_nc_le (by decide)) ?_
                        have q834 : h808 75 3 = 78 := by have z := jB (e := 3) 0 j810 rg_75_3_0_1 (by decide) (by decide); omega
                        refine x_getR (np := 115) (x := 707) (f := 3) (q := 78) (by decide +kernel) (by decide) (by decide +kernel) q834 ?_
                        refine x_iload (np := 116) (x := 2) (by decide +kernel) rfl (by omega) ?_
                        obtain ⟨u835, q836⟩ : ∃ z, v806 = 2147483648 + z := ⟨v806 - 2147483648, by omega⟩
                        refine x_aldC (np := 117) (x := 0) (n := 290) (i := u835) (q := (h808 78 u835)) (by decide +kernel) (by decide +kernel) (by omega) (by omega) (by decide) rfl (fun l837 => ?_)
                        refine x_ast (np := 118) (x := 0) (kd := 1) (n := 1952) (i := u835) (by decide +kernel) (Or.inl rfl) (by decide +kernel) (by omega) (by omega) (by decide) l837 (fun z => absurd z (by decide)) ?_
                        have m842 : Cl h388 := by rw [← e390]; exact Cl.oth m387 (by decide)
                        have m841 := Cl.fr m842 f809 (by decide)
                        have j839 := clJ (e := u835) (v := (h808 78 u835)) j810 m841 (by omega) rfl
                        have f843 := clF (e := u835) (v := (h808 78 u835)) f815 (by omega) (by decide)
                        have f844 := clF (e := u835) (v := (h808 78 u835)) f809 (by omega) (by decide)
                        generalize e840 : x_up h808 76 u835 (h808 78 u835) = h838 at j839 f843 f844 ⊢
                        refine x_iinc (np := 121) (i := 2) (j := 2147483649) (v := (1 + v806)) (lo' := [x_r 75, iv_c v373, iv_c (1 + v806)]) (by decide +kernel) (by decide) (by decide) rfl (by omega) (by omega) (by omega) rfl ?_
                        refine x_goto (np := 124) (x := 99) (by decide +kernel) ?_
                        have m845 : WT 76 h838 := by rw [← e840]; exact WT.up m812 j810 (by omega)
                        exact i814 (1 + v806) h838 (by omega) (by omega) j839 f844 m845
                    have m849 : WT 76 h1 := by rw [← e3]; exact WT.oth hW hJ (by decide)
                    have m848 := WT.fr m849 j2 f364 (by decide)
                    have m847 := WT.fr m848 j365 f379 (by decide)
                    have m846 : WT 76 h388 := by rw [← e390]; exact WT.oth m847 j378 (by decide)
                    exact p811 _ 2147483648 h388 (Nat.lt_succ_self _) (by omega) j389 (Fr.refl _ _) m846
                  have q409 : ¬ (2147483648 = 2147483648) := q409
                  exfalso; omega
                have q407 : ¬ (2147483648 = 2147483648) := q407
                exfalso; omega
              have q405 : ¬ ((h 76 1) ≠ 2147483658) := q405
              refine x_const (np := 84) (x := 9223372043297226753) (a := 2147483649) (by decide +kernel) (by decide) (by decide) ?_
              refine x_goto (np := 87) (x := 88) (by decide +kernel) ?_
              refine x_const (np := 89) (x := 9223372047592194050) (a := 2147483650) (by decide +kernel) (by decide) (by decide) ?_
              refine x_nI (t := 6) (mj := 152) (n := 3) (rc := 12) (ml := 3) (nr := 0) (np := 92) (as := [x_r 75, iv_c 2147483649, iv_c 2147483650]) (rest := []) (lo1 := [x_r 75, iv_c 2147483649, iv_c 2147483650]) (by decide +kernel) (by decide) (by decide +kernel) (x_rb_of (by decide +kernel)) rfl rfl (x_wr (by decide) (x_wi (by decide) (x_wi (by decide) x_wn))) x_wn (by decide) rfl ?_
              refine x_iload (np := 1) (x := 1) (by decide +kernel) rfl (by decide) ?_
              refine x_ifz (k := 0) (tg := 9) (np := 4) (by decide +kernel) (by decide) (by decide) (fun q850 => ?_) (fun q851 => ?_)
              · have q850 : 2147483649 = 2147483648 := q850
                exfalso; omega
              have q851 : ¬ (2147483649 = 2147483648) := q851
              refine x_aload (np := 5) (x := 0) (by decide +kernel) rfl (x_nc_le (by decide)) ?_
              refine x_iload (np := 6) (x := 2) (by decide +kernel) rfl (by decide) ?_
              refine x_putI (np := 9) (x := 704) (f := 0) (by decide +kernel) (by decide +kernel) (by decide) (Or.inl (by decide)) ?_
              have j853 := jU (e := 0) (v := 2147483650) 0 j389 rg_75_0_0_1 (by omega) (by omega) (by omega)
              have f855 := jF (e := 0) (v := 2147483650) 0 f391 rg_75_0_0_1 (by omega) (by omega) (by decide)
              generalize e854 : x_up h388 75 0 2147483650 = h852 at j853 f855 ⊢
              refine x_iload (np := 10) (x := 1) (by decide +kernel) rfl (by decide) ?_
              refine x_retI (np := 11) (x := 0) (by decide +kernel) (by decide) (Or.inr ⟨by decide +kernel, by omega, by omega⟩) ⟨_, rfl, (by decide), ?_⟩
              refine x_ifz (k := 0) (tg := 97) (np := 95) (by decide +kernel) (by decide) (by decide) (fun q856 => ?_) (fun q857 => ?_)
              · have q856 : 2147483649 = 2147483648 := q856
                exfalso; omega
              have q857 : ¬ (2147483649 = 2147483648) := q857
              refine x_const (np := 96) (x := 9223372039002259456) (a := 2147483648) (by decide +kernel) (by decide) (by decide) ?_
              have q858 : h852 75 6 = h388 75 6 := by rw [← e854]; exact x_up_i (by omega)
              have q859 : h388 75 6 = h377 75 6 := by rw [← e390]; exact x_up_i (by omega)
              have m864 : WT 76 h1 := by rw [← e3]; exact WT.oth hW hJ (by decide)
              have m863 := WT.fr m864 j2 f364 (by decide)
              have m862 := WT.fr m863 j365 f379 (by decide)
              have m861 : WT 76 h388 := by rw [← e390]; exact WT.oth m862 j378 (by decide)
              have m860 : WT 76 h852 := by rw [← e854]; exact WT.oth m861 j389 (by decide)
              refine x_retI (np := 97) (x := 0) (by decide +kernel) (by decide) (Or.inl (by decide +kernel)) ⟨_, rfl, (by decide), ?_⟩
              exact ⟨j853, f855, (by omega), (by omega), m860⟩
            have q395 : ¬ (2147483648 = 2147483648) := q395
            exfalso; omega
          have q393 : ¬ (2147483648 ≤ v373) := q393
          exfalso; omega
        have q386 : ¬ (2147483648 ≤ v373) := q386
        refine x_aload (np := 44) (x := 0) (by decide +kernel) rfl (x_nc_le (by decide)) ?_
        have b865 := jB (e := 9) 0 j378 rg_75_9_0_1 (by omega) (by omega)
        refine x_getC (np := 47) (x := 713) (f := 9) (q := (h377 75 9)) (by decide +kernel) (by decide) (by decide +kernel) rfl (fun l866 => ?_)
        refine x_goto (np := 50) (x := 51) (by decide +kernel) ?_
        refine x_putI (np := 54) (x := 715) (f := 11) (by decide +kernel) (by decide +kernel) l866 (Or.inl (by decide)) ?_
        have j868 := jU (e := 11) (v := (h377 75 9)) 0 j378 rg_75_11_0_1 (by omega) (by omega) (by omega)
        have f870 := jF (e := 11) (v := (h377 75 9)) 0 f383 rg_75_11_0_1 (by omega) (by omega) (by decide)
        generalize e869 : x_up h377 75 11 (h377 75 9) = h867 at j868 f870 ⊢
        refine x_aload (np := 55) (x := 0) (by decide +kernel) rfl (x_nc_le (by decide)) ?_
        refine x_iload (np := 56) (x := 1) (by decide +kernel) rfl l374 ?_
        refine x_ifz (k := 3) (tg := 63) (np := 59) (by decide +kernel) (by decide) l374 (fun q871 => ?_) (fun q872 => ?_)
        · have q871 : 2147483648 ≤ v373 := q871
          exfalso; omega
        have q872 : ¬ (2147483648 ≤ v373) := q872
        refine x_const (np := 60) (x := 9223372043297226753) (a := 2147483649) (by decide +kernel) (by decide) (by decide) ?_
        refine x_goto (np := 63) (x := 64) (by decide +kernel) ?_
        refine x_const (np := 65) (x := 9223372043297226753) (a := 2147483649) (by decide +kernel) (by decide) (by decide) ?_
        refine x_nI (t := 6) (mj := 152) (n := 3) (rc := 12) (ml := 3) (nr := 0) (np := 68) (as := [x_r 75, iv_c 2147483649, iv_c 2147483649]) (rest := []) (lo1 := [x_r 75, iv_c 2147483649, iv_c 2147483649]) (by decide +kernel) (by decide) (by decide +kernel) (x_rb_of (by decide +kernel)) rfl rfl (x_wr (by decide) (x_wi (by decide) (x_wi (by decide) x_wn))) x_wn (by decide) rfl ?_
        refine x_iload (np := 1) (x := 1) (by decide +kernel) rfl (by decide) ?_
        refine x_ifz (k := 0) (tg := 9) (np := 4) (by decide +kernel) (by decide) (by decide) (fun q873 => ?_) (fun q874 => ?_)
        · have q873 : 2147483649 = 2147483648 := q873
          exfalso; omega
        have q874 : ¬ (2147483649 = 2147483648) := q874
        refine x_aload (np := 5) (x := 0) (by decide +kernel) rfl (x_nc_le (by decide)) ?_
        refine x_iload (np := 6) (x := 2) (by decide +kernel) rfl (by decide) ?_
        refine x_putI (np := 9) (x := 704) (f := 0) (by decide +kernel) (by decide +kernel) (by decide) (Or.inl (by decide)) ?_
        have j876 := jU (e := 0) (v := 2147483649) 0 j868 rg_75_0_0_1 (by omega) (by omega) (by omega)
        have f878 := jF (e := 0) (v := 2147483649) 0 f870 rg_75_0_0_1 (by omega) (by omega) (by decide)
        generalize e877 : x_up h867 75 0 2147483649 = h875 at j876 f878 ⊢
        refine x_iload (np := 10) (x := 1) (by decide +kernel) rfl (by decide) ?_
        refine x_retI (np := 11) (x := 0) (by decide +kernel) (by decide) (Or.inr ⟨by decide +kernel, by omega, by omega⟩) ⟨_, rfl, (by decide), ?_⟩
        refine x_ifz (k := 1) (tg := 95) (np := 71) (by decide +kernel) (by decide) (by decide) (fun q879 => ?_) (fun q880 => ?_)
        · have q879 : 2147483649 ≠ 2147483648 := q879
          refine x_const (np := 96) (x := 9223372039002259456) (a := 2147483648) (by decide +kernel) (by decide) (by decide) ?_
          have q881 : h875 75 6 = h867 75 6 := by rw [← e877]; exact x_up_i (by omega)
          have q882 : h867 75 6 = h377 75 6 := by rw [← e869]; exact x_up_i (by omega)
          have m887 : WT 76 h1 := by rw [← e3]; exact WT.oth hW hJ (by decide)
          have m886 := WT.fr m887 j2 f364 (by decide)
          have m885 := WT.fr m886 j365 f379 (by decide)
          have m884 : WT 76 h867 := by rw [← e869]; exact WT.oth m885 j378 (by decide)
          have m883 : WT 76 h875 := by rw [← e877]; exact WT.oth m884 j868 (by decide)
          refine x_retI (np := 97) (x := 0) (by decide +kernel) (by decide) (Or.inl (by decide +kernel)) ⟨_, rfl, (by decide), ?_⟩
          exact ⟨j876, f878, (by omega), (by omega), m883⟩
        have q880 : ¬ (2147483649 ≠ 2147483648) := q880
        exfalso; omega
      have q372 : ¬ (2147483938 ≤ v361) := q372
      refine x_aload (np := 15) (x := 0) (by decide +kernel) rfl (x_nc_le (by decide)) ?_
      have q888 : h363 75 3 = 78 := by have z := jB (e := 3) 0 j365 rg_75_3_0_1 (by decide) (by decide); omega
      refine x_getR (np := 18) (x := 707) (f := 3) (q := 78) (by decide +kernel) (by decide) (by decide +kernel) q888 ?_
      refine x_iload (np := 19) (x := 1) (by decide +kernel) rfl (by omega) ?_
      refine x_aload (np := 20) (x := 0) (by decide +kernel) rfl (x_nc_le (by decide)) ?_
      have q889 : h363 75 1 = 76 := by have z := jB (e := 1) 0 j365 rg_75_1_0_1 (by decide) (by decide); omega
      refine x_getR (np := 23) (x := 705) (f := 1) (q := 76) (by decide +kernel) (by decide) (by decide +kernel) q889 ?_
      refine x_iload (np := 24) (x := 1) (by decide +kernel) rfl (by omega) ?_
      obtain ⟨u890, q891⟩ : ∃ z, v361 = 2147483648 + z := ⟨v361 - 2147483648, by omega⟩
      refine x_aldC (np := 25) (x := 0) (n := 1952) (i := u890) (q := (h363 76 u890)) (by decide +kernel) (by decide +kernel) (by omega) (by omega) (by decide) rfl (fun l892 => ?_)
      refine x_ast (np := 26) (x := 0) (kd := 1) (n := 290) (i := u890) (by decide +kernel) (Or.inl rfl) (by decide +kernel) (by omega) (by omega) (by decide) l892 (fun z => absurd z (by decide)) ?_
      have j894 := cwJ (e := u890) (v := (h363 76 u890)) u890 j365 j365 cw_78_0_76_0_290 (by omega) (by omega) (by first | rfl | (congr 1; omega))
      have f896 := cwF (e := u890) (v := (h363 76 u890)) u890 f370 cw_78_0_76_0_290 (by omega) (by omega) (by decide)
      have f897 := cwF (e := u890) (v := (h363 76 u890)) u890 f364 cw_78_0_76_0_290 (by omega) (by omega) (by decide)
      generalize e895 : x_up h363 78 u890 (h363 76 u890) = h893 at j894 f896 f897 ⊢
      refine x_iinc (np := 29) (i := 1) (j := 2147483649) (v := (1 + v361)) (lo' := [x_r 75, iv_c (1 + v361), 147573952589676412928]) (by decide +kernel) (by decide) (by decide) rfl (by omega) (by omega) (by omega) rfl ?_
      refine x_goto (np := 32) (x := 7) (by decide +kernel) ?_
      have m898 : Clp ((1 + v361) - 2147483648) h893 := by
        have e0 : v361 - 2147483648 = u890 := by omega
        have e9 : (1 + v361) = 2147483648 + (u890 + 1) := by omega
        have e1 : (1 + v361) - 2147483648 = u890 + 1 := by rw [e9]; exact Nat.add_sub_cancel_left _ _
        have p9 := m367
        rw [e0] at p9
        rw [e1, ← e895]
        exact Clp.step p9 j365 (by omega)
      exact i369 (1 + v361) h893 (by omega) (by omega) j894 f897 m898
  exact p366 _ 2147483648 h1 (Nat.lt_succ_self _) (by omega) j2 (Fr.refl _ _) Clp.zero
set_option maxHeartbeats 0 in
/-- LentNamesModel.people(I)V -/
theorem c197_75n {sc : Nat × Nat} {d a1 : Nat} {h : xh} (hJ : J h) (ba1 : 0 ≤ a1 ∧ a1 ≤ 4294967295) (hW : WT 76 h) : X sc 197 (d + 1) (xV fun h' => J h' ∧ Fr 33685505 h h' ∧ WT 76 h') 0 0 0 [x_r 75, iv_c a1] [] h := by
  have la1 : a1 < 4294967296 := by omega
  have hF := Fr.refl 33685505 h
  refine x_aload (np := 1) (x := 0) (by decide +kernel) rfl (x_nc_le (by decide)) ?_
  refine x_const (np := 2) (x := 9223372039002259456) (a := 2147483648) (by decide +kernel) (by decide) (by decide) ?_
  refine x_putI (np := 5) (x := 704) (f := 0) (by decide +kernel) (by decide +kernel) (by decide) (Or.inl (by decide)) ?_
  have j2 := jU (e := 0) (v := 2147483648) 0 hJ rg_75_0_0_1 (by omega) (by omega) (by omega)
  have f4 := jF (e := 0) (v := 2147483648) 0 hF rg_75_0_0_1 (by omega) (by omega) (by decide)
  generalize e3 : x_up h 75 0 2147483648 = h1 at j2 f4 ⊢
  refine x_aload (np := 6) (x := 0) (by decide +kernel) rfl (x_nc_le (by decide)) ?_
  refine x_iload (np := 7) (x := 1) (by decide +kernel) rfl la1 ?_
  refine x_const (np := 8) (x := 9223372047592194050) (a := 2147483650) (by decide +kernel) (by decide) (by decide) ?_
  refine x_const (np := 10) (x := 9223372064772063238) (a := 2147483654) (by decide +kernel) (by decide) (by decide) ?_
  refine x_nI (t := 0) (mj := 153) (n := 3) (rc := 0) (ml := 3) (nr := 1) (np := 13) (as := [iv_c a1, iv_c 2147483650, iv_c 2147483654]) (rest := [x_r 75]) (lo1 := [iv_c a1, iv_c 2147483650, iv_c 2147483654]) (by decide +kernel) (by decide) (by decide +kernel) (Or.inl rfl) rfl rfl (x_wi la1 (x_wi (by decide) (x_wi (by decide) x_wn))) (x_wr (by decide) x_wn) (by decide) rfl ?_
  refine x_iload (np := 1) (x := 0) (by decide +kernel) rfl la1 ?_
  refine x_iload (np := 2) (x := 1) (by decide +kernel) rfl (by decide) ?_
  refine x_icmp (k := 2) (tg := 14) (np := 5) (by decide +kernel) (by decide) la1 (by decide) (fun q5 => ?_) (fun q6 => ?_)
  · have q5 : a1 < 2147483650 := q5
    refine x_const (np := 15) (x := 9223372039002259456) (a := 2147483648) (by decide +kernel) (by decide) (by decide) ?_
    refine x_retI (np := 16) (x := 0) (by decide +kernel) (by decide) (Or.inr ⟨by decide +kernel, by omega, by omega⟩) ⟨_, rfl, (by decide), ?_⟩
    refine x_ifz (k := 1) (tg := 20) (np := 16) (by decide +kernel) (by decide) (by decide) (fun q7 => ?_) (fun q8 => ?_)
    · have q7 : 2147483648 ≠ 2147483648 := q7
      exfalso; omega
    have q8 : ¬ (2147483648 ≠ 2147483648) := q8
    refine x_const (np := 17) (x := 9223372043297226753) (a := 2147483649) (by decide +kernel) (by decide) (by decide) ?_
    refine x_goto (np := 20) (x := 21) (by decide +kernel) ?_
    refine x_const (np := 22) (x := 9223372043297226753) (a := 2147483649) (by decide +kernel) (by decide) (by decide) ?_
    refine x_nI (t := 6) (mj := 152) (n := 3) (rc := 12) (ml := 3) (nr := 0) (np := 25) (as := [x_r 75, iv_c 2147483649, iv_c 2147483649]) (rest := []) (lo1 := [x_r 75, iv_c 2147483649, iv_c 2147483649]) (by decide +kernel) (by decide) (by decide +kernel) (x_rb_of (by decide +kernel)) rfl rfl (x_wr (by decide) (x_wi (by decide) (x_wi (by decide) x_wn))) x_wn (by decide) rfl ?_
    refine x_iload (np := 1) (x := 1) (by decide +kernel) rfl (by decide) ?_
    refine x_ifz (k := 0) (tg := 9) (np := 4) (by decide +kernel) (by decide) (by decide) (fun q9 => ?_) (fun q10 => ?_)
    · have q9 : 2147483649 = 2147483648 := q9
      exfalso; omega
    have q10 : ¬ (2147483649 = 2147483648) := q10
    refine x_aload (np := 5) (x := 0) (by decide +kernel) rfl (x_nc_le (by decide)) ?_
    refine x_iload (np := 6) (x := 2) (by decide +kernel) rfl (by decide) ?_
    refine x_putI (np := 9) (x := 704) (f := 0) (by decide +kernel) (by decide +kernel) (by decide) (Or.inl (by decide)) ?_
    have j12 := jU (e := 0) (v := 2147483649) 0 j2 rg_75_0_0_1 (by omega) (by omega) (by omega)
    have f14 := jF (e := 0) (v := 2147483649) 0 f4 rg_75_0_0_1 (by omega) (by omega) (by decide)
    generalize e13 : x_up h1 75 0 2147483649 = h11 at j12 f14 ⊢
    refine x_iload (np := 10) (x := 1) (by decide +kernel) rfl (by decide) ?_
    refine x_retI (np := 11) (x := 0) (by decide +kernel) (by decide) (Or.inr ⟨by decide +kernel, by omega, by omega⟩) ⟨_, rfl, (by decide), ?_⟩
    refine x_ifz (k := 1) (tg := 50) (np := 28) (by decide +kernel) (by decide) (by decide) (fun q15 => ?_) (fun q16 => ?_)
    · have q15 : 2147483649 ≠ 2147483648 := q15
      have m18 : WT 76 h1 := by rw [← e3]; exact WT.oth hW hJ (by decide)
      have m17 : WT 76 h11 := by rw [← e13]; exact WT.oth m18 j2 (by decide)
      refine x_retV (np := 51) (x := 0) (by decide +kernel) (by decide +kernel) ⟨rfl, ?_⟩
      exact ⟨j12, f14, m17⟩
    have q16 : ¬ (2147483649 ≠ 2147483648) := q16
    exfalso; omega
  have q6 : ¬ (a1 < 2147483650) := q6
  refine x_iload (np := 6) (x := 0) (by decide +kernel) rfl la1 ?_
  refine x_iload (np := 7) (x := 2) (by decide +kernel) rfl (by decide) ?_
  refine x_icmp (k := 4) (tg := 14) (np := 10) (by decide +kernel) (by decide) la1 (by decide) (fun q19 => ?_) (fun q20 => ?_)
  · have q19 : 2147483654 < a1 := q19
    refine x_const (np := 15) (x := 9223372039002259456) (a := 2147483648) (by decide +kernel) (by decide) (by decide) ?_
    refine x_retI (np := 16) (x := 0) (by decide +kernel) (by decide) (Or.inr ⟨by decide +kernel, by omega, by omega⟩) ⟨_, rfl, (by decide), ?_⟩
    refine x_ifz (k := 1) (tg := 20) (np := 16) (by decide +kernel) (by decide) (by decide) (fun q21 => ?_) (fun q22 => ?_)
    · have q21 : 2147483648 ≠ 2147483648 := q21
      exfalso; omega
    have q22 : ¬ (2147483648 ≠ 2147483648) := q22
    refine x_const (np := 17) (x := 9223372043297226753) (a := 2147483649) (by decide +kernel) (by decide) (by decide) ?_
    refine x_goto (np := 20) (x := 21) (by decide +kernel) ?_
    refine x_const (np := 22) (x := 9223372043297226753) (a := 2147483649) (by decide +kernel) (by decide) (by decide) ?_
    refine x_nI (t := 6) (mj := 152) (n := 3) (rc := 12) (ml := 3) (nr := 0) (np := 25) (as := [x_r 75, iv_c 2147483649, iv_c 2147483649]) (rest := []) (lo1 := [x_r 75, iv_c 2147483649, iv_c 2147483649]) (by decide +kernel) (by decide) (by decide +kernel) (x_rb_of (by decide +kernel)) rfl rfl (x_wr (by decide) (x_wi (by decide) (x_wi (by decide) x_wn))) x_wn (by decide) rfl ?_
    refine x_iload (np := 1) (x := 1) (by decide +kernel) rfl (by decide) ?_
    refine x_ifz (k := 0) (tg := 9) (np := 4) (by decide +kernel) (by decide) (by decide) (fun q23 => ?_) (fun q24 => ?_)
    · have q23 : 2147483649 = 2147483648 := q23
      exfalso; omega
    have q24 : ¬ (2147483649 = 2147483648) := q24
    refine x_aload (np := 5) (x := 0) (by decide +kernel) rfl (x_nc_le (by decide)) ?_
    refine x_iload (np := 6) (x := 2) (by decide +kernel) rfl (by decide) ?_
    refine x_putI (np := 9) (x := 704) (f := 0) (by decide +kernel) (by decide +kernel) (by decide) (Or.inl (by decide)) ?_
    have j26 := jU (e := 0) (v := 2147483649) 0 j2 rg_75_0_0_1 (by omega) (by omega) (by omega)
    have f28 := jF (e := 0) (v := 2147483649) 0 f4 rg_75_0_0_1 (by omega) (by omega) (by decide)
    generalize e27 : x_up h1 75 0 2147483649 = h25 at j26 f28 ⊢
    refine x_iload (np := 10) (x := 1) (by decide +kernel) rfl (by decide) ?_
    refine x_retI (np := 11) (x := 0) (by decide +kernel) (by decide) (Or.inr ⟨by decide +kernel, by omega, by omega⟩) ⟨_, rfl, (by decide), ?_⟩
    refine x_ifz (k := 1) (tg := 50) (np := 28) (by decide +kernel) (by decide) (by decide) (fun q29 => ?_) (fun q30 => ?_)
    · have q29 : 2147483649 ≠ 2147483648 := q29
      have m32 : WT 76 h1 := by rw [← e3]; exact WT.oth hW hJ (by decide)
      have m31 : WT 76 h25 := by rw [← e27]; exact WT.oth m32 j2 (by decide)
      refine x_retV (np := 51) (x := 0) (by decide +kernel) (by decide +kernel) ⟨rfl, ?_⟩
      exact ⟨j26, f28, m31⟩
    have q30 : ¬ (2147483649 ≠ 2147483648) := q30
    exfalso; omega
  have q20 : ¬ (2147483654 < a1) := q20
  refine x_const (np := 11) (x := 9223372043297226753) (a := 2147483649) (by decide +kernel) (by decide) (by decide) ?_
  refine x_goto (np := 14) (x := 15) (by decide +kernel) ?_
  refine x_retI (np := 16) (x := 0) (by decide +kernel) (by decide) (Or.inr ⟨by decide +kernel, by omega, by omega⟩) ⟨_, rfl, (by decide), ?_⟩
  refine x_ifz (k := 1) (tg := 20) (np := 16) (by decide +kernel) (by decide) (by decide) (fun q33 => ?_) (fun q34 => ?_)
  · have q33 : 2147483649 ≠ 2147483648 := q33
    refine x_const (np := 21) (x := 9223372039002259456) (a := 2147483648) (by decide +kernel) (by decide) (by decide) ?_
    refine x_const (np := 22) (x := 9223372043297226753) (a := 2147483649) (by decide +kernel) (by decide) (by decide) ?_
    refine x_nI (t := 6) (mj := 152) (n := 3) (rc := 12) (ml := 3) (nr := 0) (np := 25) (as := [x_r 75, iv_c 2147483648, iv_c 2147483649]) (rest := []) (lo1 := [x_r 75, iv_c 2147483648, iv_c 2147483649]) (by decide +kernel) (by decide) (by decide +kernel) (x_rb_of (by decide +kernel)) rfl rfl (x_wr (by decide) (x_wi (by decide) (x_wi (by decide) x_wn))) x_wn (by decide) rfl ?_
    refine x_iload (np := 1) (x := 1) (by decide +kernel) rfl (by decide) ?_
    refine x_ifz (k := 0) (tg := 9) (np := 4) (by decide +kernel) (by decide) (by decide) (fun q35 => ?_) (fun q36 => ?_)
    · have q35 : 2147483648 = 2147483648 := q35
      refine x_iload (np := 10) (x := 1) (by decide +kernel) rfl (by decide) ?_
      refine x_retI (np := 11) (x := 0) (by decide +kernel) (by decide) (Or.inr ⟨by decide +kernel, by omega, by omega⟩) ⟨_, rfl, (by decide), ?_⟩
      refine x_ifz (k := 1) (tg := 50) (np := 28) (by decide +kernel) (by decide) (by decide) (fun q37 => ?_) (fun q38 => ?_)
      · have q37 : 2147483648 ≠ 2147483648 := q37
        exfalso; omega
      have q38 : ¬ (2147483648 ≠ 2147483648) := q38
      refine x_aload (np := 29) (x := 0) (by decide +kernel) rfl (x_nc_le (by decide)) ?_
      refine x_aload (np := 30) (x := 0) (by decide +kernel) rfl (x_nc_le (by decide)) ?_
      have q39 : h1 75 1 = 76 := by have z := jB (e := 1) 0 j2 rg_75_1_0_1 (by decide) (by decide); omega
      refine x_getR (np := 33) (x := 705) (f := 1) (q := 76) (by decide +kernel) (by decide) (by decide +kernel) q39 ?_
      refine x_const (np := 34) (x := 9223372043297226753) (a := 2147483649) (by decide +kernel) (by decide) (by decide) ?_
      have q40 : h1 76 1 = h 76 1 := by rw [← e3]; exact x_up_k (by decide)
      refine x_aldC (np := 35) (x := 0) (n := 1952) (i := 1) (q := (h 76 1)) (by decide +kernel) (by decide +kernel) (by omega) (by omega) (by decide) q40 (fun l41 => ?_)
      refine x_ifz (k := 5) (tg := 42) (np := 38) (by decide +kernel) (by decide) l41 (fun q42 => ?_) (fun q43 => ?_)
      · have q42 : (h 76 1) ≤ 2147483648 := q42
        refine x_const (np := 43) (x := 9223372039002259456) (a := 2147483648) (by decide +kernel) (by decide) (by decide) ?_
        refine x_const (np := 44) (x := 9223372047592194050) (a := 2147483650) (by decide +kernel) (by decide) (by decide) ?_
        refine x_nI (t := 6) (mj := 152) (n := 3) (rc := 12) (ml := 3) (nr := 0) (np := 47) (as := [x_r 75, iv_c 2147483648, iv_c 2147483650]) (rest := []) (lo1 := [x_r 75, iv_c 2147483648, iv_c 2147483650]) (by decide +kernel) (by decide) (by decide +kernel) (x_rb_of (by decide +kernel)) rfl rfl (x_wr (by decide) (x_wi (by decide) (x_wi (by decide) x_wn))) x_wn (by decide) rfl ?_
        refine x_iload (np := 1) (x := 1) (by decide +kernel) rfl (by decide) ?_
        refine x_ifz (k := 0) (tg := 9) (np := 4) (by decide +kernel) (by decide) (by decide) (fun q44 => ?_) (fun q45 => ?_)
        · have q44 : 2147483648 = 2147483648 := q44
          refine x_iload (np := 10) (x := 1) (by decide +kernel) rfl (by decide) ?_
          refine x_retI (np := 11) (x := 0) (by decide +kernel) (by decide) (Or.inr ⟨by decide +kernel, by omega, by omega⟩) ⟨_, rfl, (by decide), ?_⟩
          refine x_ifz (k := 0) (tg := 51) (np := 50) (by decide +kernel) (by decide) (by decide) (fun q46 => ?_) (fun q47 => ?_)
          · have q46 : 2147483648 = 2147483648 := q46
            refine x_aload (np := 52) (x := 0) (by decide +kernel) rfl (x_nc_le (by decide)) ?_
            have q48 : h1 75 1 = 76 := by have z := jB (e := 1) 0 j2 rg_75_1_0_1 (by decide) (by decide); omega
            refine x_getR (np := 55) (x := 705) (f := 1) (q := 76) (by decide +kernel) (by decide) (by decide +kernel) q48 ?_
            refine x_const (np := 56) (x := 9223372039002259456) (a := 2147483648) (by decide +kernel) (by decide) (by decide) ?_
            refine x_iload (np := 57) (x := 1) (by decide +kernel) rfl la1 ?_
            refine x_ast (np := 58) (x := 0) (kd := 1) (n := 1952) (i := 0) (by decide +kernel) (Or.inl rfl) (by decide +kernel) (by omega) (by omega) (by decide) la1 (fun z => absurd z (by decide)) ?_
            have j50 := jU (e := 0) (v := a1) 0 j2 rg_76_0_0_1 (by omega) (by omega) (by omega)
            have f52 := jF (e := 0) (v := a1) 0 f4 rg_76_0_0_1 (by omega) (by omega) (by decide)
            generalize e51 : x_up h1 76 0 a1 = h49 at j50 f52 ⊢
            have m54 : WT 76 h1 := by rw [← e3]; exact WT.oth hW hJ (by decide)
            have m53 : WT 76 h49 := by rw [← e51]; exact WT.up m54 j2 (by omega)
            refine x_retV (np := 59) (x := 0) (by decide +kernel) (by decide +kernel) ⟨rfl, ?_⟩
            exact ⟨j50, f52, m53⟩
          have q47 : ¬ (2147483648 = 2147483648) := q47
          exfalso; omega
        have q45 : ¬ (2147483648 = 2147483648) := q45
        exfalso; omega
      have q43 : ¬ ((h 76 1) ≤ 2147483648) := q43
      refine x_const (np := 39) (x := 9223372043297226753) (a := 2147483649) (by decide +kernel) (by decide) (by decide) ?_
      refine x_goto (np := 42) (x := 43) (by decide +kernel) ?_
      refine x_const (np := 44) (x := 9223372047592194050) (a := 2147483650) (by decide +kernel) (by decide) (by decide) ?_
      refine x_nI (t := 6) (mj := 152) (n := 3) (rc := 12) (ml := 3) (nr := 0) (np := 47) (as := [x_r 75, iv_c 2147483649, iv_c 2147483650]) (rest := []) (lo1 := [x_r 75, iv_c 2147483649, iv_c 2147483650]) (by decide +kernel) (by decide) (by decide +kernel) (x_rb_of (by decide +kernel)) rfl rfl (x_wr (by decide) (x_wi (by decide) (x_wi (by decide) x_wn))) x_wn (by decide) rfl ?_
      refine x_iload (np := 1) (x := 1) (by decide +kernel) rfl (by decide) ?_
      refine x_ifz (k := 0) (tg := 9) (np := 4) (by decide +kernel) (by decide) (by decide) (fun q55 => ?_) (fun q56 => ?_)
      · have q55 : 2147483649 = 2147483648 := q55
        exfalso; omega
      have q56 : ¬ (2147483649 = 2147483648) := q56
      refine x_aload (np := 5) (x := 0) (by decide +kernel) rfl (x_nc_le (by decide)) ?_
      refine x_iload (np := 6) (x := 2) (by decide +kernel) rfl (by decide) ?_
      refine x_putI (np := 9) (x := 704) (f := 0) (by decide +kernel) (by decide +kernel) (by decide) (Or.inl (by decide)) ?_
      have j58 := jU (e := 0) (v := 2147483650) 0 j2 rg_75_0_0_1 (by omega) (by omega) (by omega)
      have f60 := jF (e := 0) (v := 2147483650) 0 f4 rg_75_0_0_1 (by omega) (by omega) (by decide)
      generalize e59 : x_up h1 75 0 2147483650 = h57 at j58 f60 ⊢
      refine x_iload (np := 10) (x := 1) (by decide +kernel) rfl (by decide) ?_
      refine x_retI (np := 11) (x := 0) (by decide +kernel) (by decide) (Or.inr ⟨by decide +kernel, by omega, by omega⟩) ⟨_, rfl, (by decide), ?_⟩
      refine x_ifz (k := 0) (tg := 51) (np := 50) (by decide +kernel) (by decide) (by decide) (fun q61 => ?_) (fun q62 => ?_)
      · have q61 : 2147483649 = 2147483648 := q61
        exfalso; omega
      have q62 : ¬ (2147483649 = 2147483648) := q62
      have m64 : WT 76 h1 := by rw [← e3]; exact WT.oth hW hJ (by decide)
      have m63 : WT 76 h57 := by rw [← e59]; exact WT.oth m64 j2 (by decide)
      refine x_retV (np := 51) (x := 0) (by decide +kernel) (by decide +kernel) ⟨rfl, ?_⟩
      exact ⟨j58, f60, m63⟩
    have q36 : ¬ (2147483648 = 2147483648) := q36
    exfalso; omega
  have q34 : ¬ (2147483649 ≠ 2147483648) := q34
  exfalso; omega
set_option maxHeartbeats 0 in
/-- LentNamesModel.purse(II)I -/
theorem c231_75n {sc : Nat × Nat} {d a1 a2 : Nat} {h : xh} (hJ : J h) (ba1 : 0 ≤ a1 ∧ a1 ≤ 4294967295) (ba2 : 0 ≤ a2 ∧ a2 ≤ 4294967295) (hW : WT 76 h) : X sc 231 (d + 3) (xI fun r h' => J h' ∧ Fr 33685504 h h' ∧ (0 ≤ r ∧ r ≤ 4294967295) ∧ WT 76 h') 0 0 0 [x_r 75, iv_c a1, iv_c a2, 147573952589676412928] [] h := by
  have la1 : a1 < 4294967296 := by omega
  have la2 : a2 < 4294967296 := by omega
  have hF := Fr.refl 33685504 h
  refine x_aload (np := 1) (x := 0) (by decide +kernel) rfl (x_nc_le (by decide)) ?_
  refine x_const (np := 2) (x := 9223372039002259456) (a := 2147483648) (by decide +kernel) (by decide) (by decide) ?_
  refine x_putI (np := 5) (x := 704) (f := 0) (by decide +kernel) (by decide +kernel) (by decide) (Or.inl (by decide)) ?_
  have j2 := jU (e := 0) (v := 2147483648) 0 hJ rg_75_0_0_1 (by omega) (by omega) (by omega)
  have f4 := jF (e := 0) (v := 2147483648) 0 hF rg_75_0_0_1 (by omega) (by omega) (by decide)
  generalize e3 : x_up h 75 0 2147483648 = h1 at j2 f4 ⊢
  refine x_aload (np := 6) (x := 0) (by decide +kernel) rfl (x_nc_le (by decide)) ?_
  refine x_aload (np := 7) (x := 0) (by decide +kernel) rfl (x_nc_le (by decide)) ?_
  refine x_iload (np := 8) (x := 1) (by decide +kernel) rfl la1 ?_
  refine x_nI (t := 6) (mj := 159) (n := 2) (rc := 12) (ml := 2) (nr := 1) (np := 11) (as := [x_r 75, iv_c a1]) (rest := [x_r 75]) (lo1 := [x_r 75, iv_c a1]) (by decide +kernel) (by decide) (by decide +kernel) (x_rb_of (by decide +kernel)) rfl rfl (x_wr (by decide) (x_wi la1 x_wn)) (x_wr (by decide) x_wn) (by decide) rfl ?_
  refine x_aload (np := 1) (x := 0) (by decide +kernel) rfl (x_nc_le (by decide)) ?_
  refine x_iload (np := 2) (x := 1) (by decide +kernel) rfl la1 ?_
  refine x_const (np := 3) (x := 9223372039002259456) (a := 2147483648) (by decide +kernel) (by decide) (by decide) ?_
  refine x_nI (t := 6) (mj := 158) (n := 3) (rc := 12) (ml := 3) (nr := 0) (np := 6) (as := [x_r 75, iv_c a1, iv_c 2147483648]) (rest := []) (lo1 := [x_r 75, iv_c a1, iv_c 2147483648]) (by decide +kernel) (by decide) (by decide +kernel) (x_rb_of (by decide +kernel)) rfl rfl (x_wr (by decide) (x_wi la1 (x_wi (by decide) x_wn))) x_wn (by decide) rfl ?_
  refine x_iload (np := 1) (x := 1) (by decide +kernel) rfl la1 ?_
  refine x_const (np := 2) (x := 9223372039002259456) (a := 2147483648) (by decide +kernel) (by decide) (by decide) ?_
  refine x_aload (np := 3) (x := 0) (by decide +kernel) rfl (x_nc_le (by decide)) ?_
  have q5 : h1 75 1 = 76 := by have z := jB (e := 1) 0 j2 rg_75_1_0_1 (by decide) (by decide); omega
  refine x_getR (np := 6) (x := 705) (f := 1) (q := 76) (by decide +kernel) (by decide) (by decide +kernel) q5 ?_
  refine x_iload (np := 7) (x := 2) (by decide +kernel) rfl (by decide) ?_
  have q6 : h1 76 0 = h 76 0 := by rw [← e3]; exact x_up_k (by decide)
  have b7 := jB (e := 0) 0 hJ rg_76_0_0_1 (by omega) (by omega)
  refine x_aldC (np := 8) (x := 0) (n := 1952) (i := 0) (q := (h 76 0)) (by decide +kernel) (by decide +kernel) (by omega) (by omega) (by decide) q6 (fun l8 => ?_)
  refine x_const (np := 9) (x := 9223372043297226753) (a := 2147483649) (by decide +kernel) (by decide) (by decide) ?_
  obtain ⟨v9, q10⟩ : ∃ z, z + 2147483649 = (h 76 0) + 2147483648 := ⟨(h 76 0) + 2147483648 - 2147483649, by omega⟩
  refine x_isub (np := 10) (x := 0) (v := v9) (by decide +kernel) l8 (by decide) (by omega) (by omega) ?_
  refine x_nI (t := 0) (mj := 153) (n := 3) (rc := 0) (ml := 3) (nr := 0) (np := 13) (as := [iv_c a1, iv_c 2147483648, iv_c v9]) (rest := []) (lo1 := [iv_c a1, iv_c 2147483648, iv_c v9]) (by decide +kernel) (by decide) (by decide +kernel) (Or.inl rfl) rfl rfl (x_wi la1 (x_wi (by decide) (x_wi (by omega) x_wn))) x_wn (by decide) rfl ?_
  refine x_iload (np := 1) (x := 0) (by decide +kernel) rfl la1 ?_
  refine x_iload (np := 2) (x := 1) (by decide +kernel) rfl (by decide) ?_
  refine x_icmp (k := 2) (tg := 14) (np := 5) (by decide +kernel) (by decide) la1 (by decide) (fun q11 => ?_) (fun q12 => ?_)
  · have q11 : a1 < 2147483648 := q11
    refine x_const (np := 15) (x := 9223372039002259456) (a := 2147483648) (by decide +kernel) (by decide) (by decide) ?_
    refine x_retI (np := 16) (x := 0) (by decide +kernel) (by decide) (Or.inr ⟨by decide +kernel, by omega, by omega⟩) ⟨_, rfl, (by decide), ?_⟩
    refine x_ifz (k := 1) (tg := 20) (np := 16) (by decide +kernel) (by decide) (by decide) (fun q13 => ?_) (fun q14 => ?_)
    · have q13 : 2147483648 ≠ 2147483648 := q13
      exfalso; omega
    have q14 : ¬ (2147483648 ≠ 2147483648) := q14
    refine x_const (np := 17) (x := 9223372043297226753) (a := 2147483649) (by decide +kernel) (by decide) (by decide) ?_
    refine x_goto (np := 20) (x := 21) (by decide +kernel) ?_
    refine x_retI (np := 22) (x := 0) (by decide +kernel) (by decide) (Or.inr ⟨by decide +kernel, by omega, by omega⟩) ⟨_, rfl, (by decide), ?_⟩
    refine x_retI (np := 7) (x := 0) (by decide +kernel) (by decide) (Or.inr ⟨by decide +kernel, by omega, by omega⟩) ⟨_, rfl, (by decide), ?_⟩
    refine x_const (np := 12) (x := 9223372043297226753) (a := 2147483649) (by decide +kernel) (by decide) (by decide) ?_
    refine x_nI (t := 6) (mj := 152) (n := 3) (rc := 12) (ml := 3) (nr := 0) (np := 15) (as := [x_r 75, iv_c 2147483649, iv_c 2147483649]) (rest := []) (lo1 := [x_r 75, iv_c 2147483649, iv_c 2147483649]) (by decide +kernel) (by decide) (by decide +kernel) (x_rb_of (by decide +kernel)) rfl rfl (x_wr (by decide) (x_wi (by decide) (x_wi (by decide) x_wn))) x_wn (by decide) rfl ?_
    refine x_iload (np := 1) (x := 1) (by decide +kernel) rfl (by decide) ?_
    refine x_ifz (k := 0) (tg := 9) (np := 4) (by decide +kernel) (by decide) (by decide) (fun q15 => ?_) (fun q16 => ?_)
    · have q15 : 2147483649 = 2147483648 := q15
      exfalso; omega
    have q16 : ¬ (2147483649 = 2147483648) := q16
    refine x_aload (np := 5) (x := 0) (by decide +kernel) rfl (x_nc_le (by decide)) ?_
    refine x_iload (np := 6) (x := 2) (by decide +kernel) rfl (by decide) ?_
    refine x_putI (np := 9) (x := 704) (f := 0) (by decide +kernel) (by decide +kernel) (by decide) (Or.inl (by decide)) ?_
    have j18 := jU (e := 0) (v := 2147483649) 0 j2 rg_75_0_0_1 (by omega) (by omega) (by omega)
    have f20 := jF (e := 0) (v := 2147483649) 0 f4 rg_75_0_0_1 (by omega) (by omega) (by decide)
    generalize e19 : x_up h1 75 0 2147483649 = h17 at j18 f20 ⊢
    refine x_iload (np := 10) (x := 1) (by decide +kernel) rfl (by decide) ?_
    refine x_retI (np := 11) (x := 0) (by decide +kernel) (by decide) (Or.inr ⟨by decide +kernel, by omega, by omega⟩) ⟨_, rfl, (by decide), ?_⟩
    refine x_ifz (k := 1) (tg := 42) (np := 18) (by decide +kernel) (by decide) (by decide) (fun q21 => ?_) (fun q22 => ?_)
    · have q21 : 2147483649 ≠ 2147483648 := q21
      refine x_const (np := 43) (x := 9223372039002259456) (a := 2147483648) (by decide +kernel) (by decide) (by decide) ?_
      have m24 : WT 76 h1 := by rw [← e3]; exact WT.oth hW hJ (by decide)
      have m23 : WT 76 h17 := by rw [← e19]; exact WT.oth m24 j2 (by decide)
      refine x_retI (np := 44) (x := 0) (by decide +kernel) (by decide) (Or.inl (by decide +kernel)) ⟨_, rfl, (by decide), ?_⟩
      exact ⟨j18, f20, (by omega), m23⟩
    have q22 : ¬ (2147483649 ≠ 2147483648) := q22
    exfalso; omega
  have q12 : ¬ (a1 < 2147483648) := q12
  refine x_iload (np := 6) (x := 0) (by decide +kernel) rfl la1 ?_
  refine x_iload (np := 7) (x := 2) (by decide +kernel) rfl (by omega) ?_
  refine x_icmp (k := 4) (tg := 14) (np := 10) (by decide +kernel) (by decide) la1 (by omega) (fun q25 => ?_) (fun q26 => ?_)
  · have q25 : v9 < a1 := q25
    refine x_const (np := 15) (x := 9223372039002259456) (a := 2147483648) (by decide +kernel) (by decide) (by decide) ?_
    refine x_retI (np := 16) (x := 0) (by decide +kernel) (by decide) (Or.inr ⟨by decide +kernel, by omega, by omega⟩) ⟨_, rfl, (by decide), ?_⟩
    refine x_ifz (k := 1) (tg := 20) (np := 16) (by decide +kernel) (by decide) (by decide) (fun q27 => ?_) (fun q28 => ?_)
    · have q27 : 2147483648 ≠ 2147483648 := q27
      exfalso; omega
    have q28 : ¬ (2147483648 ≠ 2147483648) := q28
    refine x_const (np := 17) (x := 9223372043297226753) (a := 2147483649) (by decide +kernel) (by decide) (by decide) ?_
    refine x_goto (np := 20) (x := 21) (by decide +kernel) ?_
    refine x_retI (np := 22) (x := 0) (by decide +kernel) (by decide) (Or.inr ⟨by decide +kernel, by omega, by omega⟩) ⟨_, rfl, (by decide), ?_⟩
    refine x_retI (np := 7) (x := 0) (by decide +kernel) (by decide) (Or.inr ⟨by decide +kernel, by omega, by omega⟩) ⟨_, rfl, (by decide), ?_⟩
    refine x_const (np := 12) (x := 9223372043297226753) (a := 2147483649) (by decide +kernel) (by decide) (by decide) ?_
    refine x_nI (t := 6) (mj := 152) (n := 3) (rc := 12) (ml := 3) (nr := 0) (np := 15) (as := [x_r 75, iv_c 2147483649, iv_c 2147483649]) (rest := []) (lo1 := [x_r 75, iv_c 2147483649, iv_c 2147483649]) (by decide +kernel) (by decide) (by decide +kernel) (x_rb_of (by decide +kernel)) rfl rfl (x_wr (by decide) (x_wi (by decide) (x_wi (by decide) x_wn))) x_wn (by decide) rfl ?_
    refine x_iload (np := 1) (x := 1) (by decide +kernel) rfl (by decide) ?_
    refine x_ifz (k := 0) (tg := 9) (np := 4) (by decide +kernel) (by decide) (by decide) (fun q29 => ?_) (fun q30 => ?_)
    · have q29 : 2147483649 = 2147483648 := q29
      exfalso; omega
    have q30 : ¬ (2147483649 = 2147483648) := q30
    refine x_aload (np := 5) (x := 0) (by decide +kernel) rfl (x_nc_le (by decide)) ?_
    refine x_iload (np := 6) (x := 2) (by decide +kernel) rfl (by decide) ?_
    refine x_putI (np := 9) (x := 704) (f := 0) (by decide +kernel) (by decide +kernel) (by decide) (Or.inl (by decide)) ?_
    have j32 := jU (e := 0) (v := 2147483649) 0 j2 rg_75_0_0_1 (by omega) (by omega) (by omega)
    have f34 := jF (e := 0) (v := 2147483649) 0 f4 rg_75_0_0_1 (by omega) (by omega) (by decide)
    generalize e33 : x_up h1 75 0 2147483649 = h31 at j32 f34 ⊢
    refine x_iload (np := 10) (x := 1) (by decide +kernel) rfl (by decide) ?_
    refine x_retI (np := 11) (x := 0) (by decide +kernel) (by decide) (Or.inr ⟨by decide +kernel, by omega, by omega⟩) ⟨_, rfl, (by decide), ?_⟩
    refine x_ifz (k := 1) (tg := 42) (np := 18) (by decide +kernel) (by decide) (by decide) (fun q35 => ?_) (fun q36 => ?_)
    · have q35 : 2147483649 ≠ 2147483648 := q35
      refine x_const (np := 43) (x := 9223372039002259456) (a := 2147483648) (by decide +kernel) (by decide) (by decide) ?_
      have m38 : WT 76 h1 := by rw [← e3]; exact WT.oth hW hJ (by decide)
      have m37 : WT 76 h31 := by rw [← e33]; exact WT.oth m38 j2 (by decide)
      refine x_retI (np := 44) (x := 0) (by decide +kernel) (by decide) (Or.inl (by decide +kernel)) ⟨_, rfl, (by decide), ?_⟩
      exact ⟨j32, f34, (by omega), m37⟩
    have q36 : ¬ (2147483649 ≠ 2147483648) := q36
    exfalso; omega
  have q26 : ¬ (v9 < a1) := q26
  refine x_const (np := 11) (x := 9223372043297226753) (a := 2147483649) (by decide +kernel) (by decide) (by decide) ?_
  refine x_goto (np := 14) (x := 15) (by decide +kernel) ?_
  refine x_retI (np := 16) (x := 0) (by decide +kernel) (by decide) (Or.inr ⟨by decide +kernel, by omega, by omega⟩) ⟨_, rfl, (by decide), ?_⟩
  refine x_ifz (k := 1) (tg := 20) (np := 16) (by decide +kernel) (by decide) (by decide) (fun q39 => ?_) (fun q40 => ?_)
  · have q39 : 2147483649 ≠ 2147483648 := q39
    refine x_const (np := 21) (x := 9223372039002259456) (a := 2147483648) (by decide +kernel) (by decide) (by decide) ?_
    refine x_retI (np := 22) (x := 0) (by decide +kernel) (by decide) (Or.inr ⟨by decide +kernel, by omega, by omega⟩) ⟨_, rfl, (by decide), ?_⟩
    refine x_retI (np := 7) (x := 0) (by decide +kernel) (by decide) (Or.inr ⟨by decide +kernel, by omega, by omega⟩) ⟨_, rfl, (by decide), ?_⟩
    refine x_const (np := 12) (x := 9223372043297226753) (a := 2147483649) (by decide +kernel) (by decide) (by decide) ?_
    refine x_nI (t := 6) (mj := 152) (n := 3) (rc := 12) (ml := 3) (nr := 0) (np := 15) (as := [x_r 75, iv_c 2147483648, iv_c 2147483649]) (rest := []) (lo1 := [x_r 75, iv_c 2147483648, iv_c 2147483649]) (by decide +kernel) (by decide) (by decide +kernel) (x_rb_of (by decide +kernel)) rfl rfl (x_wr (by decide) (x_wi (by decide) (x_wi (by decide) x_wn))) x_wn (by decide) rfl ?_
    refine x_iload (np := 1) (x := 1) (by decide +kernel) rfl (by decide) ?_
    refine x_ifz (k := 0) (tg := 9) (np := 4) (by decide +kernel) (by decide) (by decide) (fun q41 => ?_) (fun q42 => ?_)
    · have q41 : 2147483648 = 2147483648 := q41
      refine x_iload (np := 10) (x := 1) (by decide +kernel) rfl (by decide) ?_
      refine x_retI (np := 11) (x := 0) (by decide +kernel) (by decide) (Or.inr ⟨by decide +kernel, by omega, by omega⟩) ⟨_, rfl, (by decide), ?_⟩
      refine x_ifz (k := 1) (tg := 42) (np := 18) (by decide +kernel) (by decide) (by decide) (fun q43 => ?_) (fun q44 => ?_)
      · have q43 : 2147483648 ≠ 2147483648 := q43
        exfalso; omega
      have q44 : ¬ (2147483648 ≠ 2147483648) := q44
      refine x_aload (np := 19) (x := 0) (by decide +kernel) rfl (x_nc_le (by decide)) ?_
      refine x_iload (np := 20) (x := 2) (by decide +kernel) rfl la2 ?_
      refine x_const (np := 21) (x := 9223372039002259456) (a := 2147483648) (by decide +kernel) (by decide) (by decide) ?_
      refine x_const (np := 24) (x := 9223414984380262159) (a := 2147493647) (by decide +kernel) (by decide) (by decide) ?_
      refine x_nI (t := 0) (mj := 153) (n := 3) (rc := 0) (ml := 3) (nr := 1) (np := 27) (as := [iv_c a2, iv_c 2147483648, iv_c 2147493647]) (rest := [x_r 75]) (lo1 := [iv_c a2, iv_c 2147483648, iv_c 2147493647]) (by decide +kernel) (by decide) (by decide +kernel) (Or.inl rfl) rfl rfl (x_wi la2 (x_wi (by decide) (x_wi (by decide) x_wn))) (x_wr (by decide) x_wn) (by decide) rfl ?_
      refine x_iload (np := 1) (x := 0) (by decide +kernel) rfl la2 ?_
      refine x_iload (np := 2) (x := 1) (by decide +kernel) rfl (by decide) ?_
      refine x_icmp (k := 2) (tg := 14) (np := 5) (by decide +kernel) (by decide) la2 (by decide) (fun q45 => ?_) (fun q46 => ?_)
      · have q45 : a2 < 2147483648 := q45
        refine x_const (np := 15) (x := 9223372039002259456) (a := 2147483648) (by decide +kernel) (by decide) (by decide) ?_
        refine x_retI (np := 16) (x := 0) (by decide +kernel) (by decide) (Or.inr ⟨by decide +kernel, by omega, by omega⟩) ⟨_, rfl, (by decide), ?_⟩
        refine x_ifz (k := 1) (tg := 34) (np := 30) (by decide +kernel) (by decide) (by decide) (fun q47 => ?_) (fun q48 => ?_)
        · have q47 : 2147483648 ≠ 2147483648 := q47
          exfalso; omega
        have q48 : ¬ (2147483648 ≠ 2147483648) := q48
        refine x_const (np := 31) (x := 9223372043297226753) (a := 2147483649) (by decide +kernel) (by decide) (by decide) ?_
        refine x_goto (np := 34) (x := 35) (by decide +kernel) ?_
        refine x_const (np := 36) (x := 9223372047592194050) (a := 2147483650) (by decide +kernel) (by decide) (by decide) ?_
        refine x_nI (t := 6) (mj := 152) (n := 3) (rc := 12) (ml := 3) (nr := 0) (np := 39) (as := [x_r 75, iv_c 2147483649, iv_c 2147483650]) (rest := []) (lo1 := [x_r 75, iv_c 2147483649, iv_c 2147483650]) (by decide +kernel) (by decide) (by decide +kernel) (x_rb_of (by decide +kernel)) rfl rfl (x_wr (by decide) (x_wi (by decide) (x_wi (by decide) x_wn))) x_wn (by decide) rfl ?_
        refine x_iload (np := 1) (x := 1) (by decide +kernel) rfl (by decide) ?_
        refine x_ifz (k := 0) (tg := 9) (np := 4) (by decide +kernel) (by decide) (by decide) (fun q49 => ?_) (fun q50 => ?_)
        · have q49 : 2147483649 = 2147483648 := q49
          exfalso; omega
        have q50 : ¬ (2147483649 = 2147483648) := q50
        refine x_aload (np := 5) (x := 0) (by decide +kernel) rfl (x_nc_le (by decide)) ?_
        refine x_iload (np := 6) (x := 2) (by decide +kernel) rfl (by decide) ?_
        refine x_putI (np := 9) (x := 704) (f := 0) (by decide +kernel) (by decide +kernel) (by decide) (Or.inl (by decide)) ?_
        have j52 := jU (e := 0) (v := 2147483650) 0 j2 rg_75_0_0_1 (by omega) (by omega) (by omega)
        have f54 := jF (e := 0) (v := 2147483650) 0 f4 rg_75_0_0_1 (by omega) (by omega) (by decide)
        generalize e53 : x_up h1 75 0 2147483650 = h51 at j52 f54 ⊢
        refine x_iload (np := 10) (x := 1) (by decide +kernel) rfl (by decide) ?_
        refine x_retI (np := 11) (x := 0) (by decide +kernel) (by decide) (Or.inr ⟨by decide +kernel, by omega, by omega⟩) ⟨_, rfl, (by decide), ?_⟩
        refine x_ifz (k := 0) (tg := 44) (np := 42) (by decide +kernel) (by decide) (by decide) (fun q55 => ?_) (fun q56 => ?_)
        · have q55 : 2147483649 = 2147483648 := q55
          exfalso; omega
        have q56 : ¬ (2147483649 = 2147483648) := q56
        refine x_const (np := 43) (x := 9223372039002259456) (a := 2147483648) (by decide +kernel) (by decide) (by decide) ?_
        have m58 : WT 76 h1 := by rw [← e3]; exact WT.oth hW hJ (by decide)
        have m57 : WT 76 h51 := by rw [← e53]; exact WT.oth m58 j2 (by decide)
        refine x_retI (np := 44) (x := 0) (by decide +kernel) (by decide) (Or.inl (by decide +kernel)) ⟨_, rfl, (by decide), ?_⟩
        exact ⟨j52, f54, (by omega), m57⟩
      have q46 : ¬ (a2 < 2147483648) := q46
      refine x_iload (np := 6) (x := 0) (by decide +kernel) rfl la2 ?_
      refine x_iload (np := 7) (x := 2) (by decide +kernel) rfl (by decide) ?_
      refine x_icmp (k := 4) (tg := 14) (np := 10) (by decide +kernel) (by decide) la2 (by decide) (fun q59 => ?_) (fun q60 => ?_)
      · have q59 : 2147493647 < a2 := q59
        refine x_const (np := 15) (x := 9223372039002259456) (a := 2147483648) (by decide +kernel) (by decide) (by decide) ?_
        refine x_retI (np := 16) (x := 0) (by decide +kernel) (by decide) (Or.inr ⟨by decide +kernel, by omega, by omega⟩) ⟨_, rfl, (by decide), ?_⟩
        refine x_ifz (k := 1) (tg := 34) (np := 30) (by decide +kernel) (by decide) (by decide) (fun q61 => ?_) (fun q62 => ?_)
        · have q61 : 2147483648 ≠ 2147483648 := q61
          exfalso; omega
        have q62 : ¬ (2147483648 ≠ 2147483648) := q62
        refine x_const (np := 31) (x := 9223372043297226753) (a := 2147483649) (by decide +kernel) (by decide) (by decide) ?_
        refine x_goto (np := 34) (x := 35) (by decide +kernel) ?_
        refine x_const (np := 36) (x := 9223372047592194050) (a := 2147483650) (by decide +kernel) (by decide) (by decide) ?_
        refine x_nI (t := 6) (mj := 152) (n := 3) (rc := 12) (ml := 3) (nr := 0) (np := 39) (as := [x_r 75, iv_c 2147483649, iv_c 2147483650]) (rest := []) (lo1 := [x_r 75, iv_c 2147483649, iv_c 2147483650]) (by decide +kernel) (by decide) (by decide +kernel) (x_rb_of (by decide +kernel)) rfl rfl (x_wr (by decide) (x_wi (by decide) (x_wi (by decide) x_wn))) x_wn (by decide) rfl ?_
        refine x_iload (np := 1) (x := 1) (by decide +kernel) rfl (by decide) ?_
        refine x_ifz (k := 0) (tg := 9) (np := 4) (by decide +kernel) (by decide) (by decide) (fun q63 => ?_) (fun q64 => ?_)
        · have q63 : 2147483649 = 2147483648 := q63
          exfalso; omega
        have q64 : ¬ (2147483649 = 2147483648) := q64
        refine x_aload (np := 5) (x := 0) (by decide +kernel) rfl (x_nc_le (by decide)) ?_
        refine x_iload (np := 6) (x := 2) (by decide +kernel) rfl (by decide) ?_
        refine x_putI (np := 9) (x := 704) (f := 0) (by decide +kernel) (by decide +kernel) (by decide) (Or.inl (by decide)) ?_
        have j66 := jU (e := 0) (v := 2147483650) 0 j2 rg_75_0_0_1 (by omega) (by omega) (by omega)
        have f68 := jF (e := 0) (v := 2147483650) 0 f4 rg_75_0_0_1 (by omega) (by omega) (by decide)
        generalize e67 : x_up h1 75 0 2147483650 = h65 at j66 f68 ⊢
        refine x_iload (np := 10) (x := 1) (by decide +kernel) rfl (by decide) ?_
        refine x_retI (np := 11) (x := 0) (by decide +kernel) (by decide) (Or.inr ⟨by decide +kernel, by omega, by omega⟩) ⟨_, rfl, (by decide), ?_⟩
        refine x_ifz (k := 0) (tg := 44) (np := 42) (by decide +kernel) (by decide) (by decide) (fun q69 => ?_) (fun q70 => ?_)
        · have q69 : 2147483649 = 2147483648 := q69
          exfalso; omega
        have q70 : ¬ (2147483649 = 2147483648) := q70
        refine x_const (np := 43) (x := 9223372039002259456) (a := 2147483648) (by decide +kernel) (by decide) (by decide) ?_
        have m72 : WT 76 h1 := by rw [← e3]; exact WT.oth hW hJ (by decide)
        have m71 : WT 76 h65 := by rw [← e67]; exact WT.oth m72 j2 (by decide)
        refine x_retI (np := 44) (x := 0) (by decide +kernel) (by decide) (Or.inl (by decide +kernel)) ⟨_, rfl, (by decide), ?_⟩
        exact ⟨j66, f68, (by omega), m71⟩
      have q60 : ¬ (2147493647 < a2) := q60
      refine x_const (np := 11) (x := 9223372043297226753) (a := 2147483649) (by decide +kernel) (by decide) (by decide) ?_
      refine x_goto (np := 14) (x := 15) (by decide +kernel) ?_
      refine x_retI (np := 16) (x := 0) (by decide +kernel) (by decide) (Or.inr ⟨by decide +kernel, by omega, by omega⟩) ⟨_, rfl, (by decide), ?_⟩
      refine x_ifz (k := 1) (tg := 34) (np := 30) (by decide +kernel) (by decide) (by decide) (fun q73 => ?_) (fun q74 => ?_)
      · have q73 : 2147483649 ≠ 2147483648 := q73
        refine x_const (np := 35) (x := 9223372039002259456) (a := 2147483648) (by decide +kernel) (by decide) (by decide) ?_
        refine x_const (np := 36) (x := 9223372047592194050) (a := 2147483650) (by decide +kernel) (by decide) (by decide) ?_
        refine x_nI (t := 6) (mj := 152) (n := 3) (rc := 12) (ml := 3) (nr := 0) (np := 39) (as := [x_r 75, iv_c 2147483648, iv_c 2147483650]) (rest := []) (lo1 := [x_r 75, iv_c 2147483648, iv_c 2147483650]) (by decide +kernel) (by decide) (by decide +kernel) (x_rb_of (by decide +kernel)) rfl rfl (x_wr (by decide) (x_wi (by decide) (x_wi (by decide) x_wn))) x_wn (by decide) rfl ?_
        refine x_iload (np := 1) (x := 1) (by decide +kernel) rfl (by decide) ?_
        refine x_ifz (k := 0) (tg := 9) (np := 4) (by decide +kernel) (by decide) (by decide) (fun q75 => ?_) (fun q76 => ?_)
        · have q75 : 2147483648 = 2147483648 := q75
          refine x_iload (np := 10) (x := 1) (by decide +kernel) rfl (by decide) ?_
          refine x_retI (np := 11) (x := 0) (by decide +kernel) (by decide) (Or.inr ⟨by decide +kernel, by omega, by omega⟩) ⟨_, rfl, (by decide), ?_⟩
          refine x_ifz (k := 0) (tg := 44) (np := 42) (by decide +kernel) (by decide) (by decide) (fun q77 => ?_) (fun q78 => ?_)
          · have q77 : 2147483648 = 2147483648 := q77
            refine x_aload (np := 45) (x := 0) (by decide +kernel) rfl (x_nc_le (by decide)) ?_
            have q79 : h1 75 1 = 76 := by have z := jB (e := 1) 0 j2 rg_75_1_0_1 (by decide) (by decide); omega
            refine x_getR (np := 48) (x := 705) (f := 1) (q := 76) (by decide +kernel) (by decide) (by decide +kernel) q79 ?_
            refine x_const (np := 50) (x := 9223372099131801614) (a := 2147483662) (by decide +kernel) (by decide) (by decide) ?_
            refine x_iload (np := 51) (x := 1) (by decide +kernel) rfl la1 ?_
            refine x_iadd (np := 52) (x := 0) (v := (14 + a1)) (by decide +kernel) (by decide) la1 (by omega) (by omega) ?_
            obtain ⟨u80, q81⟩ : ∃ z, a1 = 2147483648 + z := ⟨a1 - 2147483648, by omega⟩
            have q82 : h1 76 (14 + u80) = h 76 (14 + u80) := by rw [← e3]; exact x_up_k (by decide)
            refine x_aldC (np := 53) (x := 0) (n := 1952) (i := (14 + u80)) (q := (h 76 (14 + u80))) (by decide +kernel) (by decide +kernel) (by omega) (by omega) (by decide) q82 (fun l83 => ?_)
            refine x_istore (np := 54) (x := 3) (lo' := [x_r 75, iv_c a1, iv_c a2, iv_c (h 76 (14 + u80))]) (by decide +kernel) l83 (Nat.le_of_ble_eq_true rfl) rfl ?_
            refine x_aload (np := 55) (x := 0) (by decide +kernel) rfl (x_nc_le (by decide)) ?_
            have q84 : h1 75 1 = 76 := by have z := jB (e := 1) 0 j2 rg_75_1_0_1 (by decide) (by decide); omega
            refine x_getR (np := 58) (x := 705) (f := 1) (q := 76) (by decide +kernel) (by decide) (by decide +kernel) q84 ?_
            refine x_const (np := 60) (x := 9223372099131801614) (a := 2147483662) (by decide +kernel) (by decide) (by decide) ?_
            refine x_iload (np := 61) (x := 1) (by decide +kernel) rfl la1 ?_
            refine x_iadd (np := 62) (x := 0) (v := (14 + a1)) (by decide +kernel) (by decide) la1 (by omega) (by omega) ?_
            refine x_iload (np := 63) (x := 2) (by decide +kernel) rfl la2 ?_
            refine x_ast (np := 64) (x := 0) (kd := 1) (n := 1952) (i := (14 + u80)) (by decide +kernel) (Or.inl rfl) (by decide +kernel) (by omega) (by omega) (by decide) la2 (fun z => absurd z (by decide)) ?_
            have j86 := jU (e := (14 + u80)) (v := a2) u80 j2 rg_76_14_1_6 (by omega) (by omega) (by omega)
            have f88 := jF (e := (14 + u80)) (v := a2) u80 f4 rg_76_14_1_6 (by omega) (by omega) (by decide)
            generalize e87 : x_up h1 76 (14 + u80) a2 = h85 at j86 f88 ⊢
            refine x_iload (np := 65) (x := 3) (by decide +kernel) rfl l83 ?_
            have m90 : WT 76 h1 := by rw [← e3]; exact WT.oth hW hJ (by decide)
            have m89 : WT 76 h85 := by rw [← e87]; exact WT.up m90 j2 (by omega)
            refine x_retI (np := 66) (x := 0) (by decide +kernel) l83 (Or.inl (by decide +kernel)) ⟨_, rfl, l83, ?_⟩
            exact ⟨j86, f88, (by omega), m89⟩
          have q78 : ¬ (2147483648 = 2147483648) := q78
          exfalso; omega
        have q76 : ¬ (2147483648 = 2147483648) := q76
        exfalso; omega
      have q74 : ¬ (2147483649 ≠ 2147483648) := q74
      exfalso; omega
    have q42 : ¬ (2147483648 = 2147483648) := q42
    exfalso; omega
  have q40 : ¬ (2147483649 ≠ 2147483648) := q40
  exfalso; omega
set_option maxHeartbeats 0 in
/-- LentNamesModel.wish(II)I -/
theorem c261_75n {sc : Nat × Nat} {d a1 a2 : Nat} {h : xh} (hJ : J h) (ba1 : 0 ≤ a1 ∧ a1 ≤ 4294967295) (ba2 : 0 ≤ a2 ∧ a2 ≤ 4294967295) (hW : WT 76 h) : X sc 261 (d + 3) (xI fun r h' => J h' ∧ Fr 33685504 h h' ∧ (0 ≤ r ∧ r ≤ 4294967295) ∧ WT 76 h') 0 0 0 [x_r 75, iv_c a1, iv_c a2, 147573952589676412928] [] h := by
  have la1 : a1 < 4294967296 := by omega
  have la2 : a2 < 4294967296 := by omega
  have hF := Fr.refl 33685504 h
  refine x_aload (np := 1) (x := 0) (by decide +kernel) rfl (x_nc_le (by decide)) ?_
  refine x_const (np := 2) (x := 9223372039002259456) (a := 2147483648) (by decide +kernel) (by decide) (by decide) ?_
  refine x_putI (np := 5) (x := 704) (f := 0) (by decide +kernel) (by decide +kernel) (by decide) (Or.inl (by decide)) ?_
  have j2 := jU (e := 0) (v := 2147483648) 0 hJ rg_75_0_0_1 (by omega) (by omega) (by omega)
  have f4 := jF (e := 0) (v := 2147483648) 0 hF rg_75_0_0_1 (by omega) (by omega) (by decide)
  generalize e3 : x_up h 75 0 2147483648 = h1 at j2 f4 ⊢
  refine x_aload (np := 6) (x := 0) (by decide +kernel) rfl (x_nc_le (by decide)) ?_
  refine x_aload (np := 7) (x := 0) (by decide +kernel) rfl (x_nc_le (by decide)) ?_
  refine x_iload (np := 8) (x := 1) (by decide +kernel) rfl la1 ?_
  refine x_nI (t := 6) (mj := 225) (n := 2) (rc := 12) (ml := 2) (nr := 1) (np := 11) (as := [x_r 75, iv_c a1]) (rest := [x_r 75]) (lo1 := [x_r 75, iv_c a1]) (by decide +kernel) (by decide) (by decide +kernel) (x_rb_of (by decide +kernel)) rfl rfl (x_wr (by decide) (x_wi la1 x_wn)) (x_wr (by decide) x_wn) (by decide) rfl ?_
  refine x_aload (np := 1) (x := 0) (by decide +kernel) rfl (x_nc_le (by decide)) ?_
  refine x_iload (np := 2) (x := 1) (by decide +kernel) rfl la1 ?_
  refine x_const (np := 3) (x := 9223372051887161347) (a := 2147483651) (by decide +kernel) (by decide) (by decide) ?_
  refine x_nI (t := 6) (mj := 158) (n := 3) (rc := 12) (ml := 3) (nr := 0) (np := 6) (as := [x_r 75, iv_c a1, iv_c 2147483651]) (rest := []) (lo1 := [x_r 75, iv_c a1, iv_c 2147483651]) (by decide +kernel) (by decide) (by decide +kernel) (x_rb_of (by decide +kernel)) rfl rfl (x_wr (by decide) (x_wi la1 (x_wi (by decide) x_wn))) x_wn (by decide) rfl ?_
  refine x_iload (np := 1) (x := 1) (by decide +kernel) rfl la1 ?_
  refine x_const (np := 2) (x := 9223372039002259456) (a := 2147483648) (by decide +kernel) (by decide) (by decide) ?_
  refine x_aload (np := 3) (x := 0) (by decide +kernel) rfl (x_nc_le (by decide)) ?_
  have q5 : h1 75 1 = 76 := by have z := jB (e := 1) 0 j2 rg_75_1_0_1 (by decide) (by decide); omega
  refine x_getR (np := 6) (x := 705) (f := 1) (q := 76) (by decide +kernel) (by decide) (by decide +kernel) q5 ?_
  refine x_iload (np := 7) (x := 2) (by decide +kernel) rfl (by decide) ?_
  have q6 : h1 76 3 = h 76 3 := by rw [← e3]; exact x_up_k (by decide)
  have b7 := jB (e := 3) 0 hJ rg_76_3_0_1 (by omega) (by omega)
  refine x_aldC (np := 8) (x := 0) (n := 1952) (i := 3) (q := (h 76 3)) (by decide +kernel) (by decide +kernel) (by omega) (by omega) (by decide) q6 (fun l8 => ?_)
  refine x_const (np := 9) (x := 9223372043297226753) (a := 2147483649) (by decide +kernel) (by decide) (by decide) ?_
  obtain ⟨v9, q10⟩ : ∃ z, z + 2147483649 = (h 76 3) + 2147483648 := ⟨(h 76 3) + 2147483648 - 2147483649, by omega⟩
  refine x_isub (np := 10) (x := 0) (v := v9) (by decide +kernel) l8 (by decide) (by omega) (by omega) ?_
  refine x_nI (t := 0) (mj := 153) (n := 3) (rc := 0) (ml := 3) (nr := 0) (np := 13) (as := [iv_c a1, iv_c 2147483648, iv_c v9]) (rest := []) (lo1 := [iv_c a1, iv_c 2147483648, iv_c v9]) (by decide +kernel) (by decide) (by decide +kernel) (Or.inl rfl) rfl rfl (x_wi la1 (x_wi (by decide) (x_wi (by omega) x_wn))) x_wn (by decide) rfl ?_
  refine x_iload (np := 1) (x := 0) (by decide +kernel) rfl la1 ?_
  refine x_iload (np := 2) (x := 1) (by decide +kernel) rfl (by decide) ?_
  refine x_icmp (k := 2) (tg := 14) (np := 5) (by decide +kernel) (by decide) la1 (by decide) (fun q11 => ?_) (fun q12 => ?_)
  · have q11 : a1 < 2147483648 := q11
    refine x_const (np := 15) (x := 9223372039002259456) (a := 2147483648) (by decide +kernel) (by decide) (by decide) ?_
    refine x_retI (np := 16) (x := 0) (by decide +kernel) (by decide) (Or.inr ⟨by decide +kernel, by omega, by omega⟩) ⟨_, rfl, (by decide), ?_⟩
    refine x_ifz (k := 1) (tg := 20) (np := 16) (by decide +kernel) (by decide) (by decide) (fun q13 => ?_) (fun q14 => ?_)
    · have q13 : 2147483648 ≠ 2147483648 := q13
      exfalso; omega
    have q14 : ¬ (2147483648 ≠ 2147483648) := q14
    refine x_const (np := 17) (x := 9223372043297226753) (a := 2147483649) (by decide +kernel) (by decide) (by decide) ?_
    refine x_goto (np := 20) (x := 21) (by decide +kernel) ?_
    refine x_retI (np := 22) (x := 0) (by decide +kernel) (by decide) (Or.inr ⟨by decide +kernel, by omega, by omega⟩) ⟨_, rfl, (by decide), ?_⟩
    refine x_retI (np := 7) (x := 0) (by decide +kernel) (by decide) (Or.inr ⟨by decide +kernel, by omega, by omega⟩) ⟨_, rfl, (by decide), ?_⟩
    refine x_ifz (k := 1) (tg := 27) (np := 14) (by decide +kernel) (by decide) (by decide) (fun q15 => ?_) (fun q16 => ?_)
    · have q15 : 2147483649 ≠ 2147483648 := q15
      refine x_const (np := 28) (x := 9223372043297226753) (a := 2147483649) (by decide +kernel) (by decide) (by decide) ?_
      refine x_goto (np := 31) (x := 32) (by decide +kernel) ?_
      refine x_const (np := 33) (x := 9223372043297226753) (a := 2147483649) (by decide +kernel) (by decide) (by decide) ?_
      refine x_nI (t := 6) (mj := 152) (n := 3) (rc := 12) (ml := 3) (nr := 0) (np := 36) (as := [x_r 75, iv_c 2147483649, iv_c 2147483649]) (rest := []) (lo1 := [x_r 75, iv_c 2147483649, iv_c 2147483649]) (by decide +kernel) (by decide) (by decide +kernel) (x_rb_of (by decide +kernel)) rfl rfl (x_wr (by decide) (x_wi (by decide) (x_wi (by decide) x_wn))) x_wn (by decide) rfl ?_
      refine x_iload (np := 1) (x := 1) (by decide +kernel) rfl (by decide) ?_
      refine x_ifz (k := 0) (tg := 9) (np := 4) (by decide +kernel) (by decide) (by decide) (fun q17 => ?_) (fun q18 => ?_)
      · have q17 : 2147483649 = 2147483648 := q17
        exfalso; omega
      have q18 : ¬ (2147483649 = 2147483648) := q18
      refine x_aload (np := 5) (x := 0) (by decide +kernel) rfl (x_nc_le (by decide)) ?_
      refine x_iload (np := 6) (x := 2) (by decide +kernel) rfl (by decide) ?_
      refine x_putI (np := 9) (x := 704) (f := 0) (by decide +kernel) (by decide +kernel) (by decide) (Or.inl (by decide)) ?_
      have j20 := jU (e := 0) (v := 2147483649) 0 j2 rg_75_0_0_1 (by omega) (by omega) (by omega)
      have f22 := jF (e := 0) (v := 2147483649) 0 f4 rg_75_0_0_1 (by omega) (by omega) (by decide)
      generalize e21 : x_up h1 75 0 2147483649 = h19 at j20 f22 ⊢
      refine x_iload (np := 10) (x := 1) (by decide +kernel) rfl (by decide) ?_
      refine x_retI (np := 11) (x := 0) (by decide +kernel) (by decide) (Or.inr ⟨by decide +kernel, by omega, by omega⟩) ⟨_, rfl, (by decide), ?_⟩
      refine x_ifz (k := 0) (tg := 41) (np := 39) (by decide +kernel) (by decide) (by decide) (fun q23 => ?_) (fun q24 => ?_)
      · have q23 : 2147483649 = 2147483648 := q23
        exfalso; omega
      have q24 : ¬ (2147483649 = 2147483648) := q24
      refine x_const (np := 40) (x := 9223372039002259456) (a := 2147483648) (by decide +kernel) (by decide) (by decide) ?_
      have m26 : WT 76 h1 := by rw [← e3]; exact WT.oth hW hJ (by decide)
      have m25 : WT 76 h19 := by rw [← e21]; exact WT.oth m26 j2 (by decide)
      refine x_retI (np := 41) (x := 0) (by decide +kernel) (by decide) (Or.inl (by decide +kernel)) ⟨_, rfl, (by decide), ?_⟩
      exact ⟨j20, f22, (by omega), m25⟩
    have q16 : ¬ (2147483649 ≠ 2147483648) := q16
    exfalso; omega
  have q12 : ¬ (a1 < 2147483648) := q12
  refine x_iload (np := 6) (x := 0) (by decide +kernel) rfl la1 ?_
  refine x_iload (np := 7) (x := 2) (by decide +kernel) rfl (by omega) ?_
  refine x_icmp (k := 4) (tg := 14) (np := 10) (by decide +kernel) (by decide) la1 (by omega) (fun q27 => ?_) (fun q28 => ?_)
  · have q27 : v9 < a1 := q27
    refine x_const (np := 15) (x := 9223372039002259456) (a := 2147483648) (by decide +kernel) (by decide) (by decide) ?_
    refine x_retI (np := 16) (x := 0) (by decide +kernel) (by decide) (Or.inr ⟨by decide +kernel, by omega, by omega⟩) ⟨_, rfl, (by decide), ?_⟩
    refine x_ifz (k := 1) (tg := 20) (np := 16) (by decide +kernel) (by decide) (by decide) (fun q29 => ?_) (fun q30 => ?_)
    · have q29 : 2147483648 ≠ 2147483648 := q29
      exfalso; omega
    have q30 : ¬ (2147483648 ≠ 2147483648) := q30
    refine x_const (np := 17) (x := 9223372043297226753) (a := 2147483649) (by decide +kernel) (by decide) (by decide) ?_
    refine x_goto (np := 20) (x := 21) (by decide +kernel) ?_
    refine x_retI (np := 22) (x := 0) (by decide +kernel) (by decide) (Or.inr ⟨by decide +kernel, by omega, by omega⟩) ⟨_, rfl, (by decide), ?_⟩
    refine x_retI (np := 7) (x := 0) (by decide +kernel) (by decide) (Or.inr ⟨by decide +kernel, by omega, by omega⟩) ⟨_, rfl, (by decide), ?_⟩
    refine x_ifz (k := 1) (tg := 27) (np := 14) (by decide +kernel) (by decide) (by decide) (fun q31 => ?_) (fun q32 => ?_)
    · have q31 : 2147483649 ≠ 2147483648 := q31
      refine x_const (np := 28) (x := 9223372043297226753) (a := 2147483649) (by decide +kernel) (by decide) (by decide) ?_
      refine x_goto (np := 31) (x := 32) (by decide +kernel) ?_
      refine x_const (np := 33) (x := 9223372043297226753) (a := 2147483649) (by decide +kernel) (by decide) (by decide) ?_
      refine x_nI (t := 6) (mj := 152) (n := 3) (rc := 12) (ml := 3) (nr := 0) (np := 36) (as := [x_r 75, iv_c 2147483649, iv_c 2147483649]) (rest := []) (lo1 := [x_r 75, iv_c 2147483649, iv_c 2147483649]) (by decide +kernel) (by decide) (by decide +kernel) (x_rb_of (by decide +kernel)) rfl rfl (x_wr (by decide) (x_wi (by decide) (x_wi (by decide) x_wn))) x_wn (by decide) rfl ?_
      refine x_iload (np := 1) (x := 1) (by decide +kernel) rfl (by decide) ?_
      refine x_ifz (k := 0) (tg := 9) (np := 4) (by decide +kernel) (by decide) (by decide) (fun q33 => ?_) (fun q34 => ?_)
      · have q33 : 2147483649 = 2147483648 := q33
        exfalso; omega
      have q34 : ¬ (2147483649 = 2147483648) := q34
      refine x_aload (np := 5) (x := 0) (by decide +kernel) rfl (x_nc_le (by decide)) ?_
      refine x_iload (np := 6) (x := 2) (by decide +kernel) rfl (by decide) ?_
      refine x_putI (np := 9) (x := 704) (f := 0) (by decide +kernel) (by decide +kernel) (by decide) (Or.inl (by decide)) ?_
      have j36 := jU (e := 0) (v := 2147483649) 0 j2 rg_75_0_0_1 (by omega) (by omega) (by omega)
      have f38 := jF (e := 0) (v := 2147483649) 0 f4 rg_75_0_0_1 (by omega) (by omega) (by decide)
      generalize e37 : x_up h1 75 0 2147483649 = h35 at j36 f38 ⊢
      refine x_iload (np := 10) (x := 1) (by decide +kernel) rfl (by decide) ?_
      refine x_retI (np := 11) (x := 0) (by decide +kernel) (by decide) (Or.inr ⟨by decide +kernel, by omega, by omega⟩) ⟨_, rfl, (by decide), ?_⟩
      refine x_ifz (k := 0) (tg := 41) (np := 39) (by decide +kernel) (by decide) (by decide) (fun q39 => ?_) (fun q40 => ?_)
      · have q39 : 2147483649 = 2147483648 := q39
        exfalso; omega
      have q40 : ¬ (2147483649 = 2147483648) := q40
      refine x_const (np := 40) (x := 9223372039002259456) (a := 2147483648) (by decide +kernel) (by decide) (by decide) ?_
      have m42 : WT 76 h1 := by rw [← e3]; exact WT.oth hW hJ (by decide)
      have m41 : WT 76 h35 := by rw [← e37]; exact WT.oth m42 j2 (by decide)
      refine x_retI (np := 41) (x := 0) (by decide +kernel) (by decide) (Or.inl (by decide +kernel)) ⟨_, rfl, (by decide), ?_⟩
      exact ⟨j36, f38, (by omega), m41⟩
    have q32 : ¬ (2147483649 ≠ 2147483648) := q32
    exfalso; omega
  have q28 : ¬ (v9 < a1) := q28
  refine x_const (np := 11) (x := 9223372043297226753) (a := 2147483649) (by decide +kernel) (by decide) (by decide) ?_
  refine x_goto (np := 14) (x := 15) (by decide +kernel) ?_
  refine x_retI (np := 16) (x := 0) (by decide +kernel) (by decide) (Or.inr ⟨by decide +kernel, by omega, by omega⟩) ⟨_, rfl, (by decide), ?_⟩
  refine x_ifz (k := 1) (tg := 20) (np := 16) (by decide +kernel) (by decide) (by decide) (fun q43 => ?_) (fun q44 => ?_)
  · have q43 : 2147483649 ≠ 2147483648 := q43
    refine x_const (np := 21) (x := 9223372039002259456) (a := 2147483648) (by decide +kernel) (by decide) (by decide) ?_
    refine x_retI (np := 22) (x := 0) (by decide +kernel) (by decide) (Or.inr ⟨by decide +kernel, by omega, by omega⟩) ⟨_, rfl, (by decide), ?_⟩
    refine x_retI (np := 7) (x := 0) (by decide +kernel) (by decide) (Or.inr ⟨by decide +kernel, by omega, by omega⟩) ⟨_, rfl, (by decide), ?_⟩
    refine x_ifz (k := 1) (tg := 27) (np := 14) (by decide +kernel) (by decide) (by decide) (fun q45 => ?_) (fun q46 => ?_)
    · have q45 : 2147483648 ≠ 2147483648 := q45
      exfalso; omega
    have q46 : ¬ (2147483648 ≠ 2147483648) := q46
    refine x_iload (np := 15) (x := 2) (by decide +kernel) rfl la2 ?_
    refine x_const (np := 16) (x := 9223372034707292159) (a := 2147483647) (by decide +kernel) (by decide) (by decide) ?_
    refine x_icmp (k := 0) (tg := 31) (np := 19) (by decide +kernel) (by decide) la2 (by decide) (fun q47 => ?_) (fun q48 => ?_)
    · have q47 : a2 = 2147483647 := q47
      refine x_const (np := 32) (x := 9223372039002259456) (a := 2147483648) (by decide +kernel) (by decide) (by decide) ?_
      refine x_const (np := 33) (x := 9223372043297226753) (a := 2147483649) (by decide +kernel) (by decide) (by decide) ?_
      refine x_nI (t := 6) (mj := 152) (n := 3) (rc := 12) (ml := 3) (nr := 0) (np := 36) (as := [x_r 75, iv_c 2147483648, iv_c 2147483649]) (rest := []) (lo1 := [x_r 75, iv_c 2147483648, iv_c 2147483649]) (by decide +kernel) (by decide) (by decide +kernel) (x_rb_of (by decide +kernel)) rfl rfl (x_wr (by decide) (x_wi (by decide) (x_wi (by decide) x_wn))) x_wn (by decide) rfl ?_
      refine x_iload (np := 1) (x := 1) (by decide +kernel) rfl (by decide) ?_
      refine x_ifz (k := 0) (tg := 9) (np := 4) (by decide +kernel) (by decide) (by decide) (fun q49 => ?_) (fun q50 => ?_)
      · have q49 : 2147483648 = 2147483648 := q49
        refine x_iload (np := 10) (x := 1) (by decide +kernel) rfl (by decide) ?_
        refine x_retI (np := 11) (x := 0) (by decide +kernel) (by decide) (Or.inr ⟨by decide +kernel, by omega, by omega⟩) ⟨_, rfl, (by decide), ?_⟩
        refine x_ifz (k := 0) (tg := 41) (np := 39) (by decide +kernel) (by decide) (by decide) (fun q51 => ?_) (fun q52 => ?_)
        · have q51 : 2147483648 = 2147483648 := q51
          refine x_aload (np := 42) (x := 0) (by decide +kernel) rfl (x_nc_le (by decide)) ?_
          refine x_iload (np := 43) (x := 1) (by decide +kernel) rfl la1 ?_
          refine x_const (np := 44) (x := 9223372051887161347) (a := 2147483651) (by decide +kernel) (by decide) (by decide) ?_
          refine x_nI (t := 6) (mj := 162) (n := 3) (rc := 12) (ml := 3) (nr := 0) (np := 47) (as := [x_r 75, iv_c a1, iv_c 2147483651]) (rest := []) (lo1 := [x_r 75, iv_c a1, iv_c 2147483651]) (by decide +kernel) (by decide) (by decide +kernel) (x_rb_of (by decide +kernel)) rfl rfl (x_wr (by decide) (x_wi la1 (x_wi (by decide) x_wn))) x_wn (by decide) rfl ?_
          refine x_aload (np := 1) (x := 0) (by decide +kernel) rfl (x_nc_le (by decide)) ?_
          have q53 : h1 75 1 = 76 := by have z := jB (e := 1) 0 j2 rg_75_1_0_1 (by decide) (by decide); omega
          refine x_getR (np := 4) (x := 705) (f := 1) (q := 76) (by decide +kernel) (by decide) (by decide +kernel) q53 ?_
          refine x_const (np := 7) (x := 9223372726197026976) (a := 2147483808) (by decide +kernel) (by decide) (by decide) ?_
          refine x_const (np := 8) (x := 9223372056182128644) (a := 2147483652) (by decide +kernel) (by decide) (by decide) ?_
          refine x_iload (np := 9) (x := 1) (by decide +kernel) rfl la1 ?_
          obtain ⟨u54, q55⟩ : ∃ z, a1 = 2147483648 + z := ⟨a1 - 2147483648, by omega⟩
          refine x_imul (np := 10) (x := 0) (i := 4) (j := u54) (v := (2147483648 + 4 * u54)) (by decide +kernel) (by omega) (by omega) (by omega) (by omega) (by decide) la1 ?_
          refine x_iadd (np := 11) (x := 0) (v := (2147483808 + 4 * u54)) (by decide +kernel) (by decide) (by omega) (by omega) (by omega) ?_
          refine x_iload (np := 12) (x := 2) (by decide +kernel) rfl (by decide) ?_
          refine x_iadd (np := 13) (x := 0) (v := (2147483811 + 4 * u54)) (by decide +kernel) (by omega) (by decide) (by omega) (by omega) ?_
          have q57 : h1 76 (163 + 4 * u54) = h 76 (163 + 4 * u54) := by rw [← e3]; exact x_up_k (by decide)
          refine x_aldC (np := 14) (x := 0) (n := 1952) (i := (163 + 4 * u54)) (q := ((h 76 (163 + 4 * u54)))) (by decide +kernel) (by decide +kernel) (by omega) (by omega) (by decide) q57 (fun l58 => ?_)
          refine x_retI (np := 15) (x := 0) (by decide +kernel) l58 (Or.inl (by decide +kernel)) ⟨_, rfl, l58, ?_⟩
          refine x_istore (np := 48) (x := 3) (lo' := [x_r 75, iv_c a1, iv_c a2, iv_c ((h 76 (163 + 4 * u54)))]) (by decide +kernel) l58 (Nat.le_of_ble_eq_true rfl) rfl ?_
          refine x_aload (np := 49) (x := 0) (by decide +kernel) rfl (x_nc_le (by decide)) ?_
          have q59 : h1 75 1 = 76 := by have z := jB (e := 1) 0 j2 rg_75_1_0_1 (by decide) (by decide); omega
          refine x_getR (np := 52) (x := 705) (f := 1) (q := 76) (by decide +kernel) (by decide) (by decide +kernel) q59 ?_
          refine x_const (np := 55) (x := 9223372726197026976) (a := 2147483808) (by decide +kernel) (by decide) (by decide) ?_
          refine x_const (np := 56) (x := 9223372056182128644) (a := 2147483652) (by decide +kernel) (by decide) (by decide) ?_
          refine x_iload (np := 57) (x := 1) (by decide +kernel) rfl la1 ?_
          refine x_imul (np := 58) (x := 0) (i := 4) (j := u54) (v := (2147483648 + 4 * u54)) (by decide +kernel) (by omega) (by omega) (by omega) (by omega) (by decide) la1 ?_
          refine x_iadd (np := 59) (x := 0) (v := (2147483808 + 4 * u54)) (by decide +kernel) (by decide) (by omega) (by omega) (by omega) ?_
          refine x_const (np := 60) (x := 9223372051887161347) (a := 2147483651) (by decide +kernel) (by decide) (by decide) ?_
          refine x_iadd (np := 61) (x := 0) (v := (2147483811 + 4 * u54)) (by decide +kernel) (by omega) (by decide) (by omega) (by omega) ?_
          refine x_iload (np := 62) (x := 2) (by decide +kernel) rfl la2 ?_
          refine x_ast (np := 63) (x := 0) (kd := 1) (n := 1952) (i := (163 + 4 * u54)) (by decide +kernel) (Or.inl rfl) (by decide +kernel) (by omega) (by omega) (by decide) la2 (fun z => absurd z (by decide)) ?_
          have j62 := jU (e := (163 + 4 * u54)) (v := a2) u54 j2 rg_76_163_4_10 (by omega) (by omega) (by omega)
          have f64 := jF (e := (163 + 4 * u54)) (v := a2) u54 f4 rg_76_163_4_10 (by omega) (by omega) (by decide)
          generalize e63 : x_up h1 76 (163 + 4 * u54) a2 = h61 at j62 f64 ⊢
          refine x_iload (np := 64) (x := 3) (by decide +kernel) rfl l58 ?_
          have m66 : WT 76 h1 := by rw [← e3]; exact WT.oth hW hJ (by decide)
          have m65 : WT 76 h61 := by rw [← e63]; exact WT.up m66 j2 (by omega)
          refine x_retI (np := 65) (x := 0) (by decide +kernel) l58 (Or.inl (by decide +kernel)) ⟨_, rfl, l58, ?_⟩
          exact ⟨j62, f64, (by omega), m65⟩
        have q52 : ¬ (2147483648 = 2147483648) := q52
        exfalso; omega
      have q50 : ¬ (2147483648 = 2147483648) := q50
      exfalso; omega
    have q48 : ¬ (a2 = 2147483647) := q48
    refine x_aload (np := 20) (x := 0) (by decide +kernel) rfl (x_nc_le (by decide)) ?_
    refine x_iload (np := 21) (x := 2) (by decide +kernel) rfl la2 ?_
    refine x_nI (t := 6) (mj := 159) (n := 2) (rc := 12) (ml := 2) (nr := 1) (np := 24) (as := [x_r 75, iv_c a2]) (rest := [x_r 75]) (lo1 := [x_r 75, iv_c a2]) (by decide +kernel) (by decide) (by decide +kernel) (x_rb_of (by decide +kernel)) rfl rfl (x_wr (by decide) (x_wi la2 x_wn)) (x_wr (by decide) x_wn) (by decide) rfl ?_
    refine x_aload (np := 1) (x := 0) (by decide +kernel) rfl (x_nc_le (by decide)) ?_
    refine x_iload (np := 2) (x := 1) (by decide +kernel) rfl la2 ?_
    refine x_const (np := 3) (x := 9223372039002259456) (a := 2147483648) (by decide +kernel) (by decide) (by decide) ?_
    refine x_nI (t := 6) (mj := 158) (n := 3) (rc := 12) (ml := 3) (nr := 0) (np := 6) (as := [x_r 75, iv_c a2, iv_c 2147483648]) (rest := []) (lo1 := [x_r 75, iv_c a2, iv_c 2147483648]) (by decide +kernel) (by decide) (by decide +kernel) (x_rb_of (by decide +kernel)) rfl rfl (x_wr (by decide) (x_wi la2 (x_wi (by decide) x_wn))) x_wn (by decide) rfl ?_
    refine x_iload (np := 1) (x := 1) (by decide +kernel) rfl la2 ?_
    refine x_const (np := 2) (x := 9223372039002259456) (a := 2147483648) (by decide +kernel) (by decide) (by decide) ?_
    refine x_aload (np := 3) (x := 0) (by decide +kernel) rfl (x_nc_le (by decide)) ?_
    have q67 : h1 75 1 = 76 := by have z := jB (e := 1) 0 j2 rg_75_1_0_1 (by decide) (by decide); omega
    refine x_getR (np := 6) (x := 705) (f := 1) (q := 76) (by decide +kernel) (by decide) (by decide +kernel) q67 ?_
    refine x_iload (np := 7) (x := 2) (by decide +kernel) rfl (by decide) ?_
    have q68 : h1 76 0 = h 76 0 := by rw [← e3]; exact x_up_k (by decide)
    have b69 := jB (e := 0) 0 hJ rg_76_0_0_1 (by omega) (by omega)
    refine x_aldC (np := 8) (x := 0) (n := 1952) (i := 0) (q := (h 76 0)) (by decide +kernel) (by decide +kernel) (by omega) (by omega) (by decide) q68 (fun l70 => ?_)
    refine x_const (np := 9) (x := 9223372043297226753) (a := 2147483649) (by decide +kernel) (by decide) (by decide) ?_
    obtain ⟨v71, q72⟩ : ∃ z, z + 2147483649 = (h 76 0) + 2147483648 := ⟨(h 76 0) + 2147483648 - 2147483649, by omega⟩
    refine x_isub (np := 10) (x := 0) (v := v71) (by decide +kernel) l70 (by decide) (by omega) (by omega) ?_
    refine x_nI (t := 0) (mj := 153) (n := 3) (rc := 0) (ml := 3) (nr := 0) (np := 13) (as := [iv_c a2, iv_c 2147483648, iv_c v71]) (rest := []) (lo1 := [iv_c a2, iv_c 2147483648, iv_c v71]) (by decide +kernel) (by decide) (by decide +kernel) (Or.inl rfl) rfl rfl (x_wi la2 (x_wi (by decide) (x_wi (by omega) x_wn))) x_wn (by decide) rfl ?_
    refine x_iload (np := 1) (x := 0) (by decide +kernel) rfl la2 ?_
    refine x_iload (np := 2) (x := 1) (by decide +kernel) rfl (by decide) ?_
    refine x_icmp (k := 2) (tg := 14) (np := 5) (by decide +kernel) (by decide) la2 (by decide) (fun q73 => ?_) (fun q74 => ?_)
    · have q73 : a2 < 2147483648 := q73
      refine x_const (np := 15) (x := 9223372039002259456) (a := 2147483648) (by decide +kernel) (by decide) (by decide) ?_
      refine x_retI (np := 16) (x := 0) (by decide +kernel) (by decide) (Or.inr ⟨by decide +kernel, by omega, by omega⟩) ⟨_, rfl, (by decide), ?_⟩
      refine x_ifz (k := 1) (tg := 20) (np := 16) (by decide +kernel) (by decide) (by decide) (fun q75 => ?_) (fun q76 => ?_)
      · have q75 : 2147483648 ≠ 2147483648 := q75
        exfalso; omega
      have q76 : ¬ (2147483648 ≠ 2147483648) := q76
      refine x_const (np := 17) (x := 9223372043297226753) (a := 2147483649) (by decide +kernel) (by decide) (by decide) ?_
      refine x_goto (np := 20) (x := 21) (by decide +kernel) ?_
      refine x_retI (np := 22) (x := 0) (by decide +kernel) (by decide) (Or.inr ⟨by decide +kernel, by omega, by omega⟩) ⟨_, rfl, (by decide), ?_⟩
      refine x_retI (np := 7) (x := 0) (by decide +kernel) (by decide) (Or.inr ⟨by decide +kernel, by omega, by omega⟩) ⟨_, rfl, (by decide), ?_⟩
      refine x_ifz (k := 0) (tg := 31) (np := 27) (by decide +kernel) (by decide) (by decide) (fun q77 => ?_) (fun q78 => ?_)
      · have q77 : 2147483649 = 2147483648 := q77
        exfalso; omega
      have q78 : ¬ (2147483649 = 2147483648) := q78
      refine x_const (np := 28) (x := 9223372043297226753) (a := 2147483649) (by decide +kernel) (by decide) (by decide) ?_
      refine x_goto (np := 31) (x := 32) (by decide +kernel) ?_
      refine x_const (np := 33) (x := 9223372043297226753) (a := 2147483649) (by decide +kernel) (by decide) (by decide) ?_
      refine x_nI (t := 6) (mj := 152) (n := 3) (rc := 12) (ml := 3) (nr := 0) (np := 36) (as := [x_r 75, iv_c 2147483649, iv_c 2147483649]) (rest := []) (lo1 := [x_r 75, iv_c 2147483649, iv_c 2147483649]) (by decide +kernel) (by decide) (by decide +kernel) (x_rb_of (by decide +kernel)) rfl rfl (x_wr (by decide) (x_wi (by decide) (x_wi (by decide) x_wn))) x_wn (by decide) rfl ?_
      refine x_iload (np := 1) (x := 1) (by decide +kernel) rfl (by decide) ?_
      refine x_ifz (k := 0) (tg := 9) (np := 4) (by decide +kernel) (by decide) (by decide) (fun q79 => ?_) (fun q80 => ?_)
      · have q79 : 2147483649 = 2147483648 := q79
        exfalso; omega
      have q80 : ¬ (2147483649 = 2147483648) := q80
      refine x_aload (np := 5) (x := 0) (by decide +kernel) rfl (x_nc_le (by decide)) ?_
      refine x_iload (np := 6) (x := 2) (by decide +kernel) rfl (by decide) ?_
      refine x_putI (np := 9) (x := 704) (f := 0) (by decide +kernel) (by decide +kernel) (by decide) (Or.inl (by decide)) ?_
      have j82 := jU (e := 0) (v := 2147483649) 0 j2 rg_75_0_0_1 (by omega) (by omega) (by omega)
      have f84 := jF (e := 0) (v := 2147483649) 0 f4 rg_75_0_0_1 (by omega) (by omega) (by decide)
      generalize e83 : x_up h1 75 0 2147483649 = h81 at j82 f84 ⊢
      refine x_iload (np := 10) (x := 1) (by decide +kernel) rfl (by decide) ?_
      refine x_retI (np := 11) (x := 0) (by decide +kernel) (by decide) (Or.inr ⟨by decide +kernel, by omega, by omega⟩) ⟨_, rfl, (by decide), ?_⟩
      refine x_ifz (k := 0) (tg := 41) (np := 39) (by decide +kernel) (by decide) (by decide) (fun q85 => ?_) (fun q86 => ?_)
      · have q85 : 2147483649 = 2147483648 := q85
        exfalso; omega
      have q86 : ¬ (2147483649 = 2147483648) := q86
      refine x_const (np := 40) (x := 9223372039002259456) (a := 2147483648) (by decide +kernel) (by decide) (by decide) ?_
      have m88 : WT 76 h1 := by rw [← e3]; exact WT.oth hW hJ (by decide)
      have m87 : WT 76 h81 := by rw [← e83]; exact WT.oth m88 j2 (by decide)
      refine x_retI (np := 41) (x := 0) (by decide +kernel) (by decide) (Or.inl (by decide +kernel)) ⟨_, rfl, (by decide), ?_⟩
      exact ⟨j82, f84, (by omega), m87⟩
    have q74 : ¬ (a2 < 2147483648) := q74
    refine x_iload (np := 6) (x := 0) (by decide +kernel) rfl la2 ?_
    refine x_iload (np := 7) (x := 2) (by decide +kernel) rfl (by omega) ?_
    refine x_icmp (k := 4) (tg := 14) (np := 10) (by decide +kernel) (by decide) la2 (by omega) (fun q89 => ?_) (fun q90 => ?_)
    · have q89 : v71 < a2 := q89
      refine x_const (np := 15) (x := 9223372039002259456) (a := 2147483648) (by decide +kernel) (by decide) (by decide) ?_
      refine x_retI (np := 16) (x := 0) (by decide +kernel) (by decide) (Or.inr ⟨by decide +kernel, by omega, by omega⟩) ⟨_, rfl, (by decide), ?_⟩
      refine x_ifz (k := 1) (tg := 20) (np := 16) (by decide +kernel) (by decide) (by decide) (fun q91 => ?_) (fun q92 => ?_)
      · have q91 : 2147483648 ≠ 2147483648 := q91
        exfalso; omega
      have q92 : ¬ (2147483648 ≠ 2147483648) := q92
      refine x_const (np := 17) (x := 9223372043297226753) (a := 2147483649) (by decide +kernel) (by decide) (by decide) ?_
      refine x_goto (np := 20) (x := 21) (by decide +kernel) ?_
      refine x_retI (np := 22) (x := 0) (by decide +kernel) (by decide) (Or.inr ⟨by decide +kernel, by omega, by omega⟩) ⟨_, rfl, (by decide), ?_⟩
      refine x_retI (np := 7) (x := 0) (by decide +kernel) (by decide) (Or.inr ⟨by decide +kernel, by omega, by omega⟩) ⟨_, rfl, (by decide), ?_⟩
      refine x_ifz (k := 0) (tg := 31) (np := 27) (by decide +kernel) (by decide) (by decide) (fun q93 => ?_) (fun q94 => ?_)
      · have q93 : 2147483649 = 2147483648 := q93
        exfalso; omega
      have q94 : ¬ (2147483649 = 2147483648) := q94
      refine x_const (np := 28) (x := 9223372043297226753) (a := 2147483649) (by decide +kernel) (by decide) (by decide) ?_
      refine x_goto (np := 31) (x := 32) (by decide +kernel) ?_
      refine x_const (np := 33) (x := 9223372043297226753) (a := 2147483649) (by decide +kernel) (by decide) (by decide) ?_
      refine x_nI (t := 6) (mj := 152) (n := 3) (rc := 12) (ml := 3) (nr := 0) (np := 36) (as := [x_r 75, iv_c 2147483649, iv_c 2147483649]) (rest := []) (lo1 := [x_r 75, iv_c 2147483649, iv_c 2147483649]) (by decide +kernel) (by decide) (by decide +kernel) (x_rb_of (by decide +kernel)) rfl rfl (x_wr (by decide) (x_wi (by decide) (x_wi (by decide) x_wn))) x_wn (by decide) rfl ?_
      refine x_iload (np := 1) (x := 1) (by decide +kernel) rfl (by decide) ?_
      refine x_ifz (k := 0) (tg := 9) (np := 4) (by decide +kernel) (by decide) (by decide) (fun q95 => ?_) (fun q96 => ?_)
      · have q95 : 2147483649 = 2147483648 := q95
        exfalso; omega
      have q96 : ¬ (2147483649 = 2147483648) := q96
      refine x_aload (np := 5) (x := 0) (by decide +kernel) rfl (x_nc_le (by decide)) ?_
      refine x_iload (np := 6) (x := 2) (by decide +kernel) rfl (by decide) ?_
      refine x_putI (np := 9) (x := 704) (f := 0) (by decide +kernel) (by decide +kernel) (by decide) (Or.inl (by decide)) ?_
      have j98 := jU (e := 0) (v := 2147483649) 0 j2 rg_75_0_0_1 (by omega) (by omega) (by omega)
      have f100 := jF (e := 0) (v := 2147483649) 0 f4 rg_75_0_0_1 (by omega) (by omega) (by decide)
      generalize e99 : x_up h1 75 0 2147483649 = h97 at j98 f100 ⊢
      refine x_iload (np := 10) (x := 1) (by decide +kernel) rfl (by decide) ?_
      refine x_retI (np := 11) (x := 0) (by decide +kernel) (by decide) (Or.inr ⟨by decide +kernel, by omega, by omega⟩) ⟨_, rfl, (by decide), ?_⟩
      refine x_ifz (k := 0) (tg := 41) (np := 39) (by decide +kernel) (by decide) (by decide) (fun q101 => ?_) (fun q102 => ?_)
      · have q101 : 2147483649 = 2147483648 := q101
        exfalso; omega
      have q102 : ¬ (2147483649 = 2147483648) := q102
      refine x_const (np := 40) (x := 9223372039002259456) (a := 2147483648) (by decide +kernel) (by decide) (by decide) ?_
      have m104 : WT 76 h1 := by rw [← e3]; exact WT.oth hW hJ (by decide)
      have m103 : WT 76 h97 := by rw [← e99]; exact WT.oth m104 j2 (by decide)
      refine x_retI (np := 41) (x := 0) (by decide +kernel) (by decide) (Or.inl (by decide +kernel)) ⟨_, rfl, (by decide), ?_⟩
      exact ⟨j98, f100, (by omega), m103⟩
    have q90 : ¬ (v71 < a2) := q90
    refine x_const (np := 11) (x := 9223372043297226753) (a := 2147483649) (by decide +kernel) (by decide) (by decide) ?_
    refine x_goto (np := 14) (x := 15) (by decide +kernel) ?_
    refine x_retI (np := 16) (x := 0) (by decide +kernel) (by decide) (Or.inr ⟨by decide +kernel, by omega, by omega⟩) ⟨_, rfl, (by decide), ?_⟩
    refine x_ifz (k := 1) (tg := 20) (np := 16) (by decide +kernel) (by decide) (by decide) (fun q105 => ?_) (fun q106 => ?_)
    · have q105 : 2147483649 ≠ 2147483648 := q105
      refine x_const (np := 21) (x := 9223372039002259456) (a := 2147483648) (by decide +kernel) (by decide) (by decide) ?_
      refine x_retI (np := 22) (x := 0) (by decide +kernel) (by decide) (Or.inr ⟨by decide +kernel, by omega, by omega⟩) ⟨_, rfl, (by decide), ?_⟩
      refine x_retI (np := 7) (x := 0) (by decide +kernel) (by decide) (Or.inr ⟨by decide +kernel, by omega, by omega⟩) ⟨_, rfl, (by decide), ?_⟩
      refine x_ifz (k := 0) (tg := 31) (np := 27) (by decide +kernel) (by decide) (by decide) (fun q107 => ?_) (fun q108 => ?_)
      · have q107 : 2147483648 = 2147483648 := q107
        refine x_const (np := 32) (x := 9223372039002259456) (a := 2147483648) (by decide +kernel) (by decide) (by decide) ?_
        refine x_const (np := 33) (x := 9223372043297226753) (a := 2147483649) (by decide +kernel) (by decide) (by decide) ?_
        refine x_nI (t := 6) (mj := 152) (n := 3) (rc := 12) (ml := 3) (nr := 0) (np := 36) (as := [x_r 75, iv_c 2147483648, iv_c 2147483649]) (rest := []) (lo1 := [x_r 75, iv_c 2147483648, iv_c 2147483649]) (by decide +kernel) (by decide) (by decide +kernel) (x_rb_of (by decide +kernel)) rfl rfl (x_wr (by decide) (x_wi (by decide) (x_wi (by decide) x_wn))) x_wn (by decide) rfl ?_
        refine x_iload (np := 1) (x := 1) (by decide +kernel) rfl (by decide) ?_
        refine x_ifz (k := 0) (tg := 9) (np := 4) (by decide +kernel) (by decide) (by decide) (fun q109 => ?_) (fun q110 => ?_)
        · have q109 : 2147483648 = 2147483648 := q109
          refine x_iload (np := 10) (x := 1) (by decide +kernel) rfl (by decide) ?_
          refine x_retI (np := 11) (x := 0) (by decide +kernel) (by decide) (Or.inr ⟨by decide +kernel, by omega, by omega⟩) ⟨_, rfl, (by decide), ?_⟩
          refine x_ifz (k := 0) (tg := 41) (np := 39) (by decide +kernel) (by decide) (by decide) (fun q111 => ?_) (fun q112 => ?_)
          · have q111 : 2147483648 = 2147483648 := q111
            refine x_aload (np := 42) (x := 0) (by decide +kernel) rfl (x_nc_le (by decide)) ?_
            refine x_iload (np := 43) (x := 1) (by decide +kernel) rfl la1 ?_
            refine x_const (np := 44) (x := 9223372051887161347) (a := 2147483651) (by decide +kernel) (by decide) (by decide) ?_
            refine x_nI (t := 6) (mj := 162) (n := 3) (rc := 12) (ml := 3) (nr := 0) (np := 47) (as := [x_r 75, iv_c a1, iv_c 2147483651]) (rest := []) (lo1 := [x_r 75, iv_c a1, iv_c 2147483651]) (by decide +kernel) (by decide) (by decide +kernel) (x_rb_of (by decide +kernel)) rfl rfl (x_wr (by decide) (x_wi la1 (x_wi (by decide) x_wn))) x_wn (by decide) rfl ?_
            refine x_aload (np := 1) (x := 0) (by decide +kernel) rfl (x_nc_le (by decide)) ?_
            have q113 : h1 75 1 = 76 := by have z := jB (e := 1) 0 j2 rg_75_1_0_1 (by decide) (by decide); omega
            refine x_getR (np := 4) (x := 705) (f := 1) (q := 76) (by decide +kernel) (by decide) (by decide +kernel) q113 ?_
            refine x_const (np := 7) (x := 9223372726197026976) (a := 2147483808) (by decide +kernel) (by decide) (by decide) ?_
            refine x_const (np := 8) (x := 9223372056182128644) (a := 2147483652) (by decide +kernel) (by decide) (by decide) ?_
            refine x_iload (np := 9) (x := 1) (by decide +kernel) rfl la1 ?_
            obtain ⟨u114, q115⟩ : ∃ z, a1 = 2147483648 + z := ⟨a1 - 2147483648, by omega⟩
            refine x_imul (np := 10) (x := 0) (i := 4) (j := u114) (v := (2147483648 + 4 * u114)) (by decide +kernel) (by omega) (by omega) (by omega) (by omega) (by decide) la1 ?_
            refine x_iadd (np := 11) (x := 0) (v := (2147483808 + 4 * u114)) (by decide +kernel) (by decide) (by omega) (by omega) (by omega) ?_
            refine x_iload (np := 12) (x := 2) (by decide +kernel) rfl (by decide) ?_
            refine x_iadd (np := 13) (x := 0) (v := (2147483811 + 4 * u114)) (by decide +kernel) (by omega) (by decide) (by omega) (by omega) ?_
            have q117 : h1 76 (163 + 4 * u114) = h 76 (163 + 4 * u114) := by rw [← e3]; exact x_up_k (by decide)
            refine x_aldC (np := 14) (x := 0) (n := 1952) (i := (163 + 4 * u114)) (q := ((h 76 (163 + 4 * u114)))) (by decide +kernel) (by decide +kernel) (by omega) (by omega) (by decide) q117 (fun l118 => ?_)
            refine x_retI (np := 15) (x := 0) (by decide +kernel) l118 (Or.inl (by decide +kernel)) ⟨_, rfl, l118, ?_⟩
            refine x_istore (np := 48) (x := 3) (lo' := [x_r 75, iv_c a1, iv_c a2, iv_c ((h 76 (163 + 4 * u114)))]) (by decide +kernel) l118 (Nat.le_of_ble_eq_true rfl) rfl ?_
            refine x_aload (np := 49) (x := 0) (by decide +kernel) rfl (x_nc_le (by decide)) ?_
            have q119 : h1 75 1 = 76 := by have z := jB (e := 1) 0 j2 rg_75_1_0_1 (by decide) (by decide); omega
            refine x_getR (np := 52) (x := 705) (f := 1) (q := 76) (by decide +kernel) (by decide) (by decide +kernel) q119 ?_
            refine x_const (np := 55) (x := 9223372726197026976) (a := 2147483808) (by decide +kernel) (by decide) (by decide) ?_
            refine x_const (np := 56) (x := 9223372056182128644) (a := 2147483652) (by decide +kernel) (by decide) (by decide) ?_
            refine x_iload (np := 57) (x := 1) (by decide +kernel) rfl la1 ?_
            refine x_imul (np := 58) (x := 0) (i := 4) (j := u114) (v := (2147483648 + 4 * u114)) (by decide +kernel) (by omega) (by omega) (by omega) (by omega) (by decide) la1 ?_
            refine x_iadd (np := 59) (x := 0) (v := (2147483808 + 4 * u114)) (by decide +kernel) (by decide) (by omega) (by omega) (by omega) ?_
            refine x_const (np := 60) (x := 9223372051887161347) (a := 2147483651) (by decide +kernel) (by decide) (by decide) ?_
            refine x_iadd (np := 61) (x := 0) (v := (2147483811 + 4 * u114)) (by decide +kernel) (by omega) (by decide) (by omega) (by omega) ?_
            refine x_iload (np := 62) (x := 2) (by decide +kernel) rfl la2 ?_
            refine x_ast (np := 63) (x := 0) (kd := 1) (n := 1952) (i := (163 + 4 * u114)) (by decide +kernel) (Or.inl rfl) (by decide +kernel) (by omega) (by omega) (by decide) la2 (fun z => absurd z (by decide)) ?_
            have j122 := jU (e := (163 + 4 * u114)) (v := a2) u114 j2 rg_76_163_4_10 (by omega) (by omega) (by omega)
            have f124 := jF (e := (163 + 4 * u114)) (v := a2) u114 f4 rg_76_163_4_10 (by omega) (by omega) (by decide)
            generalize e123 : x_up h1 76 (163 + 4 * u114) a2 = h121 at j122 f124 ⊢
            refine x_iload (np := 64) (x := 3) (by decide +kernel) rfl l118 ?_
            have m126 : WT 76 h1 := by rw [← e3]; exact WT.oth hW hJ (by decide)
            have m125 : WT 76 h121 := by rw [← e123]; exact WT.up m126 j2 (by omega)
            refine x_retI (np := 65) (x := 0) (by decide +kernel) l118 (Or.inl (by decide +kernel)) ⟨_, rfl, l118, ?_⟩
            exact ⟨j122, f124, (by omega), m125⟩
          have q112 : ¬ (2147483648 = 2147483648) := q112
          exfalso; omega
        have q110 : ¬ (2147483648 = 2147483648) := q110
        exfalso; omega
      have q108 : ¬ (2147483648 = 2147483648) := q108
      exfalso; omega
    have q106 : ¬ (2147483649 ≠ 2147483648) := q106
    exfalso; omega
  have q44 : ¬ (2147483649 ≠ 2147483648) := q44
  exfalso; omega
set_option maxHeartbeats 0 in
/-- LentNamesModel.image()V -/
theorem c155_75nn {sc : Nat × Nat} {d  : Nat} {h : xh} (hJ : J h) : X sc 155 d (xV fun h' => J h' ∧ Fr 134610945 h h' ∧ (h' 75 4 = 2147483649) ∧ Cpa 77 76 h h' 1121) 0 0 0 [x_r 75, 147573952589676412928] [] h := by
  have hF := Fr.refl 134610945 h
  refine x_aload (np := 1) (x := 0) (by decide +kernel) rfl (x_nc_le (by decide)) ?_
  refine x_const (np := 2) (x := 9223372039002259456) (a := 2147483648) (by decide +kernel) (by decide) (by decide) ?_
  refine x_putI (np := 5) (x := 704) (f := 0) (by decide +kernel) (by decide +kernel) (by decide) (Or.inl (by decide)) ?_
  have j2 := jU (e := 0) (v := 2147483648) 0 hJ rg_75_0_0_1 (by omega) (by omega) (by omega)
  have f4 := jF (e := 0) (v := 2147483648) 0 hF rg_75_0_0_1 (by omega) (by omega) (by decide)
  generalize e3 : x_up h 75 0 2147483648 = h1 at j2 f4 ⊢
  refine x_const (np := 6) (x := 9223372039002259456) (a := 2147483648) (by decide +kernel) (by decide) (by decide) ?_
  refine x_istore (np := 7) (x := 1) (lo' := [x_r 75, iv_c 2147483648]) (by decide +kernel) (by decide) (Nat.le_of_ble_eq_true rfl) rfl ?_
  have p434 : ∀ (n : Nat) (v429 : Nat) (h431 : xh), 4294967296 - v429 < n → (2147483648 ≤ v429 ∧ v429 ≤ 2147484769) → J h431 → Fr 134217728 h1 h431 → Cpa 77 76 h h431 (v429 - 2147483648) → X sc 155 d (xV fun h' => J h' ∧ Fr 134610945 h h' ∧ (h' 75 4 = 2147483649) ∧ Cpa 77 76 h h' 1121) 0 0 7 [x_r 75, iv_c v429] [] h431 := by
    intro n
    induction n with
    | zero => intro v429 h431 q436; exact absurd q436 (Nat.not_lt_zero _)
    | succ n i437 =>
      intro v429 h431 q436 b430 j433 f432 m435
      have f438 := Fr.trans f4 f432 (by decide)
      refine x_iload (np := 8) (x := 1) (by decide +kernel) rfl (by omega) ?_
      refine x_const (np := 11) (x := 9223376853660599393) (a := 2147484769) (by decide +kernel) (by decide) (by decide) ?_
      refine x_icmp (k := 3) (tg := 32) (np := 14) (by decide +kernel) (by decide) (by omega) (by decide) (fun q439 => ?_) (fun q440 => ?_)
      · have q439 : 2147484769 ≤ v429 := q439
        refine x_aload (np := 33) (x := 0) (by decide +kernel) rfl (x_nc_le (by decide)) ?_
        refine x_const (np := 34) (x := 9223372043297226753) (a := 2147483649) (by decide +kernel) (by decide) (by decide) ?_
        refine x_putI (np := 37) (x := 4804) (f := 4) (by decide +kernel) (by decide +kernel) (by decide) (Or.inr ⟨by decide, by omega, by omega⟩) ?_
        have j442 := jU (e := 4) (v := 2147483649) 0 j433 rg_75_4_0_1 (by omega) (by omega) (by omega)
        have f444 := jF (e := 4) (v := 2147483649) 0 f438 rg_75_4_0_1 (by omega) (by omega) (by decide)
        generalize e443 : x_up h431 75 4 2147483649 = h441 at j442 f444 ⊢
        have q445 : h441 75 4 = 2147483649 := by rw [← e443]; exact x_up_at
        have m446 : Cpa 77 76 h h431 1121 := Cpa.less m435 (by omega)
        have m447 : Cpa 77 76 h h441 1121 := by rw [← e443]; exact Cpa.oth m446 (by decide)
        refine x_retV (np := 38) (x := 0) (by decide +kernel) (by decide +kernel) ⟨rfl, ?_⟩
        exact ⟨j442, f444, (by omega), m447⟩
      have q440 : ¬ (2147484769 ≤ v429) := q440
      refine x_aload (np := 15) (x := 0) (by decide +kernel) rfl (x_nc_le (by decide)) ?_
      have q448 : h431 75 2 = 77 := by have z := jB (e := 2) 0 j433 rg_75_2_0_1 (by decide) (by decide); omega
      refine x_getR (np := 18) (x := 706) (f := 2) (q := 77) (by decide +kernel) (by decide) (by decide +kernel) q448 ?_
      refine x_iload (np := 19) (x := 1) (by decide +kernel) rfl (by omega) ?_
      refine x_aload (np := 20) (x := 0) (by decide +kernel) rfl (x_nc_le (by decide)) ?_
      have q449 : h431 75 1 = 76 := by have z := jB (e := 1) 0 j433 rg_75_1_0_1 (by decide) (by decide); omega
      refine x_getR (np := 23) (x := 705) (f := 1) (q := 76) (by decide +kernel) (by decide) (by decide +kernel) q449 ?_
      refine x_iload (np := 24) (x := 1) (by decide +kernel) rfl (by omega) ?_
      obtain ⟨u450, q451⟩ : ∃ z, v429 = 2147483648 + z := ⟨v429 - 2147483648, by omega⟩
      refine x_aldC (np := 25) (x := 0) (n := 1952) (i := u450) (q := (h431 76 u450)) (by decide +kernel) (by decide +kernel) (by omega) (by omega) (by decide) rfl (fun l452 => ?_)
      refine x_ast (np := 26) (x := 0) (kd := 1) (n := 1121) (i := u450) (by decide +kernel) (Or.inl rfl) (by decide +kernel) (by omega) (by omega) (by decide) l452 (fun z => absurd z (by decide)) ?_
      have j454 := cwJ (e := u450) (v := (h431 76 u450)) u450 j433 j433 cw_77_0_76_0_1121 (by omega) (by omega) (by first | rfl | (congr 1; omega))
      have f456 := cwF (e := u450) (v := (h431 76 u450)) u450 f438 cw_77_0_76_0_1121 (by omega) (by omega) (by decide)
      have f457 := cwF (e := u450) (v := (h431 76 u450)) u450 f432 cw_77_0_76_0_1121 (by omega) (by omega) (by decide)
      generalize e455 : x_up h431 77 u450 (h431 76 u450) = h453 at j454 f456 f457 ⊢
      refine x_iinc (np := 29) (i := 1) (j := 2147483649) (v := (1 + v429)) (lo' := [x_r 75, iv_c (1 + v429)]) (by decide +kernel) (by decide) (by decide) rfl (by omega) (by omega) (by omega) rfl ?_
      refine x_goto (np := 32) (x := 7) (by decide +kernel) ?_
      have m458 : Cpa 77 76 h h453 ((1 + v429) - 2147483648) := by
        have e0 : v429 - 2147483648 = u450 := by omega
        have e9 : (1 + v429) = 2147483648 + (u450 + 1) := by omega
        have e1 : (1 + v429) - 2147483648 = u450 + 1 := by rw [e9]; exact Nat.add_sub_cancel_left _ _
        have p9 := m435
        rw [e0] at p9
        rw [e1, ← e455]
        exact Cpa.step p9 ((f432 76 u450 (by rw [gr_76 _ (by omega)]; decide)).trans (by rw [← e3, x_up_k (by decide)]))
      exact i437 (1 + v429) h453 (by omega) (by omega) j454 f457 m458
  exact p434 _ 2147483648 h1 (Nat.lt_succ_self _) (by omega) j2 (Fr.refl _ _) Cpa.zero
set_option maxHeartbeats 0 in
/-- LentNamesModel.back()Z -/
theorem c156_75 {sc : Nat × Nat} {d  : Nat} {h : xh} (hJ : J h) (hr0 : h 75 4 = 2147483649 → 2147483650 ≤ h 77 0) : X sc 156 d (xI fun r h' => J h' ∧ Fr 33685504 h h' ∧ (2147483648 ≤ r ∧ r ≤ 2147483649) ∧ (r = h 75 4) ∧ (r = 2147483649 → Cpa 76 77 h h' 1121) ∧ (r = 2147483648 → ∀ i, h' 76 i = h 76 i)) 0 0 0 [x_r 75, 147573952589676412928] [] h := by
  have hF := Fr.refl 33685504 h
  refine x_aload (np := 1) (x := 0) (by decide +kernel) rfl (x_nc_le (by decide)) ?_
  refine x_const (np := 2) (x := 9223372039002259456) (a := 2147483648) (by decide +kernel) (by decide) (by decide) ?_
  refine x_putI (np := 5) (x := 704) (f := 0) (by decide +kernel) (by decide +kernel) (by decide) (Or.inl (by decide)) ?_
  have j2 := jU (e := 0) (v := 2147483648) 0 hJ rg_75_0_0_1 (by omega) (by omega) (by omega)
  have f4 := jF (e := 0) (v := 2147483648) 0 hF rg_75_0_0_1 (by omega) (by omega) (by decide)
  generalize e3 : x_up h 75 0 2147483648 = h1 at j2 f4 ⊢
  refine x_aload (np := 6) (x := 0) (by decide +kernel) rfl (x_nc_le (by decide)) ?_
  have q5 : h1 75 4 = h 75 4 := by rw [← e3]; exact x_up_i (by omega)
  have b6 := jB (e := 4) 0 hJ rg_75_4_0_1 (by omega) (by omega)
  refine x_getC (np := 9) (x := 708) (f := 4) (q := (h 75 4)) (by decide +kernel) (by decide) (by decide +kernel) q5 (fun l7 => ?_)
  refine x_ifz (k := 1) (tg := 14) (np := 12) (by decide +kernel) (by decide) l7 (fun q8 => ?_) (fun q9 => ?_)
  · have q8 : (h 75 4) ≠ 2147483648 := q8
    refine x_const (np := 15) (x := 9223372039002259456) (a := 2147483648) (by decide +kernel) (by decide) (by decide) ?_
    refine x_istore (np := 16) (x := 1) (lo' := [x_r 75, iv_c 2147483648]) (by decide +kernel) (by decide) (Nat.le_of_ble_eq_true rfl) rfl ?_
    have p537 : ∀ (n : Nat) (v532 : Nat) (h534 : xh), 4294967296 - v532 < n → (2147483648 ≤ v532 ∧ v532 ≤ 2147484769) → J h534 → Fr 33554432 h1 h534 → Cpa 76 77 h h534 (v532 - 2147483648) → X sc 156 d (xI fun r h' => J h' ∧ Fr 33685504 h h' ∧ (2147483648 ≤ r ∧ r ≤ 2147483649) ∧ (r = h 75 4) ∧ (r = 2147483649 → Cpa 76 77 h h' 1121) ∧ (r = 2147483648 → ∀ i, h' 76 i = h 76 i)) 0 0 16 [x_r 75, iv_c v532] [] h534 := by
      intro n
      induction n with
      | zero => intro v532 h534 q539; exact absurd q539 (Nat.not_lt_zero _)
      | succ n i540 =>
        intro v532 h534 q539 b533 j536 f535 m538
        have f541 := Fr.trans f4 f535 (by decide)
        refine x_iload (np := 17) (x := 1) (by decide +kernel) rfl (by omega) ?_
        refine x_const (np := 20) (x := 9223376853660599393) (a := 2147484769) (by decide +kernel) (by decide) (by decide) ?_
        refine x_icmp (k := 3) (tg := 41) (np := 23) (by decide +kernel) (by decide) (by omega) (by decide) (fun q542 => ?_) (fun q543 => ?_)
        · have q542 : 2147484769 ≤ v532 := q542
          refine x_const (np := 42) (x := 9223372043297226753) (a := 2147483649) (by decide +kernel) (by decide) (by decide) ?_
          have m544 : Cpa 76 77 h h534 1121 := Cpa.less m538 (by omega)
          refine x_retI (np := 43) (x := 0) (by decide +kernel) (by decide) (Or.inr ⟨by decide +kernel, by omega, by omega⟩) ⟨_, rfl, (by decide), ?_⟩
          exact ⟨j536, f541, (by omega), (by omega), (fun _ => m544), (fun z => absurd z (by omega))⟩
        have q543 : ¬ (2147484769 ≤ v532) := q543
        refine x_aload (np := 24) (x := 0) (by decide +kernel) rfl (x_nc_le (by decide)) ?_
        have q545 : h534 75 1 = 76 := by have z := jB (e := 1) 0 j536 rg_75_1_0_1 (by decide) (by decide); omega
        refine x_getR (np := 27) (x := 705) (f := 1) (q := 76) (by decide +kernel) (by decide) (by decide +kernel) q545 ?_
        refine x_iload (np := 28) (x := 1) (by decide +kernel) rfl (by omega) ?_
        refine x_aload (np := 29) (x := 0) (by decide +kernel) rfl (x_nc_le (by decide)) ?_
        have q546 : h534 75 2 = 77 := by have z := jB (e := 2) 0 j536 rg_75_2_0_1 (by decide) (by decide); omega
        refine x_getR (np := 32) (x := 706) (f := 2) (q := 77) (by decide +kernel) (by decide) (by decide +kernel) q546 ?_
        refine x_iload (np := 33) (x := 1) (by decide +kernel) rfl (by omega) ?_
        obtain ⟨u547, q548⟩ : ∃ z, v532 = 2147483648 + z := ⟨v532 - 2147483648, by omega⟩
        refine x_aldC (np := 34) (x := 0) (n := 1121) (i := u547) (q := (h534 77 u547)) (by decide +kernel) (by decide +kernel) (by omega) (by omega) (by decide) rfl (fun l549 => ?_)
        refine x_ast (np := 35) (x := 0) (kd := 1) (n := 1952) (i := u547) (by decide +kernel) (Or.inl rfl) (by decide +kernel) (by omega) (by omega) (by decide) l549 (fun z => absurd z (by decide)) ?_
        have b553 := hr0 (by omega)
        have b554 := jB (e := 0) 0 hJ rg_77_0_0_1 (by omega) (by omega)
        have q555 : h534 77 0 = h1 77 0 := jK 0 f535 rg_77_0_0_1 (by omega) (by omega) (by decide)
        have q556 : h1 77 0 = h 77 0 := by rw [← e3]; exact x_up_k (by decide)
        have j551 := imJ (e := u547) (v := (h534 77 u547)) j536 j536 (by omega) (by omega) rfl
        have f557 := imF (e := u547) (v := (h534 77 u547)) f541 (by omega) (by decide)
        have f558 := imF (e := u547) (v := (h534 77 u547)) f535 (by omega) (by decide)
        generalize e552 : x_up h534 76 u547 (h534 77 u547) = h550 at j551 f557 f558 ⊢
        refine x_iinc (np := 38) (i := 1) (j := 2147483649) (v := (1 + v532)) (lo' := [x_r 75, iv_c (1 + v532)]) (by decide +kernel) (by decide) (by decide) rfl (by omega) (by omega) (by omega) rfl ?_
        refine x_goto (np := 41) (x := 16) (by decide +kernel) ?_
        have m559 : Cpa 76 77 h h550 ((1 + v532) - 2147483648) := by
          have e0 : v532 - 2147483648 = u547 := by omega
          have e9 : (1 + v532) = 2147483648 + (u547 + 1) := by omega
          have e1 : (1 + v532) - 2147483648 = u547 + 1 := by rw [e9]; exact Nat.add_sub_cancel_left _ _
          have p9 := m538
          rw [e0] at p9
          rw [e1, ← e552]
          exact Cpa.step p9 ((f535 77 u547 (by rw [gr_77]; decide)).trans (by rw [← e3, x_up_k (by decide)]))
        exact i540 (1 + v532) h550 (by omega) (by omega) j551 f558 m559
    exact p537 _ 2147483648 h1 (Nat.lt_succ_self _) (by omega) j2 (Fr.refl _ _) Cpa.zero
  have q9 : ¬ ((h 75 4) ≠ 2147483648) := q9
  refine x_const (np := 13) (x := 9223372039002259456) (a := 2147483648) (by decide +kernel) (by decide) (by decide) ?_
  refine x_retI (np := 14) (x := 0) (by decide +kernel) (by decide) (Or.inr ⟨by decide +kernel, by omega, by omega⟩) ⟨_, rfl, (by decide), ?_⟩
  exact ⟨j2, f4, (by omega), (by omega), (fun z => absurd z (by omega)), (fun _ i => by rw [← e3, x_up_k (by decide)])⟩
set_option maxHeartbeats 0 in
/-- LentNames.image()V -/
theorem c138_0n {sc : Nat × Nat} {d  : Nat} {h : xh} (hJ : J h) : X sc 138 (d + 2) (xV fun h' => J h' ∧ Fr 261 h h' ∧ (h' 0 10 = 2147483649)) 0 0 0 [x_r 0] [] h := by
  have hF := Fr.refl 261 h
  refine x_aload (np := 1) (x := 0) (by decide +kernel) rfl (x_nc_le (by decide)) ?_
  have q1 : h 0 7 = 3 := by have z := jB (e := 7) 0 hJ rg_0_7_0_1 (by decide) (by decide); omega
  refine x_getR (np := 4) (x := 647) (f := 7) (q := 3) (by decide +kernel) (by decide) (by decide +kernel) q1 ?_
  refine x_aload (np := 5) (x := 0) (by decide +kernel) rfl (x_nc_le (by decide)) ?_
  have t2 : tw (h 0 8) := hJ.2.1
  refine x_getR (np := 8) (x := 648) (f := 8) (q := (h 0 8)) (by decide +kernel) (by decide) (by decide +kernel) rfl ?_
  refine x_cV (t := 6) (mj := 84) (n := 2) (rc := 9) (ml := 2) (nr := 0) (np := 11) (as := [x_r 3, x_r (h 0 8)]) (rest := []) (lo1 := [x_r 3, x_r (h 0 8)]) (by decide +kernel) (by decide) (by decide +kernel) (x_rb_of (by decide +kernel)) rfl rfl (x_wr (by decide) (x_wr (tn_0 t2) x_wn)) x_wn (by decide) rfl (c84_3_T0 hJ  t2) (fun h6 q5 => ?_)
  obtain ⟨j7, f8⟩ := q5
  have f11 := Fr.trans hF f8 (by decide)
  refine x_aload (np := 12) (x := 0) (by decide +kernel) rfl (x_nc_le (by decide)) ?_
  refine x_const (np := 13) (x := 9223372043297226753) (a := 2147483649) (by decide +kernel) (by decide) (by decide) ?_
  refine x_putI (np := 16) (x := 4746) (f := 10) (by decide +kernel) (by decide +kernel) (by decide) (Or.inr ⟨by decide, by omega, by omega⟩) ?_
  have j13 := jU (e := 10) (v := 2147483649) 0 j7 rg_0_10_0_1 (by omega) (by omega) (by omega)
  have f15 := jF (e := 10) (v := 2147483649) 0 f11 rg_0_10_0_1 (by omega) (by omega) (by decide)
  generalize e14 : x_up h6 0 10 2147483649 = h12 at j13 f15 ⊢
  have q16 : h12 0 10 = 2147483649 := by rw [← e14]; exact x_up_at
  refine x_retV (np := 17) (x := 0) (by decide +kernel) (by decide +kernel) ⟨rfl, ?_⟩
  exact ⟨j13, f15, (by omega)⟩
set_option maxHeartbeats 0 in
/-- LentNames.back()Z -/
theorem c139_0n {sc : Nat × Nat} {d  : Nat} {h : xh} (hJ : J h) : X sc 139 (d + 7) (xI fun r h' => J h' ∧ Fr 140737488461441 h h' ∧ (2147483648 ≤ r ∧ r ≤ 2147483649) ∧ (r = h 0 10)) 0 0 0 [x_r 0] [] h := by
  have hF := Fr.refl 140737488461441 h
  refine x_aload (np := 1) (x := 0) (by decide +kernel) rfl (x_nc_le (by decide)) ?_
  have b1 := jB (e := 10) 0 hJ rg_0_10_0_1 (by omega) (by omega)
  refine x_getC (np := 4) (x := 650) (f := 10) (q := (h 0 10)) (by decide +kernel) (by decide) (by decide +kernel) rfl (fun l2 => ?_)
  refine x_ifz (k := 1) (tg := 9) (np := 7) (by decide +kernel) (by decide) l2 (fun q3 => ?_) (fun q4 => ?_)
  · have q3 : (h 0 10) ≠ 2147483648 := q3
    refine x_aload (np := 10) (x := 0) (by decide +kernel) rfl (x_nc_le (by decide)) ?_
    have t5 : tw (h 0 8) := hJ.2.1
    refine x_getR (np := 13) (x := 648) (f := 8) (q := (h 0 8)) (by decide +kernel) (by decide) (by decide +kernel) rfl ?_
    refine x_aload (np := 14) (x := 0) (by decide +kernel) rfl (x_nc_le (by decide)) ?_
    have q6 : h 0 7 = 3 := by have z := jB (e := 7) 0 hJ rg_0_7_0_1 (by decide) (by decide); omega
    refine x_getR (np := 17) (x := 647) (f := 7) (q := 3) (by decide +kernel) (by decide) (by decide +kernel) q6 ?_
    refine x_cV (t := 6) (mj := 84) (n := 2) (rc := 9) (ml := 2) (nr := 0) (np := 20) (as := [x_r (h 0 8), x_r 3]) (rest := []) (lo1 := [x_r (h 0 8), x_r 3]) (by decide +kernel) (by decide) (by decide +kernel) (x_rb_of (tr_0_9 t5)) rfl rfl (x_wr (tn_0 t5) (x_wr (by decide) x_wn)) x_wn (by decide) rfl (c84_T0_3 hJ t5 ) (fun h10 q9 => ?_)
    obtain ⟨j11, f12⟩ := q9
    have f15 := Fr.trans hF f12 (by decide)
    refine x_aload (np := 21) (x := 0) (by decide +kernel) rfl (x_nc_le (by decide)) ?_
    refine x_nV (t := 6) (mj := 143) (n := 1) (rc := 11) (ml := 1) (nr := 0) (np := 24) (as := [x_r 0]) (rest := []) (lo1 := [x_r 0]) (by decide +kernel) (by decide) (by decide +kernel) (x_rb_of (by decide +kernel)) rfl rfl (x_wr (by decide) x_wn) x_wn (by decide) rfl ?_
    refine x_aload (np := 1) (x := 0) (by decide +kernel) rfl (x_nc_le (by decide)) ?_
    have q16 : h10 0 1 = 45 := by have z := jB (e := 1) 0 j11 rg_0_1_0_1 (by decide) (by decide); omega
    refine x_getR (np := 4) (x := 641) (f := 1) (q := 45) (by decide +kernel) (by decide) (by decide +kernel) q16 ?_
    refine x_aload (np := 5) (x := 0) (by decide +kernel) rfl (x_nc_le (by decide)) ?_
    have q17 : h10 0 8 = h 0 8 := f12 0 8 (by decide +kernel)
    refine x_getR (np := 8) (x := 648) (f := 8) (q := (h 0 8)) (by decide +kernel) (by decide) (by decide +kernel) q17 ?_
    refine x_cV (t := 6) (mj := 4) (n := 2) (rc := 2) (ml := 3) (nr := 0) (np := 11) (as := [x_r 45, x_r (h 0 8)]) (rest := []) (lo1 := [x_r 45, x_r (h 0 8), 147573952589676412928]) (by decide +kernel) (by decide) (by decide +kernel) (x_rb_of (by decide +kernel)) rfl rfl (x_wr (by decide) (x_wr (tn_0 t5) x_wn)) x_wn (by decide) rfl (c4_45_T0 j11  t5) (fun h21 q20 => ?_)
    obtain ⟨j22, f23⟩ := q20
    have f26 := Fr.trans f15 f23 (by decide)
    refine x_aload (np := 12) (x := 0) (by decide +kernel) rfl (x_nc_le (by decide)) ?_
    have q27 : h21 0 5 = 63 := by have z := jB (e := 5) 0 j22 rg_0_5_0_1 (by decide) (by decide); omega
    refine x_getR (np := 15) (x := 645) (f := 5) (q := 63) (by decide +kernel) (by decide) (by decide +kernel) q27 ?_
    refine x_nV (t := 8) (mj := 270) (n := 1) (rc := 5) (ml := 1) (nr := 0) (np := 18) (as := [x_r 63]) (rest := []) (lo1 := [x_r 63]) (by decide +kernel) (by decide) (by decide +kernel) (x_rb_of (by decide +kernel)) rfl rfl (x_wr (by decide) x_wn) x_wn (by decide) rfl ?_
    refine x_aload (np := 1) (x := 0) (by decide +kernel) rfl (x_nc_le (by decide)) ?_
    refine x_const (np := 2) (x := 9223372039002259456) (a := 2147483648) (by decide +kernel) (by decide) (by decide) ?_
    refine x_putI (np := 5) (x := 4878) (f := 14) (by decide +kernel) (by decide +kernel) (by decide) (Or.inr ⟨by decide, by omega, by omega⟩) ?_
    have j29 := jU (e := 14) (v := 2147483648) 0 j22 rg_63_14_0_1 (by omega) (by omega) (by omega)
    have f31 := jF (e := 14) (v := 2147483648) 0 f26 rg_63_14_0_1 (by omega) (by omega) (by decide)
    generalize e30 : x_up h21 63 14 2147483648 = h28 at j29 f31 ⊢
    refine x_retV (np := 6) (x := 0) (by decide +kernel) (by decide +kernel) ⟨rfl, ?_⟩
    refine x_aload (np := 19) (x := 0) (by decide +kernel) rfl (x_nc_le (by decide)) ?_
    have q32 : h28 0 6 = 69 := by have z := jB (e := 6) 0 j29 rg_0_6_0_1 (by decide) (by decide); omega
    refine x_getR (np := 22) (x := 646) (f := 6) (q := 69) (by decide +kernel) (by decide) (by decide +kernel) q32 ?_
    refine x_nV (t := 8) (mj := 270) (n := 1) (rc := 6) (ml := 1) (nr := 0) (np := 25) (as := [x_r 69]) (rest := []) (lo1 := [x_r 69]) (by decide +kernel) (by decide) (by decide +kernel) (x_rb_of (by decide +kernel)) rfl rfl (x_wr (by decide) x_wn) x_wn (by decide) rfl ?_
    refine x_aload (np := 1) (x := 0) (by decide +kernel) rfl (x_nc_le (by decide)) ?_
    refine x_const (np := 2) (x := 9223372039002259456) (a := 2147483648) (by decide +kernel) (by decide) (by decide) ?_
    refine x_putI (np := 5) (x := 4878) (f := 14) (by decide +kernel) (by decide +kernel) (by decide) (Or.inr ⟨by decide, by omega, by omega⟩) ?_
    have j34 := jU (e := 14) (v := 2147483648) 0 j29 rg_69_14_0_1 (by omega) (by omega) (by omega)
    have f36 := jF (e := 14) (v := 2147483648) 0 f31 rg_69_14_0_1 (by omega) (by omega) (by decide)
    generalize e35 : x_up h28 69 14 2147483648 = h33 at j34 f36 ⊢
    refine x_retV (np := 6) (x := 0) (by decide +kernel) (by decide +kernel) ⟨rfl, ?_⟩
    refine x_retV (np := 26) (x := 0) (by decide +kernel) (by decide +kernel) ⟨rfl, ?_⟩
    refine x_const (np := 25) (x := 9223372043297226753) (a := 2147483649) (by decide +kernel) (by decide) (by decide) ?_
    refine x_retI (np := 26) (x := 0) (by decide +kernel) (by decide) (Or.inr ⟨by decide +kernel, by omega, by omega⟩) ⟨_, rfl, (by decide), ?_⟩
    exact ⟨j34, f36, (by omega), (by omega)⟩
  have q4 : ¬ ((h 0 10) ≠ 2147483648) := q4
  refine x_const (np := 8) (x := 9223372039002259456) (a := 2147483648) (by decide +kernel) (by decide) (by decide) ?_
  refine x_retI (np := 9) (x := 0) (by decide +kernel) (by decide) (Or.inr ⟨by decide +kernel, by omega, by omega⟩) ⟨_, rfl, (by decide), ?_⟩
  exact ⟨hJ, hF, (by omega), (by omega)⟩
