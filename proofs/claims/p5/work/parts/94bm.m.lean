/-! ===== methods ===== -/
set_option maxHeartbeats 0 in
/-- LentNames$SecretSearch.lacks()Z -/
theorem c63_69 {sc : Nat × Nat} {d  : Nat} {h : xh} (hJ : J h) : X sc 63 (d + 2) (xI fun r h' => J h' ∧ Fr 65536 h h' ∧ (2147483648 ≤ r ∧ r ≤ 2147483649)) 0 0 0 [x_r 69, 147573952589676412928, 147573952589676412928] [] h := by
  have hF := Fr.refl 65536 h
  refine x_const (np := 1) (x := 9223372039002259456) (a := 2147483648) (by decide +kernel) (by decide) (by decide) ?_
  refine x_istore (np := 2) (x := 1) (lo' := [x_r 69, iv_c 2147483648, 147573952589676412928]) (by decide +kernel) (by decide) (Nat.le_of_ble_eq_true rfl) rfl ?_
  have p886 : ∀ (n : Nat) (v883 : Nat) (w885 : Nat), 4294967296 - v883 < n → (2147483648 ≤ v883 ∧ v883 ≤ 2147483658) → X sc 63 (d + 2) (xI fun r h' => J h' ∧ Fr 65536 h h' ∧ (2147483648 ≤ r ∧ r ≤ 2147483649)) 0 0 2 [x_r 69, iv_c v883, w885] [] h := by
    intro n
    induction n with
    | zero => intro v883 w885 q887; exact absurd q887 (Nat.not_lt_zero _)
    | succ n i888 =>
      intro v883 w885 q887 b884
      refine x_iload (np := 3) (x := 1) (by decide +kernel) rfl (by first | decide | omega) ?_
      refine x_aload (np := 4) (x := 0) (by decide +kernel) rfl (x_nc_le (by decide)) ?_
      have t889 : tw (h 69 6) := hJ.2.2.2.2.2.2.1
      refine x_getR (np := 7) (x := 774) (f := 6) (q := (h 69 6)) (by decide +kernel) (by decide) (by decide +kernel) rfl ?_
      have q890 : h (h 69 6) 3 = ((h 69 6) + 7) := tf_0_3 hJ t889
      refine x_getR (np := 10) (x := 515) (f := 3) (q := ((h 69 6) + 7)) (by decide +kernel) (by decide) (tg_0_515_3_1 t889) q890 ?_
      have b891 := jB (e := 2) 0 hJ (rg_T7_2_0_1 t889) (by first | decide | omega) (by first | decide | omega)
      refine x_getC (np := 13) (x := 386) (f := 2) (q := (h ((h 69 6) + 7) 2)) (by decide +kernel) (by decide) (tg_7_386_2_0 t889) rfl (fun l892 => ?_)
      refine x_icmp (k := 3) (tg := 88) (np := 16) (by decide +kernel) (by decide) (by first | decide | omega) l892 (fun q893 => ?_) (fun q894 => ?_)
      · have q893 : (h ((h 69 6) + 7) 2) ≤ v883 := q893
        refine x_const (np := 89) (x := 9223372039002259456) (a := 2147483648) (by decide +kernel) (by decide) (by decide) ?_
        refine x_retI (np := 90) (x := 0) (by decide +kernel) (by decide) (Or.inr ⟨by decide +kernel, by first | decide | omega, by first | decide | omega⟩) ⟨_, rfl, (by decide), ?_⟩
        exact ⟨hJ, hF, (by first | decide | omega)⟩
      have q894 : ¬ ((h ((h 69 6) + 7) 2) ≤ v883) := q894
      refine x_aload (np := 17) (x := 0) (by decide +kernel) rfl (x_nc_le (by decide)) ?_
      refine x_getC (np := 20) (x := 338) (f := 18) (q := (h 69 18)) (by decide +kernel) (by decide) (by decide +kernel) rfl (fun l895 => ?_)
      refine x_iload (np := 21) (x := 1) (by decide +kernel) rfl (by first | decide | omega) ?_
      refine x_cP (t := 7) (mj := 148) (n := 2) (rc := 0) (ml := 2) (nr := 0) (np := 24) (as := [iv_c (h 69 18), iv_c v883]) (rest := []) (lo1 := [iv_c (h 69 18), iv_c v883]) (by decide +kernel) (by decide) (by decide +kernel) (Or.inl rfl) rfl rfl (x_wi l895 (x_wi (by first | decide | omega) x_wn)) x_wn (by decide) rfl (c148 hJ (by first | decide | omega) (by first | decide | omega)) (fun v896 l897 q898 => ?_)
      refine x_ifz (k := 0) (tg := 82) (np := 27) (by decide +kernel) (by decide) l897 (fun q899 => ?_) (fun q900 => ?_)
      · have q899 : v896 = 2147483648 := q899
        refine x_iinc (np := 85) (i := 1) (j := 2147483649) (v := (1 + v883)) (lo' := [x_r 69, iv_c (1 + v883), w885]) (by decide +kernel) (by decide) (by decide) rfl (by first | decide | omega) (by first | decide | omega) (by first | decide | omega) rfl ?_
        refine x_goto (np := 88) (x := 2) (by decide +kernel) ?_
        exact i888 (1 + v883) w885 (by first | decide | omega) (by first | decide | omega)
      have q900 : ¬ (v896 = 2147483648) := q900
      refine x_aload (np := 28) (x := 0) (by decide +kernel) rfl (x_nc_le (by decide)) ?_
      refine x_iload (np := 29) (x := 1) (by decide +kernel) rfl (by first | decide | omega) ?_
      refine x_cP (t := 6) (mj := 64) (n := 2) (rc := 6) (ml := 5) (nr := 0) (np := 32) (as := [x_r 69, iv_c v883]) (rest := []) (lo1 := [x_r 69, iv_c v883, 147573952589676412928, 147573952589676412928, 147573952589676412928]) (by decide +kernel) (by decide) (by decide +kernel) (x_rb_of (by decide +kernel)) rfl rfl (x_wr (by decide) (x_wi (by first | decide | omega) x_wn)) x_wn (by decide) rfl (c64_69 hJ  (by first | decide | omega) (by first | decide | omega)) (fun v901 l902 q903 => ?_)
      refine x_ifz (k := 1) (tg := 82) (np := 35) (by decide +kernel) (by decide) l902 (fun q904 => ?_) (fun q905 => ?_)
      · have q904 : v901 ≠ 2147483648 := q904
        refine x_iinc (np := 85) (i := 1) (j := 2147483649) (v := (1 + v883)) (lo' := [x_r 69, iv_c (1 + v883), w885]) (by decide +kernel) (by decide) (by decide) rfl (by first | decide | omega) (by first | decide | omega) (by first | decide | omega) rfl ?_
        refine x_goto (np := 88) (x := 2) (by decide +kernel) ?_
        exact i888 (1 + v883) w885 (by first | decide | omega) (by first | decide | omega)
      have q905 : ¬ (v901 ≠ 2147483648) := q905
      refine x_aload (np := 36) (x := 0) (by decide +kernel) rfl (x_nc_le (by decide)) ?_
      refine x_getR (np := 39) (x := 774) (f := 6) (q := (h 69 6)) (by decide +kernel) (by decide) (by decide +kernel) rfl ?_
      have q906 : h (h 69 6) 3 = ((h 69 6) + 7) := tf_0_3 hJ t889
      refine x_getR (np := 42) (x := 515) (f := 3) (q := ((h 69 6) + 7)) (by decide +kernel) (by decide) (tg_0_515_3_1 t889) q906 ?_
      refine x_iload (np := 43) (x := 1) (by decide +kernel) rfl (by first | decide | omega) ?_
      refine x_const (np := 44) (x := 9223372043297226753) (a := 2147483649) (by decide +kernel) (by decide) (by decide) ?_
      refine x_nI (t := 6) (mj := 68) (n := 3) (rc := 7) (ml := 4) (nr := 0) (np := 47) (as := [x_r ((h 69 6) + 7), iv_c v883, iv_c 2147483649]) (rest := []) (lo1 := [x_r ((h 69 6) + 7), iv_c v883, iv_c 2147483649, 147573952589676412928]) (by decide +kernel) (by decide) (by decide +kernel) (x_rb_of (tr_7_7 t889)) rfl rfl (x_wr (tn_7 t889) (x_wi (by first | decide | omega) (x_wi (by decide) x_wn))) x_wn (by decide) rfl ?_
      refine x_iload (np := 1) (x := 1) (by decide +kernel) rfl (by first | decide | omega) ?_
      refine x_ifz (k := 2) (tg := 28) (np := 4) (by decide +kernel) (by decide) (by first | decide | omega) (fun q907 => ?_) (fun q908 => ?_)
      · have q907 : v883 < 2147483648 := q907
        exfalso; omega
      have q908 : ¬ (v883 < 2147483648) := q908
      refine x_iload (np := 5) (x := 1) (by decide +kernel) rfl (by first | decide | omega) ?_
      refine x_aload (np := 6) (x := 0) (by decide +kernel) rfl (x_nc_le (tn_7 t889)) ?_
      refine x_getC (np := 9) (x := 386) (f := 2) (q := (h ((h 69 6) + 7) 2)) (by decide +kernel) (by decide) (tg_7_386_2_0 t889) rfl (fun l909 => ?_)
      refine x_icmp (k := 3) (tg := 28) (np := 12) (by decide +kernel) (by decide) (by first | decide | omega) l892 (fun q910 => ?_) (fun q911 => ?_)
      · have q910 : (h ((h 69 6) + 7) 2) ≤ v883 := q910
        exfalso; omega
      have q911 : ¬ ((h ((h 69 6) + 7) 2) ≤ v883) := q911
      refine x_iload (np := 13) (x := 2) (by decide +kernel) rfl (by decide) ?_
      refine x_ifz (k := 2) (tg := 28) (np := 16) (by decide +kernel) (by decide) (by decide) (fun q912 => ?_) (fun q913 => ?_)
      · have q912 : 2147483649 < 2147483648 := q912
        exfalso; omega
      have q913 : ¬ (2147483649 < 2147483648) := q913
      refine x_iload (np := 17) (x := 2) (by decide +kernel) rfl (by decide) ?_
      refine x_aload (np := 18) (x := 0) (by decide +kernel) rfl (x_nc_le (tn_7 t889)) ?_
      have b914 := jB (e := 0) 0 hJ (rg_T7_0_0_1 t889) (by first | decide | omega) (by first | decide | omega)
      have q915 : (h ((h 69 6) + 7) 0) = 2147483652 := by first | decide | omega
      refine x_getC (np := 21) (x := 384) (f := 0) (q := 2147483652) (by decide +kernel) (by decide) (tg_7_384_0_0 t889) q915 (fun l916 => ?_)
      refine x_icmp (k := 3) (tg := 28) (np := 24) (by decide +kernel) (by decide) (by decide) (by decide) (fun q917 => ?_) (fun q918 => ?_)
      · have q917 : 2147483652 ≤ 2147483649 := q917
        exfalso; omega
      have q918 : ¬ (2147483652 ≤ 2147483649) := q918
      refine x_const (np := 25) (x := 9223372043297226753) (a := 2147483649) (by decide +kernel) (by decide) (by decide) ?_
      refine x_goto (np := 28) (x := 29) (by decide +kernel) ?_
      refine x_istore (np := 30) (x := 3) (lo' := [x_r ((h 69 6) + 7), iv_c v883, iv_c 2147483649, iv_c 2147483649]) (by decide +kernel) (by decide) (Nat.le_of_ble_eq_true rfl) rfl ?_
      refine x_iload (np := 31) (x := 3) (by decide +kernel) rfl (by decide) ?_
      refine x_ifz (k := 0) (tg := 50) (np := 34) (by decide +kernel) (by decide) (by decide) (fun q919 => ?_) (fun q920 => ?_)
      · have q919 : 2147483649 = 2147483648 := q919
        exfalso; omega
      have q920 : ¬ (2147483649 = 2147483648) := q920
      refine x_aload (np := 35) (x := 0) (by decide +kernel) rfl (x_nc_le (tn_7 t889)) ?_
      have q921 : h ((h 69 6) + 7) 1 = ((h 69 6) + 8) := tf_7_1 hJ t889
      refine x_getR (np := 38) (x := 385) (f := 1) (q := ((h 69 6) + 8)) (by decide +kernel) (by decide) (tg_7_385_1_1 t889) q921 ?_
      refine x_iload (np := 39) (x := 1) (by decide +kernel) rfl (by first | decide | omega) ?_
      refine x_aload (np := 40) (x := 0) (by decide +kernel) rfl (x_nc_le (tn_7 t889)) ?_
      refine x_getC (np := 43) (x := 384) (f := 0) (q := 2147483652) (by decide +kernel) (by decide) (tg_7_384_0_0 t889) q915 (fun l922 => ?_)
      obtain ⟨u923, q924⟩ : ∃ z, v883 = 2147483648 + z := ⟨v883 - 2147483648, by first | decide | omega⟩
      refine x_imul (np := 44) (x := 0) (i := u923) (j := 4) (v := (2147483648 + 4 * u923)) (by decide +kernel) (by first | decide | omega) (by first | decide | omega) (by first | decide | omega) (by first | decide | omega) (by first | decide | omega) (by decide) ?_
      refine x_iload (np := 45) (x := 2) (by decide +kernel) rfl (by decide) ?_
      refine x_iadd (np := 46) (x := 0) (v := (2147483649 + 4 * u923)) (by decide +kernel) (by first | decide | omega) (by decide) (by first | decide | omega) (by first | decide | omega) ?_
      refine x_aldC (np := 47) (x := 0) (n := 40) (i := (1 + 4 * u923)) (q := ((h ((h 69 6) + 8) (1 + 4 * u923)))) (by decide +kernel) (ta_8_40 t889) (by first | decide | omega) (by first | decide | omega) (by decide) rfl (fun l926 => ?_)
      refine x_goto (np := 50) (x := 51) (by decide +kernel) ?_
      refine x_retI (np := 52) (x := 0) (by decide +kernel) l926 (Or.inl (by decide +kernel)) ⟨_, rfl, l926, ?_⟩
      refine x_istore (np := 48) (x := 2) (lo' := [x_r 69, iv_c v883, iv_c ((h ((h 69 6) + 8) (1 + 4 * u923)))]) (by decide +kernel) l926 (Nat.le_of_ble_eq_true rfl) rfl ?_
      refine x_aload (np := 49) (x := 0) (by decide +kernel) rfl (x_nc_le (by decide)) ?_
      refine x_const (np := 50) (x := 9223372043297226753) (a := 2147483649) (by decide +kernel) (by decide) (by decide) ?_
      refine x_aload (np := 51) (x := 0) (by decide +kernel) rfl (x_nc_le (by decide)) ?_
      refine x_getR (np := 54) (x := 774) (f := 6) (q := (h 69 6)) (by decide +kernel) (by decide) (by decide +kernel) rfl ?_
      have q927 : h (h 69 6) 3 = ((h 69 6) + 7) := tf_0_3 hJ t889
      refine x_getR (np := 57) (x := 515) (f := 3) (q := ((h 69 6) + 7)) (by decide +kernel) (by decide) (tg_0_515_3_1 t889) q927 ?_
      refine x_iload (np := 58) (x := 1) (by decide +kernel) rfl (by first | decide | omega) ?_
      refine x_const (np := 59) (x := 9223372039002259456) (a := 2147483648) (by decide +kernel) (by decide) (by decide) ?_
      refine x_nI (t := 6) (mj := 68) (n := 3) (rc := 7) (ml := 4) (nr := 2) (np := 62) (as := [x_r ((h 69 6) + 7), iv_c v883, iv_c 2147483648]) (rest := [iv_c 2147483649, x_r 69]) (lo1 := [x_r ((h 69 6) + 7), iv_c v883, iv_c 2147483648, 147573952589676412928]) (by decide +kernel) (by decide) (by decide +kernel) (x_rb_of (tr_7_7 t889)) rfl rfl (x_wr (tn_7 t889) (x_wi (by first | decide | omega) (x_wi (by decide) x_wn))) (x_wi (by decide) (x_wr (by decide) x_wn)) (by decide) rfl ?_
      refine x_iload (np := 1) (x := 1) (by decide +kernel) rfl (by first | decide | omega) ?_
      refine x_ifz (k := 2) (tg := 28) (np := 4) (by decide +kernel) (by decide) (by first | decide | omega) (fun q928 => ?_) (fun q929 => ?_)
      · have q928 : v883 < 2147483648 := q928
        exfalso; omega
      have q929 : ¬ (v883 < 2147483648) := q929
      refine x_iload (np := 5) (x := 1) (by decide +kernel) rfl (by first | decide | omega) ?_
      refine x_aload (np := 6) (x := 0) (by decide +kernel) rfl (x_nc_le (tn_7 t889)) ?_
      refine x_getC (np := 9) (x := 386) (f := 2) (q := (h ((h 69 6) + 7) 2)) (by decide +kernel) (by decide) (tg_7_386_2_0 t889) rfl (fun l930 => ?_)
      refine x_icmp (k := 3) (tg := 28) (np := 12) (by decide +kernel) (by decide) (by first | decide | omega) l892 (fun q931 => ?_) (fun q932 => ?_)
      · have q931 : (h ((h 69 6) + 7) 2) ≤ v883 := q931
        exfalso; omega
      have q932 : ¬ ((h ((h 69 6) + 7) 2) ≤ v883) := q932
      refine x_iload (np := 13) (x := 2) (by decide +kernel) rfl (by decide) ?_
      refine x_ifz (k := 2) (tg := 28) (np := 16) (by decide +kernel) (by decide) (by decide) (fun q933 => ?_) (fun q934 => ?_)
      · have q933 : 2147483648 < 2147483648 := q933
        exfalso; omega
      have q934 : ¬ (2147483648 < 2147483648) := q934
      refine x_iload (np := 17) (x := 2) (by decide +kernel) rfl (by decide) ?_
      refine x_aload (np := 18) (x := 0) (by decide +kernel) rfl (x_nc_le (tn_7 t889)) ?_
      refine x_getC (np := 21) (x := 384) (f := 0) (q := 2147483652) (by decide +kernel) (by decide) (tg_7_384_0_0 t889) q915 (fun l935 => ?_)
      refine x_icmp (k := 3) (tg := 28) (np := 24) (by decide +kernel) (by decide) (by decide) (by decide) (fun q936 => ?_) (fun q937 => ?_)
      · have q936 : 2147483652 ≤ 2147483648 := q936
        exfalso; omega
      have q937 : ¬ (2147483652 ≤ 2147483648) := q937
      refine x_const (np := 25) (x := 9223372043297226753) (a := 2147483649) (by decide +kernel) (by decide) (by decide) ?_
      refine x_goto (np := 28) (x := 29) (by decide +kernel) ?_
      refine x_istore (np := 30) (x := 3) (lo' := [x_r ((h 69 6) + 7), iv_c v883, iv_c 2147483648, iv_c 2147483649]) (by decide +kernel) (by decide) (Nat.le_of_ble_eq_true rfl) rfl ?_
      refine x_iload (np := 31) (x := 3) (by decide +kernel) rfl (by decide) ?_
      refine x_ifz (k := 0) (tg := 50) (np := 34) (by decide +kernel) (by decide) (by decide) (fun q938 => ?_) (fun q939 => ?_)
      · have q938 : 2147483649 = 2147483648 := q938
        exfalso; omega
      have q939 : ¬ (2147483649 = 2147483648) := q939
      refine x_aload (np := 35) (x := 0) (by decide +kernel) rfl (x_nc_le (tn_7 t889)) ?_
      have q940 : h ((h 69 6) + 7) 1 = ((h 69 6) + 8) := tf_7_1 hJ t889
      refine x_getR (np := 38) (x := 385) (f := 1) (q := ((h 69 6) + 8)) (by decide +kernel) (by decide) (tg_7_385_1_1 t889) q940 ?_
      refine x_iload (np := 39) (x := 1) (by decide +kernel) rfl (by first | decide | omega) ?_
      refine x_aload (np := 40) (x := 0) (by decide +kernel) rfl (x_nc_le (tn_7 t889)) ?_
      refine x_getC (np := 43) (x := 384) (f := 0) (q := 2147483652) (by decide +kernel) (by decide) (tg_7_384_0_0 t889) q915 (fun l941 => ?_)
      refine x_imul (np := 44) (x := 0) (i := u923) (j := 4) (v := (2147483648 + 4 * u923)) (by decide +kernel) (by first | decide | omega) (by first | decide | omega) (by first | decide | omega) (by first | decide | omega) (by first | decide | omega) (by decide) ?_
      refine x_iload (np := 45) (x := 2) (by decide +kernel) rfl (by decide) ?_
      refine x_iadd (np := 46) (x := 0) (v := (2147483648 + 4 * u923)) (by decide +kernel) (by first | decide | omega) (by decide) (by first | decide | omega) (by first | decide | omega) ?_
      have b943 := jB (e := (4 * u923)) u923 hJ (rg_T8_0_4_10 t889) (by first | decide | omega) (by first | decide | omega)
      refine x_aldC (np := 47) (x := 0) (n := 40) (i := (4 * u923)) (q := ((h ((h 69 6) + 8) (4 * u923)))) (by decide +kernel) (ta_8_40 t889) (by first | decide | omega) (by first | decide | omega) (by decide) rfl (fun l944 => ?_)
      refine x_goto (np := 50) (x := 51) (by decide +kernel) ?_
      refine x_retI (np := 52) (x := 0) (by decide +kernel) l944 (Or.inl (by decide +kernel)) ⟨_, rfl, l944, ?_⟩
      refine x_any (np := 63) (k9 := 3) (by decide +kernel) (by decide) (by decide) l944 (fun v945 l946 => ?_)
      refine x_aload (np := 64) (x := 0) (by decide +kernel) rfl (x_nc_le (by decide)) ?_
      refine x_getR (np := 67) (x := 774) (f := 6) (q := (h 69 6)) (by decide +kernel) (by decide) (by decide +kernel) rfl ?_
      have q947 : h (h 69 6) 3 = ((h 69 6) + 7) := tf_0_3 hJ t889
      refine x_getR (np := 70) (x := 515) (f := 3) (q := ((h 69 6) + 7)) (by decide +kernel) (by decide) (tg_0_515_3_1 t889) q947 ?_
      refine x_iload (np := 71) (x := 1) (by decide +kernel) rfl (by first | decide | omega) ?_
      refine x_const (np := 72) (x := 9223372047592194050) (a := 2147483650) (by decide +kernel) (by decide) (by decide) ?_
      refine x_nI (t := 6) (mj := 68) (n := 3) (rc := 7) (ml := 4) (nr := 2) (np := 75) (as := [x_r ((h 69 6) + 7), iv_c v883, iv_c 2147483650]) (rest := [iv_c v945, x_r 69]) (lo1 := [x_r ((h 69 6) + 7), iv_c v883, iv_c 2147483650, 147573952589676412928]) (by decide +kernel) (by decide) (by decide +kernel) (x_rb_of (tr_7_7 t889)) rfl rfl (x_wr (tn_7 t889) (x_wi (by first | decide | omega) (x_wi (by decide) x_wn))) (x_wi l946 (x_wr (by decide) x_wn)) (by decide) rfl ?_
      refine x_iload (np := 1) (x := 1) (by decide +kernel) rfl (by first | decide | omega) ?_
      refine x_ifz (k := 2) (tg := 28) (np := 4) (by decide +kernel) (by decide) (by first | decide | omega) (fun q948 => ?_) (fun q949 => ?_)
      · have q948 : v883 < 2147483648 := q948
        exfalso; omega
      have q949 : ¬ (v883 < 2147483648) := q949
      refine x_iload (np := 5) (x := 1) (by decide +kernel) rfl (by first | decide | omega) ?_
      refine x_aload (np := 6) (x := 0) (by decide +kernel) rfl (x_nc_le (tn_7 t889)) ?_
      refine x_getC (np := 9) (x := 386) (f := 2) (q := (h ((h 69 6) + 7) 2)) (by decide +kernel) (by decide) (tg_7_386_2_0 t889) rfl (fun l950 => ?_)
      refine x_icmp (k := 3) (tg := 28) (np := 12) (by decide +kernel) (by decide) (by first | decide | omega) l892 (fun q951 => ?_) (fun q952 => ?_)
      · have q951 : (h ((h 69 6) + 7) 2) ≤ v883 := q951
        exfalso; omega
      have q952 : ¬ ((h ((h 69 6) + 7) 2) ≤ v883) := q952
      refine x_iload (np := 13) (x := 2) (by decide +kernel) rfl (by decide) ?_
      refine x_ifz (k := 2) (tg := 28) (np := 16) (by decide +kernel) (by decide) (by decide) (fun q953 => ?_) (fun q954 => ?_)
      · have q953 : 2147483650 < 2147483648 := q953
        exfalso; omega
      have q954 : ¬ (2147483650 < 2147483648) := q954
      refine x_iload (np := 17) (x := 2) (by decide +kernel) rfl (by decide) ?_
      refine x_aload (np := 18) (x := 0) (by decide +kernel) rfl (x_nc_le (tn_7 t889)) ?_
      refine x_getC (np := 21) (x := 384) (f := 0) (q := 2147483652) (by decide +kernel) (by decide) (tg_7_384_0_0 t889) q915 (fun l955 => ?_)
      refine x_icmp (k := 3) (tg := 28) (np := 24) (by decide +kernel) (by decide) (by decide) (by decide) (fun q956 => ?_) (fun q957 => ?_)
      · have q956 : 2147483652 ≤ 2147483650 := q956
        exfalso; omega
      have q957 : ¬ (2147483652 ≤ 2147483650) := q957
      refine x_const (np := 25) (x := 9223372043297226753) (a := 2147483649) (by decide +kernel) (by decide) (by decide) ?_
      refine x_goto (np := 28) (x := 29) (by decide +kernel) ?_
      refine x_istore (np := 30) (x := 3) (lo' := [x_r ((h 69 6) + 7), iv_c v883, iv_c 2147483650, iv_c 2147483649]) (by decide +kernel) (by decide) (Nat.le_of_ble_eq_true rfl) rfl ?_
      refine x_iload (np := 31) (x := 3) (by decide +kernel) rfl (by decide) ?_
      refine x_ifz (k := 0) (tg := 50) (np := 34) (by decide +kernel) (by decide) (by decide) (fun q958 => ?_) (fun q959 => ?_)
      · have q958 : 2147483649 = 2147483648 := q958
        exfalso; omega
      have q959 : ¬ (2147483649 = 2147483648) := q959
      refine x_aload (np := 35) (x := 0) (by decide +kernel) rfl (x_nc_le (tn_7 t889)) ?_
      have q960 : h ((h 69 6) + 7) 1 = ((h 69 6) + 8) := tf_7_1 hJ t889
      refine x_getR (np := 38) (x := 385) (f := 1) (q := ((h 69 6) + 8)) (by decide +kernel) (by decide) (tg_7_385_1_1 t889) q960 ?_
      refine x_iload (np := 39) (x := 1) (by decide +kernel) rfl (by first | decide | omega) ?_
      refine x_aload (np := 40) (x := 0) (by decide +kernel) rfl (x_nc_le (tn_7 t889)) ?_
      refine x_getC (np := 43) (x := 384) (f := 0) (q := 2147483652) (by decide +kernel) (by decide) (tg_7_384_0_0 t889) q915 (fun l961 => ?_)
      refine x_imul (np := 44) (x := 0) (i := u923) (j := 4) (v := (2147483648 + 4 * u923)) (by decide +kernel) (by first | decide | omega) (by first | decide | omega) (by first | decide | omega) (by first | decide | omega) (by first | decide | omega) (by decide) ?_
      refine x_iload (np := 45) (x := 2) (by decide +kernel) rfl (by decide) ?_
      refine x_iadd (np := 46) (x := 0) (v := (2147483650 + 4 * u923)) (by decide +kernel) (by first | decide | omega) (by decide) (by first | decide | omega) (by first | decide | omega) ?_
      refine x_aldC (np := 47) (x := 0) (n := 40) (i := (2 + 4 * u923)) (q := ((h ((h 69 6) + 8) (2 + 4 * u923)))) (by decide +kernel) (ta_8_40 t889) (by first | decide | omega) (by first | decide | omega) (by decide) rfl (fun l963 => ?_)
      refine x_goto (np := 50) (x := 51) (by decide +kernel) ?_
      refine x_retI (np := 52) (x := 0) (by decide +kernel) l963 (Or.inl (by decide +kernel)) ⟨_, rfl, l963, ?_⟩
      refine x_iload (np := 76) (x := 2) (by decide +kernel) rfl l926 ?_
      refine x_iload (np := 77) (x := 2) (by decide +kernel) rfl l926 ?_
      refine x_nV (t := 8) (mj := 273) (n := 5) (rc := 6) (ml := 5) (nr := 0) (np := 80) (as := [x_r 69, iv_c v945, iv_c ((h ((h 69 6) + 8) (2 + 4 * u923))), iv_c ((h ((h 69 6) + 8) (1 + 4 * u923))), iv_c ((h ((h 69 6) + 8) (1 + 4 * u923)))]) (rest := []) (lo1 := [x_r 69, iv_c v945, iv_c ((h ((h 69 6) + 8) (2 + 4 * u923))), iv_c ((h ((h 69 6) + 8) (1 + 4 * u923))), iv_c ((h ((h 69 6) + 8) (1 + 4 * u923)))]) (by decide +kernel) (by decide) (by decide +kernel) (x_rb_of (by decide +kernel)) rfl rfl (x_wr (by decide) (x_wi l946 (x_wi l963 (x_wi l926 (x_wi l926 x_wn))))) x_wn (by decide) rfl ?_
      refine x_aload (np := 1) (x := 0) (by decide +kernel) rfl (x_nc_le (by decide)) ?_
      refine x_iload (np := 2) (x := 1) (by decide +kernel) rfl l946 ?_
      refine x_putI (np := 5) (x := 778) (f := 10) (by decide +kernel) (by decide +kernel) l946 (Or.inl (by decide)) ?_
      have j965 := jU (e := 10) (v := v945) 0 hJ rg_69_10_0_1 (by first | decide | omega) (by first | decide | omega) (by first | decide | omega)
      have f967 := jF (e := 10) (v := v945) 0 hF rg_69_10_0_1 (by first | decide | omega) (by first | decide | omega) (by decide)
      generalize e966 : x_up h 69 10 v945 = h964 at j965 f967 ⊢
      refine x_aload (np := 6) (x := 0) (by decide +kernel) rfl (x_nc_le (by decide)) ?_
      refine x_iload (np := 7) (x := 2) (by decide +kernel) rfl l963 ?_
      refine x_putI (np := 10) (x := 779) (f := 11) (by decide +kernel) (by decide +kernel) l963 (Or.inl (by decide)) ?_
      have j969 := jU (e := 11) (v := ((h ((h 69 6) + 8) (2 + 4 * u923)))) 0 j965 rg_69_11_0_1 (by first | decide | omega) (by first | decide | omega) (by first | decide | omega)
      have f971 := jF (e := 11) (v := ((h ((h 69 6) + 8) (2 + 4 * u923)))) 0 f967 rg_69_11_0_1 (by first | decide | omega) (by first | decide | omega) (by decide)
      generalize e970 : x_up h964 69 11 ((h ((h 69 6) + 8) (2 + 4 * u923))) = h968 at j969 f971 ⊢
      refine x_aload (np := 11) (x := 0) (by decide +kernel) rfl (x_nc_le (by decide)) ?_
      refine x_iload (np := 12) (x := 3) (by decide +kernel) rfl l926 ?_
      refine x_putI (np := 15) (x := 780) (f := 12) (by decide +kernel) (by decide +kernel) l926 (Or.inl (by decide)) ?_
      have j973 := jU (e := 12) (v := ((h ((h 69 6) + 8) (1 + 4 * u923)))) 0 j969 rg_69_12_0_1 (by first | decide | omega) (by first | decide | omega) (by first | decide | omega)
      have f975 := jF (e := 12) (v := ((h ((h 69 6) + 8) (1 + 4 * u923)))) 0 f971 rg_69_12_0_1 (by first | decide | omega) (by first | decide | omega) (by decide)
      generalize e974 : x_up h968 69 12 ((h ((h 69 6) + 8) (1 + 4 * u923))) = h972 at j973 f975 ⊢
      refine x_aload (np := 16) (x := 0) (by decide +kernel) rfl (x_nc_le (by decide)) ?_
      refine x_iload (np := 18) (x := 4) (by decide +kernel) rfl l926 ?_
      refine x_putI (np := 21) (x := 781) (f := 13) (by decide +kernel) (by decide +kernel) l926 (Or.inl (by decide)) ?_
      have j977 := jU (e := 13) (v := ((h ((h 69 6) + 8) (1 + 4 * u923)))) 0 j973 rg_69_13_0_1 (by first | decide | omega) (by first | decide | omega) (by first | decide | omega)
      have f979 := jF (e := 13) (v := ((h ((h 69 6) + 8) (1 + 4 * u923)))) 0 f975 rg_69_13_0_1 (by first | decide | omega) (by first | decide | omega) (by decide)
      generalize e978 : x_up h972 69 13 ((h ((h 69 6) + 8) (1 + 4 * u923))) = h976 at j977 f979 ⊢
      refine x_retV (np := 22) (x := 0) (by decide +kernel) (by decide +kernel) ⟨rfl, ?_⟩
      refine x_const (np := 81) (x := 9223372043297226753) (a := 2147483649) (by decide +kernel) (by decide) (by decide) ?_
      refine x_retI (np := 82) (x := 0) (by decide +kernel) (by decide) (Or.inr ⟨by decide +kernel, by first | decide | omega, by first | decide | omega⟩) ⟨_, rfl, (by decide), ?_⟩
      exact ⟨j977, f979, (by first | decide | omega)⟩
  exact p886 _ 2147483648 147573952589676412928 (Nat.lt_succ_self _) (by first | decide | omega)
set_option maxHeartbeats 0 in
/-- LentNames$Search.give(III)V -/
theorem c280_69 {sc : Nat × Nat} {d a1 a2 a3 : Nat} {h : xh} (hJ : J h) (ba1 : 2147483648 ≤ a1 ∧ a1 ≤ 2147483653) (ba2 : 2147483648 ≤ a2 ∧ a2 ≤ 2147483653) (ba3 : 0 ≤ a3 ∧ a3 ≤ 4294967295) : X sc 280 (d + 1) (xV fun h' => J h' ∧ Fr 65537 h h') 0 0 0 [x_r 69, iv_c a1, iv_c a2, iv_c a3, 147573952589676412928] [] h := by
  have la1 : a1 < 4294967296 := by first | decide | omega
  have la2 : a2 < 4294967296 := by first | decide | omega
  have la3 : a3 < 4294967296 := by first | decide | omega
  have hF := Fr.refl 65537 h
  refine x_aload (np := 1) (x := 0) (by decide +kernel) rfl (x_nc_le (by decide)) ?_
  have q1 : h 69 2 = 72 := by have z := jB (e := 2) 0 hJ rg_69_2_0_1 (by decide) (by decide); omega
  refine x_getR (np := 4) (x := 770) (f := 2) (q := 72) (by decide +kernel) (by decide) (by decide +kernel) q1 ?_
  refine x_iload (np := 5) (x := 1) (by decide +kernel) rfl la1 ?_
  refine x_dup2 (np := 6) (x := 0) (by decide +kernel) (by have z := (iw_c_lt (a := a1) la1).1; omega) (by have z := x_nc_le (k := 72) (by decide); unfold x_r; omega) ?_
  obtain ⟨u2, q3⟩ : ∃ z, a1 = 2147483648 + z := ⟨a1 - 2147483648, by first | decide | omega⟩
  refine x_aldC (np := 7) (x := 0) (n := 6) (i := u2) (q := (h 72 u2)) (by decide +kernel) (by decide +kernel) (by first | decide | omega) (by first | decide | omega) (by decide) rfl (fun l4 => ?_)
  refine x_iload (np := 8) (x := 3) (by decide +kernel) rfl la3 ?_
  refine x_any (np := 9) (k9 := 1) (by decide +kernel) (by decide) l4 la3 (fun v5 l6 => ?_)
  refine x_ast (np := 10) (x := 0) (kd := 1) (n := 6) (i := u2) (by decide +kernel) (Or.inl rfl) (by decide +kernel) (by first | decide | omega) (by first | decide | omega) (by decide) l6 (fun z => absurd z (by decide)) ?_
  have j8 := jU (e := u2) (v := v5) u2 hJ rg_72_0_1_6 (by first | decide | omega) (by first | decide | omega) (by first | decide | omega)
  have f10 := jF (e := u2) (v := v5) u2 hF rg_72_0_1_6 (by first | decide | omega) (by first | decide | omega) (by decide)
  generalize e9 : x_up h 72 u2 v5 = h7 at j8 f10 ⊢
  refine x_const (np := 11) (x := 9223372039002259456) (a := 2147483648) (by decide +kernel) (by decide) (by decide) ?_
  refine x_istore (np := 13) (x := 4) (lo' := [x_r 69, iv_c a1, iv_c a2, iv_c a3, iv_c 2147483648]) (by decide +kernel) (by decide) (Nat.le_of_ble_eq_true rfl) rfl ?_
  have p140 : ∀ (n : Nat) (v135 : Nat) (h137 : xh), 4294967296 - v135 < n → (2147483648 ≤ v135 ∧ v135 ≤ 2147483654) → J h137 → Fr 65536 h7 h137 → X sc 280 (d + 1) (xV fun h' => J h' ∧ Fr 65537 h h') 0 0 13 [x_r 69, iv_c a1, iv_c a2, iv_c a3, iv_c v135] [] h137 := by
    intro n
    induction n with
    | zero => intro v135 h137 q141; exact absurd q141 (Nat.not_lt_zero _)
    | succ n i142 =>
      intro v135 h137 q141 b136 j139 f138
      have f143 := Fr.trans f10 f138 (by decide)
      refine x_iload (np := 15) (x := 4) (by decide +kernel) rfl (by first | decide | omega) ?_
      refine x_const (np := 17) (x := 9223372064772063238) (a := 2147483654) (by decide +kernel) (by decide) (by decide) ?_
      refine x_icmp (k := 3) (tg := 43) (np := 20) (by decide +kernel) (by decide) (by first | decide | omega) (by decide) (fun q144 => ?_) (fun q145 => ?_)
      · have q144 : 2147483654 ≤ v135 := q144
        refine x_aload (np := 44) (x := 0) (by decide +kernel) rfl (x_nc_le (by decide)) ?_
        have q146 : h137 69 0 = 70 := by have z := jB (e := 0) 0 j139 rg_69_0_0_1 (by decide) (by decide); omega
        refine x_getR (np := 47) (x := 768) (f := 0) (q := 70) (by decide +kernel) (by decide) (by decide +kernel) q146 ?_
        refine x_iload (np := 48) (x := 1) (by decide +kernel) rfl la1 ?_
        refine x_iload (np := 49) (x := 2) (by decide +kernel) rfl la2 ?_
        refine x_nI (t := 7) (mj := 149) (n := 2) (rc := 0) (ml := 2) (nr := 1) (np := 52) (as := [iv_c a1, iv_c a2]) (rest := [x_r 70]) (lo1 := [iv_c a1, iv_c a2]) (by decide +kernel) (by decide) (by decide +kernel) (Or.inl rfl) rfl rfl (x_wi la1 (x_wi la2 x_wn)) (x_wr (by decide) x_wn) (by decide) rfl ?_
        refine x_iload (np := 1) (x := 0) (by decide +kernel) rfl la1 ?_
        refine x_const (np := 3) (x := 9223372064772063238) (a := 2147483654) (by decide +kernel) (by decide) (by decide) ?_
        refine x_imul (np := 4) (x := 0) (i := u2) (j := 6) (v := (2147483648 + 6 * u2)) (by decide +kernel) (by first | decide | omega) (by first | decide | omega) (by first | decide | omega) (by first | decide | omega) la1 (by decide) ?_
        refine x_iload (np := 5) (x := 1) (by decide +kernel) rfl la2 ?_
        refine x_iadd (np := 6) (x := 0) (v := (6 * u2 + a2)) (by decide +kernel) (by first | decide | omega) la2 (by first | decide | omega) (by first | decide | omega) ?_
        refine x_retI (np := 7) (x := 0) (by decide +kernel) (by first | decide | omega) (Or.inl (by decide +kernel)) ⟨_, rfl, (by first | decide | omega), ?_⟩
        refine x_dup2 (np := 53) (x := 0) (by decide +kernel) (by have z := (iw_c_lt (a := (6 * u2 + a2)) (by first | decide | omega)).1; omega) (by have z := x_nc_le (k := 70) (by decide); unfold x_r; omega) ?_
        obtain ⟨u148, q149⟩ : ∃ z, a2 = 2147483648 + z := ⟨a2 - 2147483648, by first | decide | omega⟩
        refine x_aldC (np := 54) (x := 0) (n := 36) (i := (6 * u2 + u148)) (q := ((h137 70 (6 * u2 + u148)))) (by decide +kernel) (by decide +kernel) (by first | decide | omega) (by first | decide | omega) (by decide) rfl (fun l150 => ?_)
        refine x_iload (np := 55) (x := 3) (by decide +kernel) rfl la3 ?_
        refine x_any (np := 56) (k9 := 1) (by decide +kernel) (by decide) l150 la3 (fun v151 l152 => ?_)
        refine x_ast (np := 57) (x := 0) (kd := 1) (n := 36) (i := (6 * u2 + u148)) (by decide +kernel) (Or.inl rfl) (by decide +kernel) (by first | decide | omega) (by first | decide | omega) (by decide) l152 (fun z => absurd z (by decide)) ?_
        have j154 := jU (e := (6 * u2 + u148)) (v := v151) (6 * u2 + u148) j139 rg_70_0_1_36 (by first | decide | omega) (by first | decide | omega) (by first | decide | omega)
        have f156 := jF (e := (6 * u2 + u148)) (v := v151) (6 * u2 + u148) f143 rg_70_0_1_36 (by first | decide | omega) (by first | decide | omega) (by decide)
        generalize e155 : x_up h137 70 (6 * u2 + u148) v151 = h153 at j154 f156 ⊢
        refine x_retV (np := 58) (x := 0) (by decide +kernel) (by decide +kernel) ⟨rfl, ?_⟩
        exact ⟨j154, f156⟩
      have q145 : ¬ (2147483654 ≤ v135) := q145
      refine x_aload (np := 21) (x := 0) (by decide +kernel) rfl (x_nc_le (by decide)) ?_
      have q157 : h137 69 0 = 70 := by have z := jB (e := 0) 0 j139 rg_69_0_0_1 (by decide) (by decide); omega
      refine x_getR (np := 24) (x := 768) (f := 0) (q := 70) (by decide +kernel) (by decide) (by decide +kernel) q157 ?_
      refine x_iload (np := 25) (x := 1) (by decide +kernel) rfl la1 ?_
      refine x_iload (np := 27) (x := 4) (by decide +kernel) rfl (by first | decide | omega) ?_
      refine x_nI (t := 7) (mj := 149) (n := 2) (rc := 0) (ml := 2) (nr := 1) (np := 30) (as := [iv_c a1, iv_c v135]) (rest := [x_r 70]) (lo1 := [iv_c a1, iv_c v135]) (by decide +kernel) (by decide) (by decide +kernel) (Or.inl rfl) rfl rfl (x_wi la1 (x_wi (by first | decide | omega) x_wn)) (x_wr (by decide) x_wn) (by decide) rfl ?_
      refine x_iload (np := 1) (x := 0) (by decide +kernel) rfl la1 ?_
      refine x_const (np := 3) (x := 9223372064772063238) (a := 2147483654) (by decide +kernel) (by decide) (by decide) ?_
      refine x_imul (np := 4) (x := 0) (i := u2) (j := 6) (v := (2147483648 + 6 * u2)) (by decide +kernel) (by first | decide | omega) (by first | decide | omega) (by first | decide | omega) (by first | decide | omega) la1 (by decide) ?_
      refine x_iload (np := 5) (x := 1) (by decide +kernel) rfl (by first | decide | omega) ?_
      refine x_iadd (np := 6) (x := 0) (v := (6 * u2 + v135)) (by decide +kernel) (by first | decide | omega) (by first | decide | omega) (by first | decide | omega) (by first | decide | omega) ?_
      refine x_retI (np := 7) (x := 0) (by decide +kernel) (by first | decide | omega) (Or.inl (by decide +kernel)) ⟨_, rfl, (by first | decide | omega), ?_⟩
      refine x_dup2 (np := 31) (x := 0) (by decide +kernel) (by have z := (iw_c_lt (a := (6 * u2 + v135)) (by first | decide | omega)).1; omega) (by have z := x_nc_le (k := 70) (by decide); unfold x_r; omega) ?_
      obtain ⟨u159, q160⟩ : ∃ z, v135 = 2147483648 + z := ⟨v135 - 2147483648, by first | decide | omega⟩
      refine x_aldC (np := 32) (x := 0) (n := 36) (i := (6 * u2 + u159)) (q := ((h137 70 (6 * u2 + u159)))) (by decide +kernel) (by decide +kernel) (by first | decide | omega) (by first | decide | omega) (by decide) rfl (fun l161 => ?_)
      refine x_iload (np := 33) (x := 3) (by decide +kernel) rfl la3 ?_
      refine x_const (np := 34) (x := 9223372034707292159) (a := 2147483647) (by decide +kernel) (by decide) (by decide) ?_
      refine x_any (np := 35) (k9 := 2) (by decide +kernel) (by decide) la3 (by decide) (fun v162 l163 => ?_)
      refine x_any (np := 36) (k9 := 0) (by decide +kernel) (by decide) l161 l163 (fun v164 l165 => ?_)
      refine x_ast (np := 37) (x := 0) (kd := 1) (n := 36) (i := (6 * u2 + u159)) (by decide +kernel) (Or.inl rfl) (by decide +kernel) (by first | decide | omega) (by first | decide | omega) (by decide) l165 (fun z => absurd z (by decide)) ?_
      have j167 := jU (e := (6 * u2 + u159)) (v := v164) (6 * u2 + u159) j139 rg_70_0_1_36 (by first | decide | omega) (by first | decide | omega) (by first | decide | omega)
      have f169 := jF (e := (6 * u2 + u159)) (v := v164) (6 * u2 + u159) f143 rg_70_0_1_36 (by first | decide | omega) (by first | decide | omega) (by decide)
      have f170 := jF (e := (6 * u2 + u159)) (v := v164) (6 * u2 + u159) f138 rg_70_0_1_36 (by first | decide | omega) (by first | decide | omega) (by decide)
      generalize e168 : x_up h137 70 (6 * u2 + u159) v164 = h166 at j167 f169 f170 ⊢
      refine x_iinc (np := 40) (i := 4) (j := 2147483649) (v := (1 + v135)) (lo' := [x_r 69, iv_c a1, iv_c a2, iv_c a3, iv_c (1 + v135)]) (by decide +kernel) (by decide) (by decide) rfl (by first | decide | omega) (by first | decide | omega) (by first | decide | omega) rfl ?_
      refine x_goto (np := 43) (x := 13) (by decide +kernel) ?_
      exact i142 (1 + v135) h166 (by first | decide | omega) (by first | decide | omega) j167 f170
  exact p140 _ 2147483648 h7 (Nat.lt_succ_self _) (by first | decide | omega) j8 (Fr.refl _ _)
set_option maxHeartbeats 0 in
/-- LentNames$Search.keepSet(I)V -/
theorem c279_69_c5 {sc : Nat × Nat} {d  : Nat} {h : xh} (hJ : J h) : X sc 279 d (xV fun h' => J h' ∧ Fr 65537 h h') 0 0 0 [x_r 69, iv_c 2147483653, 147573952589676412928, 147573952589676412928] [] h := by
  have hF := Fr.refl 65537 h
  refine x_aload (np := 1) (x := 0) (by decide +kernel) rfl (x_nc_le (by decide)) ?_
  refine x_dup (np := 2) (x := 0) (by decide +kernel) (by have z := x_nc_le (k := 69) (by decide); unfold x_r; omega) ?_
  refine x_getC (np := 5) (x := 776) (f := 8) (q := (h 69 8)) (by decide +kernel) (by decide) (by decide +kernel) rfl (fun l1 => ?_)
  refine x_const (np := 6) (x := 9223372043297226753) (a := 2147483649) (by decide +kernel) (by decide) (by decide) ?_
  refine x_addA (by rw [tb_b279]; decide +kernel) l1 (by decide) (fun v2 l3 => ?_)
  refine x_putI (np := 10) (x := 776) (f := 8) (by decide +kernel) (by decide +kernel) l3 (Or.inl (by decide)) ?_
  have j5 := jU (e := 8) (v := v2) 0 hJ rg_69_8_0_1 (by first | decide | omega) (by first | decide | omega) (by first | decide | omega)
  have f7 := jF (e := 8) (v := v2) 0 hF rg_69_8_0_1 (by first | decide | omega) (by first | decide | omega) (by decide)
  generalize e6 : x_up h 69 8 v2 = h4 at j5 f7 ⊢
  refine x_aload (np := 11) (x := 0) (by decide +kernel) rfl (x_nc_le (by decide)) ?_
  have q8 : h4 69 8 = v2 := by rw [← e6]; exact x_up_at
  refine x_getC (np := 14) (x := 776) (f := 8) (q := v2) (by decide +kernel) (by decide) (by decide +kernel) q8 (fun l9 => ?_)
  refine x_const (np := 15) (x := 9223372043297226753) (a := 2147483649) (by decide +kernel) (by decide) (by decide) ?_
  refine x_icmp (k := 5) (tg := 19) (np := 18) (by decide +kernel) (by decide) l3 (by decide) (fun q10 => ?_) (fun q11 => ?_)
  · have q10 : v2 ≤ 2147483649 := q10
    refine x_aload (np := 20) (x := 0) (by decide +kernel) rfl (x_nc_le (by decide)) ?_
    refine x_iload (np := 21) (x := 1) (by decide +kernel) rfl (by decide) ?_
    refine x_putI (np := 24) (x := 783) (f := 15) (by decide +kernel) (by decide +kernel) (by decide) (Or.inl (by decide)) ?_
    have j13 := jU (e := 15) (v := 2147483653) 0 j5 rg_69_15_0_1 (by first | decide | omega) (by first | decide | omega) (by first | decide | omega)
    have f15 := jF (e := 15) (v := 2147483653) 0 f7 rg_69_15_0_1 (by first | decide | omega) (by first | decide | omega) (by decide)
    generalize e14 : x_up h4 69 15 2147483653 = h12 at j13 f15 ⊢
    refine x_const (np := 25) (x := 9223372039002259456) (a := 2147483648) (by decide +kernel) (by decide) (by decide) ?_
    refine x_istore (np := 26) (x := 2) (lo' := [x_r 69, iv_c 2147483653, iv_c 2147483648, 147573952589676412928]) (by decide +kernel) (by decide) (Nat.le_of_ble_eq_true rfl) rfl ?_
    have p622 : ∀ (n : Nat) (v616 : Nat) (w618 : Nat) (h619 : xh), 4294967296 - v616 < n → (2147483648 ≤ v616 ∧ v616 ≤ 2147483653) → J h619 → Fr 65536 h12 h619 → X sc 279 d (xV fun h' => J h' ∧ Fr 65537 h h') 0 0 26 [x_r 69, iv_c 2147483653, iv_c v616, w618] [] h619 := by
      intro n
      induction n with
      | zero => intro v616 w618 h619 q623; exact absurd q623 (Nat.not_lt_zero _)
      | succ n i624 =>
        intro v616 w618 h619 q623 b617 j621 f620
        have f625 := Fr.trans f15 f620 (by decide)
        refine x_iload (np := 27) (x := 2) (by decide +kernel) rfl (by first | decide | omega) ?_
        refine x_aload (np := 28) (x := 0) (by decide +kernel) rfl (x_nc_le (by decide)) ?_
        have b626 := jB (e := 15) 0 j621 rg_69_15_0_1 (by first | decide | omega) (by first | decide | omega)
        refine x_getC (np := 31) (x := 783) (f := 15) (q := (h619 69 15)) (by decide +kernel) (by decide) (by decide +kernel) rfl (fun l627 => ?_)
        refine x_icmp (k := 3) (tg := 95) (np := 34) (by decide +kernel) (by decide) (by first | decide | omega) l627 (fun q628 => ?_) (fun q629 => ?_)
        · have q628 : (h619 69 15) ≤ v616 := q628
          refine x_retV (np := 96) (x := 0) (by decide +kernel) (by decide +kernel) ⟨rfl, ?_⟩
          exact ⟨j621, f625⟩
        have q629 : ¬ ((h619 69 15) ≤ v616) := q629
        refine x_iload (np := 35) (x := 2) (by decide +kernel) rfl (by first | decide | omega) ?_
        refine x_istore (np := 36) (x := 3) (lo' := [x_r 69, iv_c 2147483653, iv_c v616, iv_c v616]) (by decide +kernel) (by first | decide | omega) (Nat.le_of_ble_eq_true rfl) rfl ?_
        have p704 : ∀ (n : Nat) (v699 : Nat) (h701 : xh), v699 < n → (2147483648 ≤ v699 ∧ v699 ≤ 2147483652) → J h701 → Fr 65536 h619 h701 → X sc 279 d (xV fun h' => J h' ∧ Fr 65537 h h') 0 0 36 [x_r 69, iv_c 2147483653, iv_c v616, iv_c v699] [] h701 := by
          intro n
          induction n with
          | zero => intro v699 h701 q705; exact absurd q705 (Nat.not_lt_zero _)
          | succ n i706 =>
            intro v699 h701 q705 b700 j703 f702
            have f707 := Fr.trans f625 f702 (by decide)
            have f708 := Fr.trans f620 f702 (by decide)
            refine x_iload (np := 37) (x := 3) (by decide +kernel) rfl (by first | decide | omega) ?_
            refine x_ifz (k := 5) (tg := 77) (np := 40) (by decide +kernel) (by decide) (by first | decide | omega) (fun q709 => ?_) (fun q710 => ?_)
            · have q709 : v699 ≤ 2147483648 := q709
              refine x_aload (np := 78) (x := 0) (by decide +kernel) rfl (x_nc_le (by decide)) ?_
              have q711 : h701 69 4 = 74 := by have z := jB (e := 4) 0 j703 rg_69_4_0_1 (by decide) (by decide); omega
              refine x_getR (np := 81) (x := 772) (f := 4) (q := 74) (by decide +kernel) (by decide) (by decide +kernel) q711 ?_
              refine x_iload (np := 82) (x := 3) (by decide +kernel) rfl (by first | decide | omega) ?_
              refine x_aload (np := 83) (x := 0) (by decide +kernel) rfl (x_nc_le (by decide)) ?_
              have q712 : h701 69 3 = 73 := by have z := jB (e := 3) 0 j703 rg_69_3_0_1 (by decide) (by decide); omega
              refine x_getR (np := 86) (x := 771) (f := 3) (q := 73) (by decide +kernel) (by decide) (by decide +kernel) q712 ?_
              refine x_iload (np := 87) (x := 2) (by decide +kernel) rfl (by first | decide | omega) ?_
              obtain ⟨u713, q714⟩ : ∃ z, v616 = 2147483648 + z := ⟨v616 - 2147483648, by first | decide | omega⟩
              refine x_aldC (np := 88) (x := 0) (n := 5) (i := u713) (q := (h701 73 u713)) (by decide +kernel) (by decide +kernel) (by first | decide | omega) (by first | decide | omega) (by decide) rfl (fun l715 => ?_)
              obtain ⟨u716, q717⟩ : ∃ z, v699 = 2147483648 + z := ⟨v699 - 2147483648, by first | decide | omega⟩
              refine x_ast (np := 89) (x := 0) (kd := 1) (n := 5) (i := u716) (by decide +kernel) (Or.inl rfl) (by decide +kernel) (by first | decide | omega) (by first | decide | omega) (by decide) l715 (fun z => absurd z (by decide)) ?_
              have j719 := jU (e := u716) (v := (h701 73 u713)) u716 j703 rg_74_0_1_5 (by first | decide | omega) (by first | decide | omega) (by first | decide | omega)
              have f721 := jF (e := u716) (v := (h701 73 u713)) u716 f707 rg_74_0_1_5 (by first | decide | omega) (by first | decide | omega) (by decide)
              have f722 := jF (e := u716) (v := (h701 73 u713)) u716 f708 rg_74_0_1_5 (by first | decide | omega) (by first | decide | omega) (by decide)
              generalize e720 : x_up h701 74 u716 (h701 73 u713) = h718 at j719 f721 f722 ⊢
              refine x_iinc (np := 92) (i := 2) (j := 2147483649) (v := (1 + v616)) (lo' := [x_r 69, iv_c 2147483653, iv_c (1 + v616), iv_c v699]) (by decide +kernel) (by decide) (by decide) rfl (by first | decide | omega) (by first | decide | omega) (by first | decide | omega) rfl ?_
              refine x_goto (np := 95) (x := 26) (by decide +kernel) ?_
              exact i624 (1 + v616) (iv_c v699) h718 (by first | decide | omega) (by first | decide | omega) j719 f722
            have q710 : ¬ (v699 ≤ 2147483648) := q710
            refine x_aload (np := 41) (x := 0) (by decide +kernel) rfl (x_nc_le (by decide)) ?_
            have q723 : h701 69 4 = 74 := by have z := jB (e := 4) 0 j703 rg_69_4_0_1 (by decide) (by decide); omega
            refine x_getR (np := 44) (x := 772) (f := 4) (q := 74) (by decide +kernel) (by decide) (by decide +kernel) q723 ?_
            refine x_iload (np := 45) (x := 3) (by decide +kernel) rfl (by first | decide | omega) ?_
            refine x_const (np := 46) (x := 9223372043297226753) (a := 2147483649) (by decide +kernel) (by decide) (by decide) ?_
            obtain ⟨v724, q725⟩ : ∃ z, z + 2147483649 = v699 + 2147483648 := ⟨v699 + 2147483648 - 2147483649, by first | decide | omega⟩
            refine x_isub (np := 47) (x := 0) (v := v724) (by decide +kernel) (by first | decide | omega) (by decide) (by first | decide | omega) (by first | decide | omega) ?_
            obtain ⟨u726, q727⟩ : ∃ z, v724 = 2147483648 + z := ⟨v724 - 2147483648, by first | decide | omega⟩
            refine x_aldC (np := 48) (x := 0) (n := 5) (i := u726) (q := (h701 74 u726)) (by decide +kernel) (by decide +kernel) (by first | decide | omega) (by first | decide | omega) (by decide) rfl (fun l728 => ?_)
            refine x_aload (np := 49) (x := 0) (by decide +kernel) rfl (x_nc_le (by decide)) ?_
            have q729 : h701 69 3 = 73 := by have z := jB (e := 3) 0 j703 rg_69_3_0_1 (by decide) (by decide); omega
            refine x_getR (np := 52) (x := 771) (f := 3) (q := 73) (by decide +kernel) (by decide) (by decide +kernel) q729 ?_
            refine x_iload (np := 53) (x := 2) (by decide +kernel) rfl (by first | decide | omega) ?_
            obtain ⟨u730, q731⟩ : ∃ z, v616 = 2147483648 + z := ⟨v616 - 2147483648, by first | decide | omega⟩
            refine x_aldC (np := 54) (x := 0) (n := 5) (i := u730) (q := (h701 73 u730)) (by decide +kernel) (by decide +kernel) (by first | decide | omega) (by first | decide | omega) (by decide) rfl (fun l732 => ?_)
            refine x_icmp (k := 5) (tg := 77) (np := 57) (by decide +kernel) (by decide) l728 l732 (fun q733 => ?_) (fun q734 => ?_)
            · have q733 : (h701 74 u726) ≤ (h701 73 u730) := q733
              refine x_aload (np := 78) (x := 0) (by decide +kernel) rfl (x_nc_le (by decide)) ?_
              have q735 : h701 69 4 = 74 := by have z := jB (e := 4) 0 j703 rg_69_4_0_1 (by decide) (by decide); omega
              refine x_getR (np := 81) (x := 772) (f := 4) (q := 74) (by decide +kernel) (by decide) (by decide +kernel) q735 ?_
              refine x_iload (np := 82) (x := 3) (by decide +kernel) rfl (by first | decide | omega) ?_
              refine x_aload (np := 83) (x := 0) (by decide +kernel) rfl (x_nc_le (by decide)) ?_
              have q736 : h701 69 3 = 73 := by have z := jB (e := 3) 0 j703 rg_69_3_0_1 (by decide) (by decide); omega
              refine x_getR (np := 86) (x := 771) (f := 3) (q := 73) (by decide +kernel) (by decide) (by decide +kernel) q736 ?_
              refine x_iload (np := 87) (x := 2) (by decide +kernel) rfl (by first | decide | omega) ?_
              refine x_aldC (np := 88) (x := 0) (n := 5) (i := u730) (q := (h701 73 u730)) (by decide +kernel) (by decide +kernel) (by first | decide | omega) (by first | decide | omega) (by decide) rfl (fun l737 => ?_)
              obtain ⟨u738, q739⟩ : ∃ z, v699 = 2147483648 + z := ⟨v699 - 2147483648, by first | decide | omega⟩
              refine x_ast (np := 89) (x := 0) (kd := 1) (n := 5) (i := u738) (by decide +kernel) (Or.inl rfl) (by decide +kernel) (by first | decide | omega) (by first | decide | omega) (by decide) l732 (fun z => absurd z (by decide)) ?_
              have j741 := jU (e := u738) (v := (h701 73 u730)) u738 j703 rg_74_0_1_5 (by first | decide | omega) (by first | decide | omega) (by first | decide | omega)
              have f743 := jF (e := u738) (v := (h701 73 u730)) u738 f707 rg_74_0_1_5 (by first | decide | omega) (by first | decide | omega) (by decide)
              have f744 := jF (e := u738) (v := (h701 73 u730)) u738 f708 rg_74_0_1_5 (by first | decide | omega) (by first | decide | omega) (by decide)
              generalize e742 : x_up h701 74 u738 (h701 73 u730) = h740 at j741 f743 f744 ⊢
              refine x_iinc (np := 92) (i := 2) (j := 2147483649) (v := (1 + v616)) (lo' := [x_r 69, iv_c 2147483653, iv_c (1 + v616), iv_c v699]) (by decide +kernel) (by decide) (by decide) rfl (by first | decide | omega) (by first | decide | omega) (by first | decide | omega) rfl ?_
              refine x_goto (np := 95) (x := 26) (by decide +kernel) ?_
              exact i624 (1 + v616) (iv_c v699) h740 (by first | decide | omega) (by first | decide | omega) j741 f744
            have q734 : ¬ ((h701 74 u726) ≤ (h701 73 u730)) := q734
            refine x_aload (np := 58) (x := 0) (by decide +kernel) rfl (x_nc_le (by decide)) ?_
            have q745 : h701 69 4 = 74 := by have z := jB (e := 4) 0 j703 rg_69_4_0_1 (by decide) (by decide); omega
            refine x_getR (np := 61) (x := 772) (f := 4) (q := 74) (by decide +kernel) (by decide) (by decide +kernel) q745 ?_
            refine x_iload (np := 62) (x := 3) (by decide +kernel) rfl (by first | decide | omega) ?_
            refine x_aload (np := 63) (x := 0) (by decide +kernel) rfl (x_nc_le (by decide)) ?_
            have q746 : h701 69 4 = 74 := by have z := jB (e := 4) 0 j703 rg_69_4_0_1 (by decide) (by decide); omega
            refine x_getR (np := 66) (x := 772) (f := 4) (q := 74) (by decide +kernel) (by decide) (by decide +kernel) q746 ?_
            refine x_iload (np := 67) (x := 3) (by decide +kernel) rfl (by first | decide | omega) ?_
            refine x_const (np := 68) (x := 9223372043297226753) (a := 2147483649) (by decide +kernel) (by decide) (by decide) ?_
            obtain ⟨v747, q748⟩ : ∃ z, z + 2147483649 = v699 + 2147483648 := ⟨v699 + 2147483648 - 2147483649, by first | decide | omega⟩
            refine x_isub (np := 69) (x := 0) (v := v747) (by decide +kernel) (by first | decide | omega) (by decide) (by first | decide | omega) (by first | decide | omega) ?_
            obtain ⟨u749, q750⟩ : ∃ z, v747 = 2147483648 + z := ⟨v747 - 2147483648, by first | decide | omega⟩
            refine x_aldC (np := 70) (x := 0) (n := 5) (i := u749) (q := (h701 74 u749)) (by decide +kernel) (by decide +kernel) (by first | decide | omega) (by first | decide | omega) (by decide) rfl (fun l751 => ?_)
            obtain ⟨u752, q753⟩ : ∃ z, v699 = 2147483648 + z := ⟨v699 - 2147483648, by first | decide | omega⟩
            refine x_ast (np := 71) (x := 0) (kd := 1) (n := 5) (i := u752) (by decide +kernel) (Or.inl rfl) (by decide +kernel) (by first | decide | omega) (by first | decide | omega) (by decide) l751 (fun z => absurd z (by decide)) ?_
            have j755 := jU (e := u752) (v := (h701 74 u749)) u752 j703 rg_74_0_1_5 (by first | decide | omega) (by first | decide | omega) (by first | decide | omega)
            have f757 := jF (e := u752) (v := (h701 74 u749)) u752 f707 rg_74_0_1_5 (by first | decide | omega) (by first | decide | omega) (by decide)
            have f758 := jF (e := u752) (v := (h701 74 u749)) u752 f708 rg_74_0_1_5 (by first | decide | omega) (by first | decide | omega) (by decide)
            have f759 := jF (e := u752) (v := (h701 74 u749)) u752 f702 rg_74_0_1_5 (by first | decide | omega) (by first | decide | omega) (by decide)
            generalize e756 : x_up h701 74 u752 (h701 74 u749) = h754 at j755 f757 f758 f759 ⊢
            obtain ⟨v760, q761⟩ : ∃ z, z + 1 = v699 := ⟨v699 - 1, by first | decide | omega⟩
            refine x_iinc (np := 74) (i := 3) (j := 2147483647) (v := v760) (lo' := [x_r 69, iv_c 2147483653, iv_c v616, iv_c v760]) (by decide +kernel) (by decide) (by decide) rfl (by first | decide | omega) (by first | decide | omega) (by first | decide | omega) rfl ?_
            refine x_goto (np := 77) (x := 36) (by decide +kernel) ?_
            exact i706 v760 h754 (by first | decide | omega) (by first | decide | omega) j755 f759
        exact p704 _ v616 h619 (Nat.lt_succ_self _) (by first | decide | omega) j621 (Fr.refl _ _)
    exact p622 _ 2147483648 147573952589676412928 h12 (Nat.lt_succ_self _) (by first | decide | omega) j13 (Fr.refl _ _)
  have q11 : ¬ (v2 ≤ 2147483649) := q11
  refine x_retV (np := 19) (x := 0) (by decide +kernel) (by decide +kernel) ⟨rfl, ?_⟩
  exact ⟨j5, f7⟩
set_option maxHeartbeats 0 in
/-- LentNames$Search.come(I)V -/
theorem c274_69_c5 {sc : Nat × Nat} {d  : Nat} {h : xh} (hJ : J h) : X sc 274 (d + 3) (xV fun h' => J h' ∧ Fr 65537 h h') 0 0 0 [x_r 69, iv_c 2147483653] [] h := by
  have hF := Fr.refl 65537 h
  refine x_aload (np := 1) (x := 0) (by decide +kernel) rfl (x_nc_le (by decide)) ?_
  refine x_dup (np := 2) (x := 0) (by decide +kernel) (by have z := x_nc_le (k := 69) (by decide); unfold x_r; omega) ?_
  refine x_getC (np := 5) (x := 785) (f := 17) (q := (h 69 17)) (by decide +kernel) (by decide) (by decide +kernel) rfl (fun l1 => ?_)
  refine x_const (np := 6) (x := 9223372043297226753) (a := 2147483649) (by decide +kernel) (by decide) (by decide) ?_
  refine x_addA (by rw [tb_b274]; decide +kernel) l1 (by decide) (fun v2 l3 => ?_)
  refine x_putI (np := 10) (x := 785) (f := 17) (by decide +kernel) (by decide +kernel) l3 (Or.inl (by decide)) ?_
  have j5 := jU (e := 17) (v := v2) 0 hJ rg_69_17_0_1 (by first | decide | omega) (by first | decide | omega) (by first | decide | omega)
  have f7 := jF (e := 17) (v := v2) 0 hF rg_69_17_0_1 (by first | decide | omega) (by first | decide | omega) (by decide)
  generalize e6 : x_up h 69 17 v2 = h4 at j5 f7 ⊢
  refine x_aload (np := 11) (x := 0) (by decide +kernel) rfl (x_nc_le (by decide)) ?_
  have q8 : h4 69 17 = v2 := by rw [← e6]; exact x_up_at
  refine x_getC (np := 14) (x := 785) (f := 17) (q := v2) (by decide +kernel) (by decide) (by decide +kernel) q8 (fun l9 => ?_)
  refine x_const (np := 17) (x := 9223457938348199456) (a := 2147503648) (by decide +kernel) (by decide) (by decide) ?_
  refine x_icmp (k := 5) (tg := 28) (np := 20) (by decide +kernel) (by decide) l3 (by decide) (fun q10 => ?_) (fun q11 => ?_)
  · have q10 : v2 ≤ 2147503648 := q10
    refine x_aload (np := 29) (x := 0) (by decide +kernel) rfl (x_nc_le (by decide)) ?_
    refine x_vI (np := 32) (x := 5246979) (kk := 3) (cls := 5) (mj := 63) (ml := 3) (nr := 0) (rest := []) (lo1 := [x_r 69, 147573952589676412928, 147573952589676412928]) (by decide +kernel) (by decide) (by decide) (by decide) (by decide +kernel) (by decide +kernel) (by decide) (by decide +kernel) (by decide +kernel) x_wn (by decide) rfl (c63_69 j5) (fun v12 h15 l13 q14 => ?_)
    obtain ⟨j16, f17, b18⟩ := q14
    have f19 := Fr.trans f7 f17 (by decide)
    refine x_ifz (k := 1) (tg := 43) (np := 35) (by decide +kernel) (by decide) l13 (fun q20 => ?_) (fun q21 => ?_)
    · have q20 : v12 ≠ 2147483648 := q20
      refine x_iload (np := 44) (x := 1) (by decide +kernel) rfl (by decide) ?_
      refine x_aload (np := 45) (x := 0) (by decide +kernel) rfl (x_nc_le (by decide)) ?_
      refine x_getC (np := 48) (x := 784) (f := 16) (q := (h15 69 16)) (by decide +kernel) (by decide) (by decide +kernel) rfl (fun l22 => ?_)
      refine x_icmp (k := 3) (tg := 61) (np := 51) (by decide +kernel) (by decide) (by decide) l22 (fun q23 => ?_) (fun q24 => ?_)
      · have q23 : (h15 69 16) ≤ 2147483653 := q23
        refine x_retV (np := 62) (x := 0) (by decide +kernel) (by decide +kernel) ⟨rfl, ?_⟩
        exact ⟨j16, f19⟩
      have q24 : ¬ ((h15 69 16) ≤ 2147483653) := q24
      refine x_iload (np := 52) (x := 1) (by decide +kernel) rfl (by decide) ?_
      refine x_const (np := 53) (x := 9223372060477095941) (a := 2147483653) (by decide +kernel) (by decide) (by decide) ?_
      refine x_icmp (k := 3) (tg := 61) (np := 56) (by decide +kernel) (by decide) (by decide) (by decide) (fun q25 => ?_) (fun q26 => ?_)
      · have q25 : 2147483653 ≤ 2147483653 := q25
        refine x_retV (np := 62) (x := 0) (by decide +kernel) (by decide +kernel) ⟨rfl, ?_⟩
        exact ⟨j16, f19⟩
      have q26 : ¬ (2147483653 ≤ 2147483653) := q26
      exfalso; omega
    have q21 : ¬ (v12 ≠ 2147483648) := q21
    refine x_aload (np := 36) (x := 0) (by decide +kernel) rfl (x_nc_le (by decide)) ?_
    refine x_iload (np := 37) (x := 1) (by decide +kernel) rfl (by decide) ?_
    refine x_cV (t := 8) (mj := 279) (n := 2) (rc := 13) (ml := 4) (nr := 0) (np := 40) (as := [x_r 69, iv_c 2147483653]) (rest := []) (lo1 := [x_r 69, iv_c 2147483653, 147573952589676412928, 147573952589676412928]) (by decide +kernel) (by decide) (by decide +kernel) (x_rb_of (by decide +kernel)) rfl rfl (x_wr (by decide) (x_wi (by decide) x_wn)) x_wn (by decide) rfl (c279_69_c5 j16  ) (fun h30 q29 => ?_)
    obtain ⟨j31, f32⟩ := q29
    have f35 := Fr.trans f19 f32 (by decide)
    refine x_goto (np := 43) (x := 61) (by decide +kernel) ?_
    refine x_retV (np := 62) (x := 0) (by decide +kernel) (by decide +kernel) ⟨rfl, ?_⟩
    exact ⟨j31, f35⟩
  have q11 : ¬ (v2 ≤ 2147503648) := q11
  refine x_aload (np := 21) (x := 0) (by decide +kernel) rfl (x_nc_le (by decide)) ?_
  refine x_const (np := 22) (x := 9223372043297226753) (a := 2147483649) (by decide +kernel) (by decide) (by decide) ?_
  refine x_putI (np := 25) (x := 4873) (f := 9) (by decide +kernel) (by decide +kernel) (by decide) (Or.inr ⟨by decide, by first | decide | omega, by first | decide | omega⟩) ?_
  have j37 := jU (e := 9) (v := 2147483649) 0 j5 rg_69_9_0_1 (by first | decide | omega) (by first | decide | omega) (by first | decide | omega)
  have f39 := jF (e := 9) (v := 2147483649) 0 f7 rg_69_9_0_1 (by first | decide | omega) (by first | decide | omega) (by decide)
  generalize e38 : x_up h4 69 9 2147483649 = h36 at j37 f39 ⊢
  refine x_goto (np := 28) (x := 61) (by decide +kernel) ?_
  refine x_retV (np := 62) (x := 0) (by decide +kernel) (by decide +kernel) ⟨rfl, ?_⟩
  exact ⟨j37, f39⟩
set_option maxHeartbeats 0 in
/-- LentNames$Search.giveBack(II)V -/
theorem c281_69 {sc : Nat × Nat} {d a1 a2 : Nat} {h : xh} (hJ : J h) (ba1 : 2147483648 ≤ a1 ∧ a1 ≤ 2147483653) (ba2 : 0 ≤ a2 ∧ a2 ≤ 4294967295) : X sc 281 (d + 1) (xV fun h' => J h' ∧ Fr 65537 h h') 0 0 0 [x_r 69, iv_c a1, iv_c a2, 147573952589676412928, 147573952589676412928] [] h := by
  have la1 : a1 < 4294967296 := by first | decide | omega
  have la2 : a2 < 4294967296 := by first | decide | omega
  have hF := Fr.refl 65537 h
  refine x_aload (np := 1) (x := 0) (by decide +kernel) rfl (x_nc_le (by decide)) ?_
  have q1 : h 69 2 = 72 := by have z := jB (e := 2) 0 hJ rg_69_2_0_1 (by decide) (by decide); omega
  refine x_getR (np := 4) (x := 770) (f := 2) (q := 72) (by decide +kernel) (by decide) (by decide +kernel) q1 ?_
  refine x_iload (np := 5) (x := 1) (by decide +kernel) rfl la1 ?_
  refine x_dup2 (np := 6) (x := 0) (by decide +kernel) (by have z := (iw_c_lt (a := a1) la1).1; omega) (by have z := x_nc_le (k := 72) (by decide); unfold x_r; omega) ?_
  obtain ⟨u2, q3⟩ : ∃ z, a1 = 2147483648 + z := ⟨a1 - 2147483648, by first | decide | omega⟩
  refine x_aldC (np := 7) (x := 0) (n := 6) (i := u2) (q := (h 72 u2)) (by decide +kernel) (by decide +kernel) (by first | decide | omega) (by first | decide | omega) (by decide) rfl (fun l4 => ?_)
  refine x_iload (np := 8) (x := 2) (by decide +kernel) rfl la2 ?_
  refine x_const (np := 9) (x := 9223372034707292159) (a := 2147483647) (by decide +kernel) (by decide) (by decide) ?_
  refine x_any (np := 10) (k9 := 2) (by decide +kernel) (by decide) la2 (by decide) (fun v5 l6 => ?_)
  refine x_any (np := 11) (k9 := 0) (by decide +kernel) (by decide) l4 l6 (fun v7 l8 => ?_)
  refine x_ast (np := 12) (x := 0) (kd := 1) (n := 6) (i := u2) (by decide +kernel) (Or.inl rfl) (by decide +kernel) (by first | decide | omega) (by first | decide | omega) (by decide) l8 (fun z => absurd z (by decide)) ?_
  have j10 := jU (e := u2) (v := v7) u2 hJ rg_72_0_1_6 (by first | decide | omega) (by first | decide | omega) (by first | decide | omega)
  have f12 := jF (e := u2) (v := v7) u2 hF rg_72_0_1_6 (by first | decide | omega) (by first | decide | omega) (by decide)
  generalize e11 : x_up h 72 u2 v7 = h9 at j10 f12 ⊢
  refine x_const (np := 13) (x := 9223372039002259456) (a := 2147483648) (by decide +kernel) (by decide) (by decide) ?_
  refine x_istore (np := 14) (x := 3) (lo' := [x_r 69, iv_c a1, iv_c a2, iv_c 2147483648, 147573952589676412928]) (by decide +kernel) (by decide) (Nat.le_of_ble_eq_true rfl) rfl ?_
  have p208 : ∀ (n : Nat) (v202 : Nat) (w204 : Nat) (h205 : xh), 4294967296 - v202 < n → (2147483648 ≤ v202 ∧ v202 ≤ 2147483654) → J h205 → Fr 65536 h9 h205 → X sc 281 (d + 1) (xV fun h' => J h' ∧ Fr 65537 h h') 0 0 14 [x_r 69, iv_c a1, iv_c a2, iv_c v202, w204] [] h205 := by
    intro n
    induction n with
    | zero => intro v202 w204 h205 q209; exact absurd q209 (Nat.not_lt_zero _)
    | succ n i210 =>
      intro v202 w204 h205 q209 b203 j207 f206
      have f211 := Fr.trans f12 f206 (by decide)
      refine x_iload (np := 15) (x := 3) (by decide +kernel) rfl (by first | decide | omega) ?_
      refine x_const (np := 17) (x := 9223372064772063238) (a := 2147483654) (by decide +kernel) (by decide) (by decide) ?_
      refine x_icmp (k := 3) (tg := 64) (np := 20) (by decide +kernel) (by decide) (by first | decide | omega) (by decide) (fun q212 => ?_) (fun q213 => ?_)
      · have q212 : 2147483654 ≤ v202 := q212
        refine x_retV (np := 65) (x := 0) (by decide +kernel) (by decide +kernel) ⟨rfl, ?_⟩
        exact ⟨j207, f211⟩
      have q213 : ¬ (2147483654 ≤ v202) := q213
      refine x_iload (np := 21) (x := 1) (by decide +kernel) rfl la1 ?_
      refine x_iload (np := 22) (x := 3) (by decide +kernel) rfl (by first | decide | omega) ?_
      refine x_nI (t := 7) (mj := 149) (n := 2) (rc := 0) (ml := 2) (nr := 0) (np := 25) (as := [iv_c a1, iv_c v202]) (rest := []) (lo1 := [iv_c a1, iv_c v202]) (by decide +kernel) (by decide) (by decide +kernel) (Or.inl rfl) rfl rfl (x_wi la1 (x_wi (by first | decide | omega) x_wn)) x_wn (by decide) rfl ?_
      refine x_iload (np := 1) (x := 0) (by decide +kernel) rfl la1 ?_
      refine x_const (np := 3) (x := 9223372064772063238) (a := 2147483654) (by decide +kernel) (by decide) (by decide) ?_
      refine x_imul (np := 4) (x := 0) (i := u2) (j := 6) (v := (2147483648 + 6 * u2)) (by decide +kernel) (by first | decide | omega) (by first | decide | omega) (by first | decide | omega) (by first | decide | omega) la1 (by decide) ?_
      refine x_iload (np := 5) (x := 1) (by decide +kernel) rfl (by first | decide | omega) ?_
      refine x_iadd (np := 6) (x := 0) (v := (6 * u2 + v202)) (by decide +kernel) (by first | decide | omega) (by first | decide | omega) (by first | decide | omega) (by first | decide | omega) ?_
      refine x_retI (np := 7) (x := 0) (by decide +kernel) (by first | decide | omega) (Or.inl (by decide +kernel)) ⟨_, rfl, (by first | decide | omega), ?_⟩
      refine x_istore (np := 27) (x := 4) (lo' := [x_r 69, iv_c a1, iv_c a2, iv_c v202, iv_c (6 * u2 + v202)]) (by decide +kernel) (by first | decide | omega) (Nat.le_of_ble_eq_true rfl) rfl ?_
      refine x_aload (np := 28) (x := 0) (by decide +kernel) rfl (x_nc_le (by decide)) ?_
      have q215 : h205 69 0 = 70 := by have z := jB (e := 0) 0 j207 rg_69_0_0_1 (by decide) (by decide); omega
      refine x_getR (np := 31) (x := 768) (f := 0) (q := 70) (by decide +kernel) (by decide) (by decide +kernel) q215 ?_
      refine x_iload (np := 33) (x := 4) (by decide +kernel) rfl (by first | decide | omega) ?_
      refine x_aload (np := 34) (x := 0) (by decide +kernel) rfl (x_nc_le (by decide)) ?_
      have q216 : h205 69 0 = 70 := by have z := jB (e := 0) 0 j207 rg_69_0_0_1 (by decide) (by decide); omega
      refine x_getR (np := 37) (x := 768) (f := 0) (q := 70) (by decide +kernel) (by decide) (by decide +kernel) q216 ?_
      refine x_iload (np := 39) (x := 4) (by decide +kernel) rfl (by first | decide | omega) ?_
      obtain ⟨u217, q218⟩ : ∃ z, v202 = 2147483648 + z := ⟨v202 - 2147483648, by first | decide | omega⟩
      refine x_aldC (np := 40) (x := 0) (n := 36) (i := (6 * u2 + u217)) (q := ((h205 70 (6 * u2 + u217)))) (by decide +kernel) (by decide +kernel) (by first | decide | omega) (by first | decide | omega) (by decide) rfl (fun l219 => ?_)
      refine x_iload (np := 41) (x := 2) (by decide +kernel) rfl la2 ?_
      refine x_const (np := 42) (x := 9223372034707292159) (a := 2147483647) (by decide +kernel) (by decide) (by decide) ?_
      refine x_any (np := 43) (k9 := 2) (by decide +kernel) (by decide) la2 (by decide) (fun v220 l221 => ?_)
      refine x_any (np := 44) (k9 := 0) (by decide +kernel) (by decide) l219 l221 (fun v222 l223 => ?_)
      refine x_aload (np := 45) (x := 0) (by decide +kernel) rfl (x_nc_le (by decide)) ?_
      have q224 : h205 69 5 = 45 := by have z := jB (e := 5) 0 j207 rg_69_5_0_1 (by decide) (by decide); omega
      refine x_getR (np := 48) (x := 773) (f := 5) (q := 45) (by decide +kernel) (by decide) (by decide +kernel) q224 ?_
      have q225 : h205 45 1 = 47 := by have z := jB (e := 1) 0 j207 rg_45_1_0_1 (by decide) (by decide); omega
      refine x_getR (np := 51) (x := 65) (f := 1) (q := 47) (by decide +kernel) (by decide) (by decide +kernel) q225 ?_
      refine x_iload (np := 53) (x := 4) (by decide +kernel) rfl (by first | decide | omega) ?_
      have q226 : h205 47 (6 * u2 + u217) = h9 47 (6 * u2 + u217) := jK (6 * u2 + u217) f206 rg_47_0_1_36 (by first | decide | omega) (by first | decide | omega) (by decide)
      have q227 : h9 47 (6 * u2 + u217) = h 47 (6 * u2 + u217) := by rw [← e11]; exact x_up_k (by decide)
      refine x_aldC (np := 54) (x := 0) (n := 36) (i := (6 * u2 + u217)) (q := ((h 47 (6 * u2 + u217)))) (by decide +kernel) (by decide +kernel) (by first | decide | omega) (by first | decide | omega) (by decide) (q226.trans q227) (fun l228 => ?_)
      refine x_iload (np := 55) (x := 2) (by decide +kernel) rfl la2 ?_
      refine x_any (np := 56) (k9 := 0) (by decide +kernel) (by decide) l228 la2 (fun v229 l230 => ?_)
      refine x_any (np := 57) (k9 := 1) (by decide +kernel) (by decide) l223 l230 (fun v231 l232 => ?_)
      refine x_ast (np := 58) (x := 0) (kd := 1) (n := 36) (i := (6 * u2 + u217)) (by decide +kernel) (Or.inl rfl) (by decide +kernel) (by first | decide | omega) (by first | decide | omega) (by decide) l232 (fun z => absurd z (by decide)) ?_
      have j234 := jU (e := (6 * u2 + u217)) (v := v231) (6 * u2 + u217) j207 rg_70_0_1_36 (by first | decide | omega) (by first | decide | omega) (by first | decide | omega)
      have f236 := jF (e := (6 * u2 + u217)) (v := v231) (6 * u2 + u217) f211 rg_70_0_1_36 (by first | decide | omega) (by first | decide | omega) (by decide)
      have f237 := jF (e := (6 * u2 + u217)) (v := v231) (6 * u2 + u217) f206 rg_70_0_1_36 (by first | decide | omega) (by first | decide | omega) (by decide)
      generalize e235 : x_up h205 70 (6 * u2 + u217) v231 = h233 at j234 f236 f237 ⊢
      refine x_iinc (np := 61) (i := 3) (j := 2147483649) (v := (1 + v202)) (lo' := [x_r 69, iv_c a1, iv_c a2, iv_c (1 + v202), iv_c (6 * u2 + v202)]) (by decide +kernel) (by decide) (by decide) rfl (by first | decide | omega) (by first | decide | omega) (by first | decide | omega) rfl ?_
      refine x_goto (np := 64) (x := 14) (by decide +kernel) ?_
      exact i210 (1 + v202) (iv_c (6 * u2 + v202)) h233 (by first | decide | omega) (by first | decide | omega) j234 f237
  exact p208 _ 2147483648 147573952589676412928 h9 (Nat.lt_succ_self _) (by first | decide | omega) j10 (Fr.refl _ _)
set_option maxHeartbeats 0 in
/-- LentNames$Search.tryLoan(IIIII)V -/
theorem c277_69_c4 {sc : Nat × Nat} {d a2 a3 a4 a5 : Nat} {h : xh} (hJ : J h) (ba2 : 2147483648 ≤ a2 ∧ a2 ≤ 2147483653) (ba3 : 2147483648 ≤ a3 ∧ a3 ≤ 2147483653) (ba4 : 2147483648 ≤ a4 ∧ a4 ≤ 2147483659) (ba5 : 2147483648 ≤ a5 ∧ a5 ≤ 2147483659) : X sc 277 (d + 4) (xV fun h' => J h' ∧ Fr 65537 h h') 0 0 0 [x_r 69, iv_c 2147483652, iv_c a2, iv_c a3, iv_c a4, iv_c a5, 147573952589676412928] [] h := by
  have la2 : a2 < 4294967296 := by first | decide | omega
  have la3 : a3 < 4294967296 := by first | decide | omega
  have la4 : a4 < 4294967296 := by first | decide | omega
  have la5 : a5 < 4294967296 := by first | decide | omega
  have hF := Fr.refl 65537 h
  refine x_const (np := 1) (x := 9223372043297226753) (a := 2147483649) (by decide +kernel) (by decide) (by decide) ?_
  refine x_iload (np := 3) (x := 5) (by decide +kernel) rfl la5 ?_
  refine x_const (np := 4) (x := 9223372043297226753) (a := 2147483649) (by decide +kernel) (by decide) (by decide) ?_
  refine x_iadd (np := 5) (x := 0) (v := (1 + a5)) (by decide +kernel) la5 (by decide) (by first | decide | omega) (by first | decide | omega) ?_
  refine x_any (np := 6) (k9 := 3) (by decide +kernel) (by decide) (by decide) (by first | decide | omega) (fun v1 l2 => ?_)
  refine x_const (np := 7) (x := 9223372043297226753) (a := 2147483649) (by decide +kernel) (by decide) (by decide) ?_
  refine x_iload (np := 9) (x := 4) (by decide +kernel) rfl la4 ?_
  refine x_any (np := 10) (k9 := 3) (by decide +kernel) (by decide) (by decide) la4 (fun v3 l4 => ?_)
  refine x_subA (by rw [tb_b277]; decide +kernel) l2 l4 (fun v5 l6 => ?_)
  refine x_istore (np := 13) (x := 6) (lo' := [x_r 69, iv_c 2147483652, iv_c a2, iv_c a3, iv_c a4, iv_c a5, iv_c v5]) (by decide +kernel) l6 (Nat.le_of_ble_eq_true rfl) rfl ?_
  refine x_aload (np := 14) (x := 0) (by decide +kernel) rfl (x_nc_le (by decide)) ?_
  have q7 : h 69 3 = 73 := by have z := jB (e := 3) 0 hJ rg_69_3_0_1 (by decide) (by decide); omega
  refine x_getR (np := 17) (x := 771) (f := 3) (q := 73) (by decide +kernel) (by decide) (by decide +kernel) q7 ?_
  refine x_iload (np := 18) (x := 1) (by decide +kernel) rfl (by decide) ?_
  refine x_const (np := 21) (x := 9223414988675229456) (a := 2147493648) (by decide +kernel) (by decide) (by decide) ?_
  refine x_iload (np := 22) (x := 2) (by decide +kernel) rfl la2 ?_
  obtain ⟨u8, q9⟩ : ∃ z, a2 = 2147483648 + z := ⟨a2 - 2147483648, by first | decide | omega⟩
  refine x_imul (np := 23) (x := 0) (i := 10000) (j := u8) (v := (2147483648 + 10000 * u8)) (by decide +kernel) (by first | decide | omega) (by first | decide | omega) (by first | decide | omega) (by first | decide | omega) (by decide) la2 ?_
  refine x_const (np := 26) (x := 9223376333969556456) (a := 2147484648) (by decide +kernel) (by decide) (by decide) ?_
  refine x_iload (np := 27) (x := 3) (by decide +kernel) rfl la3 ?_
  obtain ⟨u11, q12⟩ : ∃ z, a3 = 2147483648 + z := ⟨a3 - 2147483648, by first | decide | omega⟩
  refine x_imul (np := 28) (x := 0) (i := 1000) (j := u11) (v := (2147483648 + 1000 * u11)) (by decide +kernel) (by first | decide | omega) (by first | decide | omega) (by first | decide | omega) (by first | decide | omega) (by decide) la3 ?_
  refine x_iadd (np := 29) (x := 0) (v := (2147483648 + 10000 * u8 + 1000 * u11)) (by decide +kernel) (by first | decide | omega) (by first | decide | omega) (by first | decide | omega) (by first | decide | omega) ?_
  refine x_const (np := 31) (x := 9223372124901605396) (a := 2147483668) (by decide +kernel) (by decide) (by decide) ?_
  refine x_iload (np := 33) (x := 4) (by decide +kernel) rfl la4 ?_
  obtain ⟨u14, q15⟩ : ∃ z, a4 = 2147483648 + z := ⟨a4 - 2147483648, by first | decide | omega⟩
  refine x_imul (np := 34) (x := 0) (i := 20) (j := u14) (v := (2147483648 + 20 * u14)) (by decide +kernel) (by first | decide | omega) (by first | decide | omega) (by first | decide | omega) (by first | decide | omega) (by decide) la4 ?_
  refine x_iadd (np := 35) (x := 0) (v := (2147483648 + 10000 * u8 + 1000 * u11 + 20 * u14)) (by decide +kernel) (by first | decide | omega) (by first | decide | omega) (by first | decide | omega) (by first | decide | omega) ?_
  refine x_iload (np := 37) (x := 5) (by decide +kernel) rfl la5 ?_
  refine x_iadd (np := 38) (x := 0) (v := (10000 * u8 + 1000 * u11 + 20 * u14 + a5)) (by decide +kernel) (by first | decide | omega) la5 (by first | decide | omega) (by first | decide | omega) ?_
  refine x_ast (np := 39) (x := 0) (kd := 1) (n := 5) (i := 4) (by decide +kernel) (Or.inl rfl) (by decide +kernel) (by first | decide | omega) (by first | decide | omega) (by decide) (by first | decide | omega) (fun z => absurd z (by decide)) ?_
  have j18 := jU (e := 4) (v := (10000 * u8 + 1000 * u11 + 20 * u14 + a5)) 4 hJ rg_73_0_1_5 (by first | decide | omega) (by first | decide | omega) (by first | decide | omega)
  have f20 := jF (e := 4) (v := (10000 * u8 + 1000 * u11 + 20 * u14 + a5)) 4 hF rg_73_0_1_5 (by first | decide | omega) (by first | decide | omega) (by decide)
  generalize e19 : x_up h 73 4 (10000 * u8 + 1000 * u11 + 20 * u14 + a5) = h17 at j18 f20 ⊢
  refine x_aload (np := 40) (x := 0) (by decide +kernel) rfl (x_nc_le (by decide)) ?_
  refine x_iload (np := 41) (x := 2) (by decide +kernel) rfl la2 ?_
  refine x_iload (np := 42) (x := 3) (by decide +kernel) rfl la3 ?_
  refine x_iload (np := 44) (x := 6) (by decide +kernel) rfl l6 ?_
  refine x_cV (t := 8) (mj := 280) (n := 4) (rc := 13) (ml := 5) (nr := 0) (np := 47) (as := [x_r 69, iv_c a2, iv_c a3, iv_c v5]) (rest := []) (lo1 := [x_r 69, iv_c a2, iv_c a3, iv_c v5, 147573952589676412928]) (by decide +kernel) (by decide) (by decide +kernel) (x_rb_of (by decide +kernel)) rfl rfl (x_wr (by decide) (x_wi la2 (x_wi la3 (x_wi l6 x_wn)))) x_wn (by decide) rfl (c280_69 j18  (by first | decide | omega) (by first | decide | omega) (by first | decide | omega)) (fun h24 q23 => ?_)
  obtain ⟨j25, f26⟩ := q23
  have f29 := Fr.trans f20 f26 (by decide)
  refine x_aload (np := 48) (x := 0) (by decide +kernel) rfl (x_nc_le (by decide)) ?_
  refine x_iload (np := 49) (x := 1) (by decide +kernel) rfl (by decide) ?_
  refine x_const (np := 50) (x := 9223372043297226753) (a := 2147483649) (by decide +kernel) (by decide) (by decide) ?_
  refine x_iadd (np := 51) (x := 0) (v := 2147483653) (by decide +kernel) (by decide) (by decide) (by first | decide | omega) (by first | decide | omega) ?_
  refine x_cV (t := 8) (mj := 274) (n := 2) (rc := 13) (ml := 2) (nr := 0) (np := 54) (as := [x_r 69, iv_c 2147483653]) (rest := []) (lo1 := [x_r 69, iv_c 2147483653]) (by decide +kernel) (by decide) (by decide +kernel) (x_rb_of (by decide +kernel)) rfl rfl (x_wr (by decide) (x_wi (by decide) x_wn)) x_wn (by decide) rfl (c274_69_c5 j25  ) (fun h33 q32 => ?_)
  obtain ⟨j34, f35⟩ := q32
  have f38 := Fr.trans f29 f35 (by decide)
  refine x_aload (np := 55) (x := 0) (by decide +kernel) rfl (x_nc_le (by decide)) ?_
  refine x_iload (np := 56) (x := 2) (by decide +kernel) rfl la2 ?_
  refine x_iload (np := 58) (x := 6) (by decide +kernel) rfl l6 ?_
  refine x_cV (t := 8) (mj := 281) (n := 3) (rc := 13) (ml := 5) (nr := 0) (np := 61) (as := [x_r 69, iv_c a2, iv_c v5]) (rest := []) (lo1 := [x_r 69, iv_c a2, iv_c v5, 147573952589676412928, 147573952589676412928]) (by decide +kernel) (by decide) (by decide +kernel) (x_rb_of (by decide +kernel)) rfl rfl (x_wr (by decide) (x_wi la2 (x_wi l6 x_wn))) x_wn (by decide) rfl (c281_69 j34  (by first | decide | omega) (by first | decide | omega)) (fun h42 q41 => ?_)
  obtain ⟨j43, f44⟩ := q41
  have f47 := Fr.trans f38 f44 (by decide)
  refine x_retV (np := 62) (x := 0) (by decide +kernel) (by decide +kernel) ⟨rfl, ?_⟩
  exact ⟨j43, f47⟩
set_option maxHeartbeats 0 in
/-- LentNames$Search.tryLoans(IIIII)V -/
theorem c276_69_c4 {sc : Nat × Nat} {d a2 a3 a4 a5 : Nat} {h : xh} (hJ : J h) (ba2 : 2147483648 ≤ a2 ∧ a2 ≤ 2147483653) (ba3 : 2147483648 ≤ a3 ∧ a3 ≤ 2147483653) (ba4 : 0 ≤ a4 ∧ a4 ≤ 4294967295) (ba5 : 0 ≤ a5 ∧ a5 ≤ 4294967295) : X sc 276 (d + 5) (xV fun h' => J h' ∧ Fr 65537 h h') 0 0 0 [x_r 69, iv_c 2147483652, iv_c a2, iv_c a3, iv_c a4, iv_c a5, 147573952589676412928, 147573952589676412928, 147573952589676412928, 147573952589676412928] [] h := by
  have la2 : a2 < 4294967296 := by first | decide | omega
  have la3 : a3 < 4294967296 := by first | decide | omega
  have la4 : a4 < 4294967296 := by first | decide | omega
  have la5 : a5 < 4294967296 := by first | decide | omega
  have hF := Fr.refl 65537 h
  refine x_aload (np := 1) (x := 0) (by decide +kernel) rfl (x_nc_le (by decide)) ?_
  have q1 : h 69 5 = 45 := by have z := jB (e := 5) 0 hJ rg_69_5_0_1 (by decide) (by decide); omega
  refine x_getR (np := 4) (x := 773) (f := 5) (q := 45) (by decide +kernel) (by decide) (by decide +kernel) q1 ?_
  have q2 : h 45 0 = 46 := by have z := jB (e := 0) 0 hJ rg_45_0_0_1 (by decide) (by decide); omega
  refine x_getR (np := 7) (x := 64) (f := 0) (q := 46) (by decide +kernel) (by decide) (by decide +kernel) q2 ?_
  refine x_iload (np := 8) (x := 3) (by decide +kernel) rfl la3 ?_
  obtain ⟨u3, q4⟩ : ∃ z, a3 = 2147483648 + z := ⟨a3 - 2147483648, by first | decide | omega⟩
  refine x_aldC (np := 9) (x := 0) (n := 6) (i := u3) (q := (h 46 u3)) (by decide +kernel) (by decide +kernel) (by first | decide | omega) (by first | decide | omega) (by decide) rfl (fun l5 => ?_)
  refine x_aload (np := 10) (x := 0) (by decide +kernel) rfl (x_nc_le (by decide)) ?_
  have q6 : h 69 5 = 45 := by have z := jB (e := 5) 0 hJ rg_69_5_0_1 (by decide) (by decide); omega
  refine x_getR (np := 13) (x := 773) (f := 5) (q := 45) (by decide +kernel) (by decide) (by decide +kernel) q6 ?_
  have q7 : h 45 1 = 47 := by have z := jB (e := 1) 0 hJ rg_45_1_0_1 (by decide) (by decide); omega
  refine x_getR (np := 16) (x := 65) (f := 1) (q := 47) (by decide +kernel) (by decide) (by decide +kernel) q7 ?_
  refine x_iload (np := 17) (x := 2) (by decide +kernel) rfl la2 ?_
  refine x_iload (np := 18) (x := 3) (by decide +kernel) rfl la3 ?_
  refine x_nI (t := 7) (mj := 149) (n := 2) (rc := 0) (ml := 2) (nr := 2) (np := 21) (as := [iv_c a2, iv_c a3]) (rest := [x_r 47, iv_c (h 46 u3)]) (lo1 := [iv_c a2, iv_c a3]) (by decide +kernel) (by decide) (by decide +kernel) (Or.inl rfl) rfl rfl (x_wi la2 (x_wi la3 x_wn)) (x_wr (by decide) (x_wi l5 x_wn)) (by decide) rfl ?_
  refine x_iload (np := 1) (x := 0) (by decide +kernel) rfl la2 ?_
  refine x_const (np := 3) (x := 9223372064772063238) (a := 2147483654) (by decide +kernel) (by decide) (by decide) ?_
  obtain ⟨u8, q9⟩ : ∃ z, a2 = 2147483648 + z := ⟨a2 - 2147483648, by first | decide | omega⟩
  refine x_imul (np := 4) (x := 0) (i := u8) (j := 6) (v := (2147483648 + 6 * u8)) (by decide +kernel) (by first | decide | omega) (by first | decide | omega) (by first | decide | omega) (by first | decide | omega) la2 (by decide) ?_
  refine x_iload (np := 5) (x := 1) (by decide +kernel) rfl la3 ?_
  refine x_iadd (np := 6) (x := 0) (v := (6 * u8 + a3)) (by decide +kernel) (by first | decide | omega) la3 (by first | decide | omega) (by first | decide | omega) ?_
  refine x_retI (np := 7) (x := 0) (by decide +kernel) (by first | decide | omega) (Or.inl (by decide +kernel)) ⟨_, rfl, (by first | decide | omega), ?_⟩
  refine x_aldC (np := 22) (x := 0) (n := 36) (i := (6 * u8 + u3)) (q := ((h 47 (6 * u8 + u3)))) (by decide +kernel) (by decide +kernel) (by first | decide | omega) (by first | decide | omega) (by decide) rfl (fun l11 => ?_)
  refine x_const (np := 23) (x := 9223372034707292159) (a := 2147483647) (by decide +kernel) (by decide) (by decide) ?_
  refine x_any (np := 24) (k9 := 2) (by decide +kernel) (by decide) l11 (by decide) (fun v12 l13 => ?_)
  refine x_any (np := 25) (k9 := 0) (by decide +kernel) (by decide) l5 l13 (fun v14 l15 => ?_)
  refine x_aload (np := 26) (x := 0) (by decide +kernel) rfl (x_nc_le (by decide)) ?_
  have q16 : h 69 2 = 72 := by have z := jB (e := 2) 0 hJ rg_69_2_0_1 (by decide) (by decide); omega
  refine x_getR (np := 29) (x := 770) (f := 2) (q := 72) (by decide +kernel) (by decide) (by decide +kernel) q16 ?_
  refine x_iload (np := 30) (x := 2) (by decide +kernel) rfl la2 ?_
  refine x_aldC (np := 31) (x := 0) (n := 6) (i := u8) (q := (h 72 u8)) (by decide +kernel) (by decide +kernel) (by first | decide | omega) (by first | decide | omega) (by decide) rfl (fun l17 => ?_)
  refine x_const (np := 32) (x := 9223372034707292159) (a := 2147483647) (by decide +kernel) (by decide) (by decide) ?_
  refine x_any (np := 33) (k9 := 2) (by decide +kernel) (by decide) l17 (by decide) (fun v18 l19 => ?_)
  refine x_any (np := 34) (k9 := 0) (by decide +kernel) (by decide) l15 l19 (fun v20 l21 => ?_)
  refine x_istore (np := 36) (x := 6) (lo' := [x_r 69, iv_c 2147483652, iv_c a2, iv_c a3, iv_c a4, iv_c a5, iv_c v20, 147573952589676412928, 147573952589676412928, 147573952589676412928]) (by decide +kernel) l21 (Nat.le_of_ble_eq_true rfl) rfl ?_
  refine x_aload (np := 37) (x := 0) (by decide +kernel) rfl (x_nc_le (by decide)) ?_
  have q22 : h 69 1 = 71 := by have z := jB (e := 1) 0 hJ rg_69_1_0_1 (by decide) (by decide); omega
  refine x_getR (np := 40) (x := 769) (f := 1) (q := 71) (by decide +kernel) (by decide) (by decide +kernel) q22 ?_
  refine x_iload (np := 41) (x := 2) (by decide +kernel) rfl la2 ?_
  refine x_aldC (np := 42) (x := 0) (n := 6) (i := u8) (q := (h 71 u8)) (by decide +kernel) (by decide +kernel) (by first | decide | omega) (by first | decide | omega) (by decide) rfl (fun l23 => ?_)
  refine x_iload (np := 44) (x := 6) (by decide +kernel) rfl l21 ?_
  refine x_any (np := 45) (k9 := 0) (by decide +kernel) (by decide) l23 l21 (fun v24 l25 => ?_)
  refine x_istore (np := 47) (x := 7) (lo' := [x_r 69, iv_c 2147483652, iv_c a2, iv_c a3, iv_c a4, iv_c a5, iv_c v20, iv_c v24, 147573952589676412928, 147573952589676412928]) (by decide +kernel) l25 (Nat.le_of_ble_eq_true rfl) rfl ?_
  refine x_const (np := 48) (x := 9223372039002259456) (a := 2147483648) (by decide +kernel) (by decide) (by decide) ?_
  refine x_istore (np := 50) (x := 8) (lo' := [x_r 69, iv_c 2147483652, iv_c a2, iv_c a3, iv_c a4, iv_c a5, iv_c v20, iv_c v24, iv_c 2147483648, 147573952589676412928]) (by decide +kernel) (by decide) (Nat.le_of_ble_eq_true rfl) rfl ?_
  have p5130 : ∀ (n : Nat) (v5124 : Nat) (w5126 : Nat) (h5127 : xh), 4294967296 - v5124 < n → (2147483648 ≤ v5124 ∧ v5124 ≤ 2147483660) → J h5127 → Fr 65537 h h5127 → X sc 276 (d + 5) (xV fun h' => J h' ∧ Fr 65537 h h') 0 0 50 [x_r 69, iv_c 2147483652, iv_c a2, iv_c a3, iv_c a4, iv_c a5, iv_c v20, iv_c v24, iv_c v5124, w5126] [] h5127 := by
    intro n
    induction n with
    | zero => intro v5124 w5126 h5127 q5131; exact absurd q5131 (Nat.not_lt_zero _)
    | succ n i5132 =>
      intro v5124 w5126 h5127 q5131 b5125 j5129 f5128
      have f5133 := Fr.trans hF f5128 (by decide)
      refine x_iload (np := 52) (x := 8) (by decide +kernel) rfl (by first | decide | omega) ?_
      refine x_iload (np := 54) (x := 5) (by decide +kernel) rfl la5 ?_
      refine x_icmp (k := 4) (tg := 145) (np := 57) (by decide +kernel) (by decide) (by first | decide | omega) la5 (fun q5134 => ?_) (fun q5135 => ?_)
      · have q5134 : a5 < v5124 := q5134
        refine x_retV (np := 146) (x := 0) (by decide +kernel) (by decide +kernel) ⟨rfl, ?_⟩
        exact ⟨j5129, f5133⟩
      have q5135 : ¬ (a5 < v5124) := q5135
      refine x_iload (np := 59) (x := 8) (by decide +kernel) rfl (by first | decide | omega) ?_
      refine x_const (np := 61) (x := 9223372090541867020) (a := 2147483660) (by decide +kernel) (by decide) (by decide) ?_
      refine x_icmp (k := 3) (tg := 145) (np := 64) (by decide +kernel) (by decide) (by first | decide | omega) (by decide) (fun q5136 => ?_) (fun q5137 => ?_)
      · have q5136 : 2147483660 ≤ v5124 := q5136
        refine x_retV (np := 146) (x := 0) (by decide +kernel) (by decide +kernel) ⟨rfl, ?_⟩
        exact ⟨j5129, f5133⟩
      have q5137 : ¬ (2147483660 ≤ v5124) := q5137
      refine x_iload (np := 66) (x := 7) (by decide +kernel) rfl l25 ?_
      refine x_iload (np := 68) (x := 8) (by decide +kernel) rfl (by first | decide | omega) ?_
      refine x_cP (t := 7) (mj := 148) (n := 2) (rc := 0) (ml := 2) (nr := 0) (np := 71) (as := [iv_c v24, iv_c v5124]) (rest := []) (lo1 := [iv_c v24, iv_c v5124]) (by decide +kernel) (by decide) (by decide +kernel) (Or.inl rfl) rfl rfl (x_wi l25 (x_wi (by first | decide | omega) x_wn)) x_wn (by decide) rfl (c148 j5129 (by first | decide | omega) (by first | decide | omega)) (fun v5138 l5139 q5140 => ?_)
      refine x_ifz (k := 1) (tg := 77) (np := 74) (by decide +kernel) (by decide) l5139 (fun q5141 => ?_) (fun q5142 => ?_)
      · have q5141 : v5138 ≠ 2147483648 := q5141
        refine x_iload (np := 79) (x := 8) (by decide +kernel) rfl (by first | decide | omega) ?_
        refine x_istore (np := 81) (x := 9) (lo' := [x_r 69, iv_c 2147483652, iv_c a2, iv_c a3, iv_c a4, iv_c a5, iv_c v20, iv_c v24, iv_c v5124, iv_c v5124]) (by decide +kernel) (by first | decide | omega) (Nat.le_of_ble_eq_true rfl) rfl ?_
        have p5271 : ∀ (n : Nat) (v5266 : Nat) (h5268 : xh), 4294967296 - v5266 < n → (2147483648 ≤ v5266 ∧ v5266 ≤ 2147483660) → J h5268 → Fr 65537 h5127 h5268 → X sc 276 (d + 5) (xV fun h' => J h' ∧ Fr 65537 h h') 0 0 81 [x_r 69, iv_c 2147483652, iv_c a2, iv_c a3, iv_c a4, iv_c a5, iv_c v20, iv_c v24, iv_c v5124, iv_c v5266] [] h5268 := by
          intro n
          induction n with
          | zero => intro v5266 h5268 q5272; exact absurd q5272 (Nat.not_lt_zero _)
          | succ n i5273 =>
            intro v5266 h5268 q5272 b5267 j5270 f5269
            have f5274 := Fr.trans f5133 f5269 (by decide)
            have f5275 := Fr.trans f5128 f5269 (by decide)
            refine x_iload (np := 83) (x := 9) (by decide +kernel) rfl (by first | decide | omega) ?_
            refine x_const (np := 85) (x := 9223372090541867020) (a := 2147483660) (by decide +kernel) (by decide) (by decide) ?_
            refine x_icmp (k := 3) (tg := 139) (np := 88) (by decide +kernel) (by decide) (by first | decide | omega) (by decide) (fun q5276 => ?_) (fun q5277 => ?_)
            · have q5276 : 2147483660 ≤ v5266 := q5276
              refine x_iinc (np := 142) (i := 8) (j := 2147483649) (v := (1 + v5124)) (lo' := [x_r 69, iv_c 2147483652, iv_c a2, iv_c a3, iv_c a4, iv_c a5, iv_c v20, iv_c v24, iv_c (1 + v5124), iv_c v5266]) (by decide +kernel) (by decide) (by decide) rfl (by first | decide | omega) (by first | decide | omega) (by first | decide | omega) rfl ?_
              refine x_goto (np := 145) (x := 50) (by decide +kernel) ?_
              exact i5132 (1 + v5124) (iv_c v5266) h5268 (by first | decide | omega) (by first | decide | omega) j5270 f5275
            have q5277 : ¬ (2147483660 ≤ v5266) := q5277
            refine x_iload (np := 90) (x := 6) (by decide +kernel) rfl l21 ?_
            refine x_iload (np := 92) (x := 9) (by decide +kernel) rfl (by first | decide | omega) ?_
            refine x_cP (t := 7) (mj := 148) (n := 2) (rc := 0) (ml := 2) (nr := 0) (np := 95) (as := [iv_c v20, iv_c v5266]) (rest := []) (lo1 := [iv_c v20, iv_c v5266]) (by decide +kernel) (by decide) (by decide +kernel) (Or.inl rfl) rfl rfl (x_wi l21 (x_wi (by first | decide | omega) x_wn)) x_wn (by decide) rfl (c148 j5270 (by first | decide | omega) (by first | decide | omega)) (fun v5278 l5279 q5280 => ?_)
            refine x_ifz (k := 0) (tg := 139) (np := 98) (by decide +kernel) (by decide) l5279 (fun q5281 => ?_) (fun q5282 => ?_)
            · have q5281 : v5278 = 2147483648 := q5281
              refine x_iinc (np := 142) (i := 8) (j := 2147483649) (v := (1 + v5124)) (lo' := [x_r 69, iv_c 2147483652, iv_c a2, iv_c a3, iv_c a4, iv_c a5, iv_c v20, iv_c v24, iv_c (1 + v5124), iv_c v5266]) (by decide +kernel) (by decide) (by decide) rfl (by first | decide | omega) (by first | decide | omega) (by first | decide | omega) rfl ?_
              refine x_goto (np := 145) (x := 50) (by decide +kernel) ?_
              exact i5132 (1 + v5124) (iv_c v5266) h5268 (by first | decide | omega) (by first | decide | omega) j5270 f5275
            have q5282 : ¬ (v5278 = 2147483648) := q5282
            refine x_aload (np := 99) (x := 0) (by decide +kernel) rfl (x_nc_le (by decide)) ?_
            refine x_nI (t := 8) (mj := 278) (n := 1) (rc := 13) (ml := 1) (nr := 0) (np := 102) (as := [x_r 69]) (rest := []) (lo1 := [x_r 69]) (by decide +kernel) (by decide) (by decide +kernel) (x_rb_of (by decide +kernel)) rfl rfl (x_wr (by decide) x_wn) x_wn (by decide) rfl ?_
            refine x_aload (np := 1) (x := 0) (by decide +kernel) rfl (x_nc_le (by decide)) ?_
            have b5283 := jB (e := 9) 0 j5270 rg_69_9_0_1 (by first | decide | omega) (by first | decide | omega)
            refine x_getC (np := 4) (x := 777) (f := 9) (q := (h5268 69 9)) (by decide +kernel) (by decide) (by decide +kernel) rfl (fun l5284 => ?_)
            refine x_ifz (k := 1) (tg := 21) (np := 7) (by decide +kernel) (by decide) l5284 (fun q5285 => ?_) (fun q5286 => ?_)
            · have q5285 : (h5268 69 9) ≠ 2147483648 := q5285
              refine x_const (np := 22) (x := 9223372043297226753) (a := 2147483649) (by decide +kernel) (by decide) (by decide) ?_
              refine x_goto (np := 25) (x := 26) (by decide +kernel) ?_
              refine x_retI (np := 27) (x := 0) (by decide +kernel) (by decide) (Or.inr ⟨by decide +kernel, by first | decide | omega, by first | decide | omega⟩) ⟨_, rfl, (by decide), ?_⟩
              refine x_ifz (k := 1) (tg := 139) (np := 105) (by decide +kernel) (by decide) (by decide) (fun q5287 => ?_) (fun q5288 => ?_)
              · have q5287 : 2147483649 ≠ 2147483648 := q5287
                refine x_iinc (np := 142) (i := 8) (j := 2147483649) (v := (1 + v5124)) (lo' := [x_r 69, iv_c 2147483652, iv_c a2, iv_c a3, iv_c a4, iv_c a5, iv_c v20, iv_c v24, iv_c (1 + v5124), iv_c v5266]) (by decide +kernel) (by decide) (by decide) rfl (by first | decide | omega) (by first | decide | omega) (by first | decide | omega) rfl ?_
                refine x_goto (np := 145) (x := 50) (by decide +kernel) ?_
                exact i5132 (1 + v5124) (iv_c v5266) h5268 (by first | decide | omega) (by first | decide | omega) j5270 f5275
              have q5288 : ¬ (2147483649 ≠ 2147483648) := q5288
              exfalso; omega
            have q5286 : ¬ ((h5268 69 9) ≠ 2147483648) := q5286
            refine x_aload (np := 8) (x := 0) (by decide +kernel) rfl (x_nc_le (by decide)) ?_
            refine x_getC (np := 11) (x := 776) (f := 8) (q := (h5268 69 8)) (by decide +kernel) (by decide) (by decide +kernel) rfl (fun l5289 => ?_)
            refine x_ifz (k := 5) (tg := 25) (np := 14) (by decide +kernel) (by decide) l5289 (fun q5290 => ?_) (fun q5291 => ?_)
            · have q5290 : (h5268 69 8) ≤ 2147483648 := q5290
              refine x_const (np := 26) (x := 9223372039002259456) (a := 2147483648) (by decide +kernel) (by decide) (by decide) ?_
              refine x_retI (np := 27) (x := 0) (by decide +kernel) (by decide) (Or.inr ⟨by decide +kernel, by first | decide | omega, by first | decide | omega⟩) ⟨_, rfl, (by decide), ?_⟩
              refine x_ifz (k := 1) (tg := 139) (np := 105) (by decide +kernel) (by decide) (by decide) (fun q5292 => ?_) (fun q5293 => ?_)
              · have q5292 : 2147483648 ≠ 2147483648 := q5292
                exfalso; omega
              have q5293 : ¬ (2147483648 ≠ 2147483648) := q5293
              refine x_iload (np := 107) (x := 9) (by decide +kernel) rfl (by first | decide | omega) ?_
              refine x_iload (np := 109) (x := 4) (by decide +kernel) rfl la4 ?_
              refine x_icmp (k := 2) (tg := 133) (np := 112) (by decide +kernel) (by decide) (by first | decide | omega) la4 (fun q5294 => ?_) (fun q5295 => ?_)
              · have q5294 : v5266 < a4 := q5294
                refine x_iinc (np := 136) (i := 9) (j := 2147483649) (v := (1 + v5266)) (lo' := [x_r 69, iv_c 2147483652, iv_c a2, iv_c a3, iv_c a4, iv_c a5, iv_c v20, iv_c v24, iv_c v5124, iv_c (1 + v5266)]) (by decide +kernel) (by decide) (by decide) rfl (by first | decide | omega) (by first | decide | omega) (by first | decide | omega) rfl ?_
                refine x_goto (np := 139) (x := 81) (by decide +kernel) ?_
                exact i5273 (1 + v5266) h5268 (by first | decide | omega) (by first | decide | omega) j5270 f5269
              have q5295 : ¬ (v5266 < a4) := q5295
              refine x_iload (np := 114) (x := 7) (by decide +kernel) rfl l25 ?_
              refine x_iload (np := 116) (x := 9) (by decide +kernel) rfl (by first | decide | omega) ?_
              refine x_cP (t := 7) (mj := 148) (n := 2) (rc := 0) (ml := 2) (nr := 0) (np := 119) (as := [iv_c v24, iv_c v5266]) (rest := []) (lo1 := [iv_c v24, iv_c v5266]) (by decide +kernel) (by decide) (by decide +kernel) (Or.inl rfl) rfl rfl (x_wi l25 (x_wi (by first | decide | omega) x_wn)) x_wn (by decide) rfl (c148 j5270 (by first | decide | omega) (by first | decide | omega)) (fun v5296 l5297 q5298 => ?_)
              refine x_ifz (k := 0) (tg := 133) (np := 122) (by decide +kernel) (by decide) l5297 (fun q5299 => ?_) (fun q5300 => ?_)
              · have q5299 : v5296 = 2147483648 := q5299
                refine x_iinc (np := 136) (i := 9) (j := 2147483649) (v := (1 + v5266)) (lo' := [x_r 69, iv_c 2147483652, iv_c a2, iv_c a3, iv_c a4, iv_c a5, iv_c v20, iv_c v24, iv_c v5124, iv_c (1 + v5266)]) (by decide +kernel) (by decide) (by decide) rfl (by first | decide | omega) (by first | decide | omega) (by first | decide | omega) rfl ?_
                refine x_goto (np := 139) (x := 81) (by decide +kernel) ?_
                exact i5273 (1 + v5266) h5268 (by first | decide | omega) (by first | decide | omega) j5270 f5269
              have q5300 : ¬ (v5296 = 2147483648) := q5300
              refine x_aload (np := 123) (x := 0) (by decide +kernel) rfl (x_nc_le (by decide)) ?_
              refine x_iload (np := 124) (x := 1) (by decide +kernel) rfl (by decide) ?_
              refine x_iload (np := 125) (x := 2) (by decide +kernel) rfl la2 ?_
              refine x_iload (np := 126) (x := 3) (by decide +kernel) rfl la3 ?_
              refine x_iload (np := 128) (x := 8) (by decide +kernel) rfl (by first | decide | omega) ?_
              refine x_iload (np := 130) (x := 9) (by decide +kernel) rfl (by first | decide | omega) ?_
              refine x_cV (t := 8) (mj := 277) (n := 6) (rc := 13) (ml := 7) (nr := 0) (np := 133) (as := [x_r 69, iv_c 2147483652, iv_c a2, iv_c a3, iv_c v5124, iv_c v5266]) (rest := []) (lo1 := [x_r 69, iv_c 2147483652, iv_c a2, iv_c a3, iv_c v5124, iv_c v5266, 147573952589676412928]) (by decide +kernel) (by decide) (by decide +kernel) (x_rb_of (by decide +kernel)) rfl rfl (x_wr (by decide) (x_wi (by decide) (x_wi la2 (x_wi la3 (x_wi (by first | decide | omega) (x_wi (by first | decide | omega) x_wn)))))) x_wn (by decide) rfl (c277_69_c4 j5270   (by first | decide | omega) (by first | decide | omega) (by first | decide | omega) (by first | decide | omega)) (fun h5304 q5303 => ?_)
              obtain ⟨j5305, f5306⟩ := q5303
              have f5309 := Fr.trans f5274 f5306 (by decide)
              have f5310 := Fr.trans f5275 f5306 (by decide)
              have f5311 := Fr.trans f5269 f5306 (by decide)
              refine x_iinc (np := 136) (i := 9) (j := 2147483649) (v := (1 + v5266)) (lo' := [x_r 69, iv_c 2147483652, iv_c a2, iv_c a3, iv_c a4, iv_c a5, iv_c v20, iv_c v24, iv_c v5124, iv_c (1 + v5266)]) (by decide +kernel) (by decide) (by decide) rfl (by first | decide | omega) (by first | decide | omega) (by first | decide | omega) rfl ?_
              refine x_goto (np := 139) (x := 81) (by decide +kernel) ?_
              exact i5273 (1 + v5266) h5304 (by first | decide | omega) (by first | decide | omega) j5305 f5311
            have q5291 : ¬ ((h5268 69 8) ≤ 2147483648) := q5291
            refine x_aload (np := 15) (x := 0) (by decide +kernel) rfl (x_nc_le (by decide)) ?_
            refine x_vI (P := fun r9 h9 => X sc 278 _ _ 0 0 18 [x_r 69] (iv_c r9 :: []) h9) (np := 18) (x := 5246977) (kk := 1) (cls := 5) (mj := 61) (ml := 1) (nr := 0) (rest := []) (lo1 := [x_r 69]) (by decide +kernel) (by decide) (by decide) (by decide) (by decide +kernel) (by decide +kernel) (by decide) (by decide +kernel) (by decide +kernel) x_wn (by decide) rfl ?_ (fun _ _ _ z => z)
            refine x_const (np := 1) (x := 9223372039002259456) (a := 2147483648) (by decide +kernel) (by decide) (by decide) ?_
            refine x_retI (np := 2) (x := 0) (by decide +kernel) (by decide) (Or.inr ⟨by decide +kernel, by first | decide | omega, by first | decide | omega⟩) ⟨_, rfl, (by decide), ?_⟩
            refine x_ifz (k := 0) (tg := 25) (np := 21) (by decide +kernel) (by decide) (by decide) (fun q5312 => ?_) (fun q5313 => ?_)
            · have q5312 : 2147483648 = 2147483648 := q5312
              refine x_const (np := 26) (x := 9223372039002259456) (a := 2147483648) (by decide +kernel) (by decide) (by decide) ?_
              refine x_retI (np := 27) (x := 0) (by decide +kernel) (by decide) (Or.inr ⟨by decide +kernel, by first | decide | omega, by first | decide | omega⟩) ⟨_, rfl, (by decide), ?_⟩
              refine x_ifz (k := 1) (tg := 139) (np := 105) (by decide +kernel) (by decide) (by decide) (fun q5314 => ?_) (fun q5315 => ?_)
              · have q5314 : 2147483648 ≠ 2147483648 := q5314
                exfalso; omega
              have q5315 : ¬ (2147483648 ≠ 2147483648) := q5315
              refine x_iload (np := 107) (x := 9) (by decide +kernel) rfl (by first | decide | omega) ?_
              refine x_iload (np := 109) (x := 4) (by decide +kernel) rfl la4 ?_
              refine x_icmp (k := 2) (tg := 133) (np := 112) (by decide +kernel) (by decide) (by first | decide | omega) la4 (fun q5316 => ?_) (fun q5317 => ?_)
              · have q5316 : v5266 < a4 := q5316
                refine x_iinc (np := 136) (i := 9) (j := 2147483649) (v := (1 + v5266)) (lo' := [x_r 69, iv_c 2147483652, iv_c a2, iv_c a3, iv_c a4, iv_c a5, iv_c v20, iv_c v24, iv_c v5124, iv_c (1 + v5266)]) (by decide +kernel) (by decide) (by decide) rfl (by first | decide | omega) (by first | decide | omega) (by first | decide | omega) rfl ?_
                refine x_goto (np := 139) (x := 81) (by decide +kernel) ?_
                exact i5273 (1 + v5266) h5268 (by first | decide | omega) (by first | decide | omega) j5270 f5269
              have q5317 : ¬ (v5266 < a4) := q5317
              refine x_iload (np := 114) (x := 7) (by decide +kernel) rfl l25 ?_
              refine x_iload (np := 116) (x := 9) (by decide +kernel) rfl (by first | decide | omega) ?_
              refine x_cP (t := 7) (mj := 148) (n := 2) (rc := 0) (ml := 2) (nr := 0) (np := 119) (as := [iv_c v24, iv_c v5266]) (rest := []) (lo1 := [iv_c v24, iv_c v5266]) (by decide +kernel) (by decide) (by decide +kernel) (Or.inl rfl) rfl rfl (x_wi l25 (x_wi (by first | decide | omega) x_wn)) x_wn (by decide) rfl (c148 j5270 (by first | decide | omega) (by first | decide | omega)) (fun v5318 l5319 q5320 => ?_)
              refine x_ifz (k := 0) (tg := 133) (np := 122) (by decide +kernel) (by decide) l5319 (fun q5321 => ?_) (fun q5322 => ?_)
              · have q5321 : v5318 = 2147483648 := q5321
                refine x_iinc (np := 136) (i := 9) (j := 2147483649) (v := (1 + v5266)) (lo' := [x_r 69, iv_c 2147483652, iv_c a2, iv_c a3, iv_c a4, iv_c a5, iv_c v20, iv_c v24, iv_c v5124, iv_c (1 + v5266)]) (by decide +kernel) (by decide) (by decide) rfl (by first | decide | omega) (by first | decide | omega) (by first | decide | omega) rfl ?_
                refine x_goto (np := 139) (x := 81) (by decide +kernel) ?_
                exact i5273 (1 + v5266) h5268 (by first | decide | omega) (by first | decide | omega) j5270 f5269
              have q5322 : ¬ (v5318 = 2147483648) := q5322
              refine x_aload (np := 123) (x := 0) (by decide +kernel) rfl (x_nc_le (by decide)) ?_
              refine x_iload (np := 124) (x := 1) (by decide +kernel) rfl (by decide) ?_
              refine x_iload (np := 125) (x := 2) (by decide +kernel) rfl la2 ?_
              refine x_iload (np := 126) (x := 3) (by decide +kernel) rfl la3 ?_
              refine x_iload (np := 128) (x := 8) (by decide +kernel) rfl (by first | decide | omega) ?_
              refine x_iload (np := 130) (x := 9) (by decide +kernel) rfl (by first | decide | omega) ?_
              refine x_cV (t := 8) (mj := 277) (n := 6) (rc := 13) (ml := 7) (nr := 0) (np := 133) (as := [x_r 69, iv_c 2147483652, iv_c a2, iv_c a3, iv_c v5124, iv_c v5266]) (rest := []) (lo1 := [x_r 69, iv_c 2147483652, iv_c a2, iv_c a3, iv_c v5124, iv_c v5266, 147573952589676412928]) (by decide +kernel) (by decide) (by decide +kernel) (x_rb_of (by decide +kernel)) rfl rfl (x_wr (by decide) (x_wi (by decide) (x_wi la2 (x_wi la3 (x_wi (by first | decide | omega) (x_wi (by first | decide | omega) x_wn)))))) x_wn (by decide) rfl (c277_69_c4 j5270   (by first | decide | omega) (by first | decide | omega) (by first | decide | omega) (by first | decide | omega)) (fun h5326 q5325 => ?_)
              obtain ⟨j5327, f5328⟩ := q5325
              have f5331 := Fr.trans f5274 f5328 (by decide)
              have f5332 := Fr.trans f5275 f5328 (by decide)
              have f5333 := Fr.trans f5269 f5328 (by decide)
              refine x_iinc (np := 136) (i := 9) (j := 2147483649) (v := (1 + v5266)) (lo' := [x_r 69, iv_c 2147483652, iv_c a2, iv_c a3, iv_c a4, iv_c a5, iv_c v20, iv_c v24, iv_c v5124, iv_c (1 + v5266)]) (by decide +kernel) (by decide) (by decide) rfl (by first | decide | omega) (by first | decide | omega) (by first | decide | omega) rfl ?_
              refine x_goto (np := 139) (x := 81) (by decide +kernel) ?_
              exact i5273 (1 + v5266) h5326 (by first | decide | omega) (by first | decide | omega) j5327 f5333
            have q5313 : ¬ (2147483648 = 2147483648) := q5313
            exfalso; omega
        exact p5271 _ v5124 h5127 (Nat.lt_succ_self _) (by first | decide | omega) j5129 (Fr.refl _ _)
      have q5142 : ¬ (v5138 ≠ 2147483648) := q5142
      refine x_goto (np := 77) (x := 139) (by decide +kernel) ?_
      refine x_iinc (np := 142) (i := 8) (j := 2147483649) (v := (1 + v5124)) (lo' := [x_r 69, iv_c 2147483652, iv_c a2, iv_c a3, iv_c a4, iv_c a5, iv_c v20, iv_c v24, iv_c (1 + v5124), w5126]) (by decide +kernel) (by decide) (by decide) rfl (by first | decide | omega) (by first | decide | omega) (by first | decide | omega) rfl ?_
      refine x_goto (np := 145) (x := 50) (by decide +kernel) ?_
      exact i5132 (1 + v5124) w5126 h5127 (by first | decide | omega) (by first | decide | omega) j5129 f5128
  exact p5130 _ 2147483648 147573952589676412928 h (Nat.lt_succ_self _) (by first | decide | omega) hJ (Fr.refl _ _)
set_option maxHeartbeats 0 in
/-- LentNames$Search.mend(I)V -/
theorem c275_69_c4 {sc : Nat × Nat} {d  : Nat} {h : xh} (hJ : J h) : X sc 275 (d + 6) (xV fun h' => J h' ∧ Fr 65537 h h') 0 0 0 [x_r 69, iv_c 2147483652, 147573952589676412928, 147573952589676412928, 147573952589676412928, 147573952589676412928, 147573952589676412928, 147573952589676412928] [] h := by
  have hF := Fr.refl 65537 h
  refine x_aload (np := 1) (x := 0) (by decide +kernel) rfl (x_nc_le (by decide)) ?_
  refine x_getC (np := 4) (x := 778) (f := 10) (q := (h 69 10)) (by decide +kernel) (by decide) (by decide +kernel) rfl (fun l1 => ?_)
  refine x_istore (np := 5) (x := 2) (lo' := [x_r 69, iv_c 2147483652, iv_c (h 69 10), 147573952589676412928, 147573952589676412928, 147573952589676412928, 147573952589676412928, 147573952589676412928]) (by decide +kernel) l1 (Nat.le_of_ble_eq_true rfl) rfl ?_
  refine x_aload (np := 6) (x := 0) (by decide +kernel) rfl (x_nc_le (by decide)) ?_
  refine x_getC (np := 9) (x := 779) (f := 11) (q := (h 69 11)) (by decide +kernel) (by decide) (by decide +kernel) rfl (fun l2 => ?_)
  refine x_istore (np := 10) (x := 3) (lo' := [x_r 69, iv_c 2147483652, iv_c (h 69 10), iv_c (h 69 11), 147573952589676412928, 147573952589676412928, 147573952589676412928, 147573952589676412928]) (by decide +kernel) l2 (Nat.le_of_ble_eq_true rfl) rfl ?_
  refine x_aload (np := 11) (x := 0) (by decide +kernel) rfl (x_nc_le (by decide)) ?_
  refine x_getC (np := 14) (x := 780) (f := 12) (q := (h 69 12)) (by decide +kernel) (by decide) (by decide +kernel) rfl (fun l3 => ?_)
  refine x_istore (np := 16) (x := 4) (lo' := [x_r 69, iv_c 2147483652, iv_c (h 69 10), iv_c (h 69 11), iv_c (h 69 12), 147573952589676412928, 147573952589676412928, 147573952589676412928]) (by decide +kernel) l3 (Nat.le_of_ble_eq_true rfl) rfl ?_
  refine x_aload (np := 17) (x := 0) (by decide +kernel) rfl (x_nc_le (by decide)) ?_
  refine x_getC (np := 20) (x := 781) (f := 13) (q := (h 69 13)) (by decide +kernel) (by decide) (by decide +kernel) rfl (fun l4 => ?_)
  refine x_istore (np := 22) (x := 5) (lo' := [x_r 69, iv_c 2147483652, iv_c (h 69 10), iv_c (h 69 11), iv_c (h 69 12), iv_c (h 69 13), 147573952589676412928, 147573952589676412928]) (by decide +kernel) l4 (Nat.le_of_ble_eq_true rfl) rfl ?_
  refine x_const (np := 23) (x := 9223372039002259456) (a := 2147483648) (by decide +kernel) (by decide) (by decide) ?_
  refine x_istore (np := 25) (x := 6) (lo' := [x_r 69, iv_c 2147483652, iv_c (h 69 10), iv_c (h 69 11), iv_c (h 69 12), iv_c (h 69 13), iv_c 2147483648, 147573952589676412928]) (by decide +kernel) (by decide) (Nat.le_of_ble_eq_true rfl) rfl ?_
  have p1452 : ∀ (n : Nat) (v1446 : Nat) (w1448 : Nat) (h1449 : xh), 4294967296 - v1446 < n → (2147483648 ≤ v1446 ∧ v1446 ≤ 2147483654) → J h1449 → Fr 65537 h h1449 → X sc 275 (d + 6) (xV fun h' => J h' ∧ Fr 65537 h h') 0 0 25 [x_r 69, iv_c 2147483652, iv_c (h 69 10), iv_c (h 69 11), iv_c (h 69 12), iv_c (h 69 13), iv_c v1446, w1448] [] h1449 := by
    intro n
    induction n with
    | zero => intro v1446 w1448 h1449 q1453; exact absurd q1453 (Nat.not_lt_zero _)
    | succ n i1454 =>
      intro v1446 w1448 h1449 q1453 b1447 j1451 f1450
      have f1455 := Fr.trans hF f1450 (by decide)
      refine x_iload (np := 27) (x := 6) (by decide +kernel) rfl (by first | decide | omega) ?_
      refine x_aload (np := 28) (x := 0) (by decide +kernel) rfl (x_nc_le (by decide)) ?_
      have t1456 : tw (h1449 69 6) := j1451.2.2.2.2.2.2.1
      refine x_getR (np := 31) (x := 774) (f := 6) (q := (h1449 69 6)) (by decide +kernel) (by decide) (by decide +kernel) rfl ?_
      have q1457 : h1449 (h1449 69 6) 7 = h (h1449 69 6) 7 := jK 0 f1450 (rg_T0_7_0_1 t1456) (by first | decide | omega) (by first | decide | omega) (by decide)
      have b1458 := jB (e := 7) 0 hJ (rg_T0_7_0_1 t1456) (by first | decide | omega) (by first | decide | omega)
      refine x_getC (np := 34) (x := 519) (f := 7) (q := (h (h1449 69 6) 7)) (by decide +kernel) (by decide) (tg_0_519_7_0 t1456) q1457 (fun l1459 => ?_)
      refine x_icmp (k := 3) (tg := 95) (np := 37) (by decide +kernel) (by decide) (by first | decide | omega) l1459 (fun q1460 => ?_) (fun q1461 => ?_)
      · have q1460 : (h (h1449 69 6) 7) ≤ v1446 := q1460
        refine x_retV (np := 96) (x := 0) (by decide +kernel) (by decide +kernel) ⟨rfl, ?_⟩
        exact ⟨j1451, f1455⟩
      have q1461 : ¬ ((h (h1449 69 6) 7) ≤ v1446) := q1461
      refine x_const (np := 38) (x := 9223372039002259456) (a := 2147483648) (by decide +kernel) (by decide) (by decide) ?_
      refine x_istore (np := 40) (x := 7) (lo' := [x_r 69, iv_c 2147483652, iv_c (h 69 10), iv_c (h 69 11), iv_c (h 69 12), iv_c (h 69 13), iv_c v1446, iv_c 2147483648]) (by decide +kernel) (by decide) (Nat.le_of_ble_eq_true rfl) rfl ?_
      have p1659 : ∀ (n : Nat) (v1654 : Nat) (h1656 : xh), 4294967296 - v1654 < n → (2147483648 ≤ v1654 ∧ v1654 ≤ 2147483654) → J h1656 → Fr 65537 h1449 h1656 → X sc 275 (d + 6) (xV fun h' => J h' ∧ Fr 65537 h h') 0 0 40 [x_r 69, iv_c 2147483652, iv_c (h 69 10), iv_c (h 69 11), iv_c (h 69 12), iv_c (h 69 13), iv_c v1446, iv_c v1654] [] h1656 := by
        intro n
        induction n with
        | zero => intro v1654 h1656 q1660; exact absurd q1660 (Nat.not_lt_zero _)
        | succ n i1661 =>
          intro v1654 h1656 q1660 b1655 j1658 f1657
          have f1662 := Fr.trans f1455 f1657 (by decide)
          have f1663 := Fr.trans f1450 f1657 (by decide)
          refine x_iload (np := 42) (x := 7) (by decide +kernel) rfl (by first | decide | omega) ?_
          refine x_aload (np := 43) (x := 0) (by decide +kernel) rfl (x_nc_le (by decide)) ?_
          have t1664 : tw (h1656 69 6) := j1658.2.2.2.2.2.2.1
          refine x_getR (np := 46) (x := 774) (f := 6) (q := (h1656 69 6)) (by decide +kernel) (by decide) (by decide +kernel) rfl ?_
          have q1665 : h1656 (h1656 69 6) 7 = h1449 (h1656 69 6) 7 := jK 0 f1657 (rg_T0_7_0_1 t1664) (by first | decide | omega) (by first | decide | omega) (by decide)
          have q1666 : h1449 (h1656 69 6) 7 = h (h1656 69 6) 7 := jK 0 f1450 (rg_T0_7_0_1 t1664) (by first | decide | omega) (by first | decide | omega) (by decide)
          have b1667 := jB (e := 7) 0 hJ (rg_T0_7_0_1 t1664) (by first | decide | omega) (by first | decide | omega)
          refine x_getC (np := 49) (x := 519) (f := 7) (q := (h (h1656 69 6) 7)) (by decide +kernel) (by decide) (tg_0_519_7_0 t1664) (q1665.trans q1666) (fun l1668 => ?_)
          refine x_icmp (k := 3) (tg := 89) (np := 52) (by decide +kernel) (by decide) (by first | decide | omega) l1668 (fun q1669 => ?_) (fun q1670 => ?_)
          · have q1669 : (h (h1656 69 6) 7) ≤ v1654 := q1669
            refine x_iinc (np := 92) (i := 6) (j := 2147483649) (v := (1 + v1446)) (lo' := [x_r 69, iv_c 2147483652, iv_c (h 69 10), iv_c (h 69 11), iv_c (h 69 12), iv_c (h 69 13), iv_c (1 + v1446), iv_c v1654]) (by decide +kernel) (by decide) (by decide) rfl (by first | decide | omega) (by first | decide | omega) (by first | decide | omega) rfl ?_
            refine x_goto (np := 95) (x := 25) (by decide +kernel) ?_
            exact i1454 (1 + v1446) (iv_c v1654) h1656 (by first | decide | omega) (by first | decide | omega) j1658 f1663
          have q1670 : ¬ ((h (h1656 69 6) 7) ≤ v1654) := q1670
          refine x_iload (np := 53) (x := 2) (by decide +kernel) rfl l1 ?_
          refine x_iload (np := 55) (x := 6) (by decide +kernel) rfl (by first | decide | omega) ?_
          refine x_cP (t := 7) (mj := 148) (n := 2) (rc := 0) (ml := 2) (nr := 0) (np := 58) (as := [iv_c (h 69 10), iv_c v1446]) (rest := []) (lo1 := [iv_c (h 69 10), iv_c v1446]) (by decide +kernel) (by decide) (by decide +kernel) (Or.inl rfl) rfl rfl (x_wi l1 (x_wi (by first | decide | omega) x_wn)) x_wn (by decide) rfl (c148 j1658 (by first | decide | omega) (by first | decide | omega)) (fun v1671 l1672 q1673 => ?_)
          refine x_ifz (k := 0) (tg := 83) (np := 61) (by decide +kernel) (by decide) l1672 (fun q1674 => ?_) (fun q1675 => ?_)
          · have q1674 : v1671 = 2147483648 := q1674
            refine x_iinc (np := 86) (i := 7) (j := 2147483649) (v := (1 + v1654)) (lo' := [x_r 69, iv_c 2147483652, iv_c (h 69 10), iv_c (h 69 11), iv_c (h 69 12), iv_c (h 69 13), iv_c v1446, iv_c (1 + v1654)]) (by decide +kernel) (by decide) (by decide) rfl (by first | decide | omega) (by first | decide | omega) (by first | decide | omega) rfl ?_
            refine x_goto (np := 89) (x := 40) (by decide +kernel) ?_
            exact i1661 (1 + v1654) h1656 (by first | decide | omega) (by first | decide | omega) j1658 f1657
          have q1675 : ¬ (v1671 = 2147483648) := q1675
          refine x_iload (np := 62) (x := 3) (by decide +kernel) rfl l2 ?_
          refine x_iload (np := 64) (x := 7) (by decide +kernel) rfl (by first | decide | omega) ?_
          refine x_cP (t := 7) (mj := 148) (n := 2) (rc := 0) (ml := 2) (nr := 0) (np := 67) (as := [iv_c (h 69 11), iv_c v1654]) (rest := []) (lo1 := [iv_c (h 69 11), iv_c v1654]) (by decide +kernel) (by decide) (by decide +kernel) (Or.inl rfl) rfl rfl (x_wi l2 (x_wi (by first | decide | omega) x_wn)) x_wn (by decide) rfl (c148 j1658 (by first | decide | omega) (by first | decide | omega)) (fun v1676 l1677 q1678 => ?_)
          refine x_ifz (k := 0) (tg := 83) (np := 70) (by decide +kernel) (by decide) l1677 (fun q1679 => ?_) (fun q1680 => ?_)
          · have q1679 : v1676 = 2147483648 := q1679
            refine x_iinc (np := 86) (i := 7) (j := 2147483649) (v := (1 + v1654)) (lo' := [x_r 69, iv_c 2147483652, iv_c (h 69 10), iv_c (h 69 11), iv_c (h 69 12), iv_c (h 69 13), iv_c v1446, iv_c (1 + v1654)]) (by decide +kernel) (by decide) (by decide) rfl (by first | decide | omega) (by first | decide | omega) (by first | decide | omega) rfl ?_
            refine x_goto (np := 89) (x := 40) (by decide +kernel) ?_
            exact i1661 (1 + v1654) h1656 (by first | decide | omega) (by first | decide | omega) j1658 f1657
          have q1680 : ¬ (v1676 = 2147483648) := q1680
          refine x_aload (np := 71) (x := 0) (by decide +kernel) rfl (x_nc_le (by decide)) ?_
          refine x_iload (np := 72) (x := 1) (by decide +kernel) rfl (by decide) ?_
          refine x_iload (np := 74) (x := 6) (by decide +kernel) rfl (by first | decide | omega) ?_
          refine x_iload (np := 76) (x := 7) (by decide +kernel) rfl (by first | decide | omega) ?_
          refine x_iload (np := 78) (x := 4) (by decide +kernel) rfl l3 ?_
          refine x_iload (np := 80) (x := 5) (by decide +kernel) rfl l4 ?_
          refine x_cV (t := 8) (mj := 276) (n := 6) (rc := 13) (ml := 10) (nr := 0) (np := 83) (as := [x_r 69, iv_c 2147483652, iv_c v1446, iv_c v1654, iv_c (h 69 12), iv_c (h 69 13)]) (rest := []) (lo1 := [x_r 69, iv_c 2147483652, iv_c v1446, iv_c v1654, iv_c (h 69 12), iv_c (h 69 13), 147573952589676412928, 147573952589676412928, 147573952589676412928, 147573952589676412928]) (by decide +kernel) (by decide) (by decide +kernel) (x_rb_of (by decide +kernel)) rfl rfl (x_wr (by decide) (x_wi (by decide) (x_wi (by first | decide | omega) (x_wi (by first | decide | omega) (x_wi l3 (x_wi l4 x_wn)))))) x_wn (by decide) rfl (c276_69_c4 j1658   (by first | decide | omega) (by first | decide | omega) (by first | decide | omega) (by first | decide | omega)) (fun h1684 q1683 => ?_)
          obtain ⟨j1685, f1686⟩ := q1683
          have f1689 := Fr.trans f1662 f1686 (by decide)
          have f1690 := Fr.trans f1663 f1686 (by decide)
          have f1691 := Fr.trans f1657 f1686 (by decide)
          refine x_iinc (np := 86) (i := 7) (j := 2147483649) (v := (1 + v1654)) (lo' := [x_r 69, iv_c 2147483652, iv_c (h 69 10), iv_c (h 69 11), iv_c (h 69 12), iv_c (h 69 13), iv_c v1446, iv_c (1 + v1654)]) (by decide +kernel) (by decide) (by decide) rfl (by first | decide | omega) (by first | decide | omega) (by first | decide | omega) rfl ?_
          refine x_goto (np := 89) (x := 40) (by decide +kernel) ?_
          exact i1661 (1 + v1654) h1684 (by first | decide | omega) (by first | decide | omega) j1685 f1691
      exact p1659 _ 2147483648 h1449 (Nat.lt_succ_self _) (by first | decide | omega) j1451 (Fr.refl _ _)
  exact p1452 _ 2147483648 147573952589676412928 h (Nat.lt_succ_self _) (by first | decide | omega) hJ (Fr.refl _ _)
set_option maxHeartbeats 0 in
/-- LentNames$Search.keepSet(I)V -/
theorem c279_69_c4 {sc : Nat × Nat} {d  : Nat} {h : xh} (hJ : J h) : X sc 279 d (xV fun h' => J h' ∧ Fr 65537 h h') 0 0 0 [x_r 69, iv_c 2147483652, 147573952589676412928, 147573952589676412928] [] h := by
  have hF := Fr.refl 65537 h
  refine x_aload (np := 1) (x := 0) (by decide +kernel) rfl (x_nc_le (by decide)) ?_
  refine x_dup (np := 2) (x := 0) (by decide +kernel) (by have z := x_nc_le (k := 69) (by decide); unfold x_r; omega) ?_
  refine x_getC (np := 5) (x := 776) (f := 8) (q := (h 69 8)) (by decide +kernel) (by decide) (by decide +kernel) rfl (fun l1 => ?_)
  refine x_const (np := 6) (x := 9223372043297226753) (a := 2147483649) (by decide +kernel) (by decide) (by decide) ?_
  refine x_addA (by rw [tb_b279]; decide +kernel) l1 (by decide) (fun v2 l3 => ?_)
  refine x_putI (np := 10) (x := 776) (f := 8) (by decide +kernel) (by decide +kernel) l3 (Or.inl (by decide)) ?_
  have j5 := jU (e := 8) (v := v2) 0 hJ rg_69_8_0_1 (by first | decide | omega) (by first | decide | omega) (by first | decide | omega)
  have f7 := jF (e := 8) (v := v2) 0 hF rg_69_8_0_1 (by first | decide | omega) (by first | decide | omega) (by decide)
  generalize e6 : x_up h 69 8 v2 = h4 at j5 f7 ⊢
  refine x_aload (np := 11) (x := 0) (by decide +kernel) rfl (x_nc_le (by decide)) ?_
  have q8 : h4 69 8 = v2 := by rw [← e6]; exact x_up_at
  refine x_getC (np := 14) (x := 776) (f := 8) (q := v2) (by decide +kernel) (by decide) (by decide +kernel) q8 (fun l9 => ?_)
  refine x_const (np := 15) (x := 9223372043297226753) (a := 2147483649) (by decide +kernel) (by decide) (by decide) ?_
  refine x_icmp (k := 5) (tg := 19) (np := 18) (by decide +kernel) (by decide) l3 (by decide) (fun q10 => ?_) (fun q11 => ?_)
  · have q10 : v2 ≤ 2147483649 := q10
    refine x_aload (np := 20) (x := 0) (by decide +kernel) rfl (x_nc_le (by decide)) ?_
    refine x_iload (np := 21) (x := 1) (by decide +kernel) rfl (by decide) ?_
    refine x_putI (np := 24) (x := 783) (f := 15) (by decide +kernel) (by decide +kernel) (by decide) (Or.inl (by decide)) ?_
    have j13 := jU (e := 15) (v := 2147483652) 0 j5 rg_69_15_0_1 (by first | decide | omega) (by first | decide | omega) (by first | decide | omega)
    have f15 := jF (e := 15) (v := 2147483652) 0 f7 rg_69_15_0_1 (by first | decide | omega) (by first | decide | omega) (by decide)
    generalize e14 : x_up h4 69 15 2147483652 = h12 at j13 f15 ⊢
    refine x_const (np := 25) (x := 9223372039002259456) (a := 2147483648) (by decide +kernel) (by decide) (by decide) ?_
    refine x_istore (np := 26) (x := 2) (lo' := [x_r 69, iv_c 2147483652, iv_c 2147483648, 147573952589676412928]) (by decide +kernel) (by decide) (Nat.le_of_ble_eq_true rfl) rfl ?_
    have p622 : ∀ (n : Nat) (v616 : Nat) (w618 : Nat) (h619 : xh), 4294967296 - v616 < n → (2147483648 ≤ v616 ∧ v616 ≤ 2147483653) → J h619 → Fr 65536 h12 h619 → X sc 279 d (xV fun h' => J h' ∧ Fr 65537 h h') 0 0 26 [x_r 69, iv_c 2147483652, iv_c v616, w618] [] h619 := by
      intro n
      induction n with
      | zero => intro v616 w618 h619 q623; exact absurd q623 (Nat.not_lt_zero _)
      | succ n i624 =>
        intro v616 w618 h619 q623 b617 j621 f620
        have f625 := Fr.trans f15 f620 (by decide)
        refine x_iload (np := 27) (x := 2) (by decide +kernel) rfl (by first | decide | omega) ?_
        refine x_aload (np := 28) (x := 0) (by decide +kernel) rfl (x_nc_le (by decide)) ?_
        have b626 := jB (e := 15) 0 j621 rg_69_15_0_1 (by first | decide | omega) (by first | decide | omega)
        refine x_getC (np := 31) (x := 783) (f := 15) (q := (h619 69 15)) (by decide +kernel) (by decide) (by decide +kernel) rfl (fun l627 => ?_)
        refine x_icmp (k := 3) (tg := 95) (np := 34) (by decide +kernel) (by decide) (by first | decide | omega) l627 (fun q628 => ?_) (fun q629 => ?_)
        · have q628 : (h619 69 15) ≤ v616 := q628
          refine x_retV (np := 96) (x := 0) (by decide +kernel) (by decide +kernel) ⟨rfl, ?_⟩
          exact ⟨j621, f625⟩
        have q629 : ¬ ((h619 69 15) ≤ v616) := q629
        refine x_iload (np := 35) (x := 2) (by decide +kernel) rfl (by first | decide | omega) ?_
        refine x_istore (np := 36) (x := 3) (lo' := [x_r 69, iv_c 2147483652, iv_c v616, iv_c v616]) (by decide +kernel) (by first | decide | omega) (Nat.le_of_ble_eq_true rfl) rfl ?_
        have p704 : ∀ (n : Nat) (v699 : Nat) (h701 : xh), v699 < n → (2147483648 ≤ v699 ∧ v699 ≤ 2147483652) → J h701 → Fr 65536 h619 h701 → X sc 279 d (xV fun h' => J h' ∧ Fr 65537 h h') 0 0 36 [x_r 69, iv_c 2147483652, iv_c v616, iv_c v699] [] h701 := by
          intro n
          induction n with
          | zero => intro v699 h701 q705; exact absurd q705 (Nat.not_lt_zero _)
          | succ n i706 =>
            intro v699 h701 q705 b700 j703 f702
            have f707 := Fr.trans f625 f702 (by decide)
            have f708 := Fr.trans f620 f702 (by decide)
            refine x_iload (np := 37) (x := 3) (by decide +kernel) rfl (by first | decide | omega) ?_
            refine x_ifz (k := 5) (tg := 77) (np := 40) (by decide +kernel) (by decide) (by first | decide | omega) (fun q709 => ?_) (fun q710 => ?_)
            · have q709 : v699 ≤ 2147483648 := q709
              refine x_aload (np := 78) (x := 0) (by decide +kernel) rfl (x_nc_le (by decide)) ?_
              have q711 : h701 69 4 = 74 := by have z := jB (e := 4) 0 j703 rg_69_4_0_1 (by decide) (by decide); omega
              refine x_getR (np := 81) (x := 772) (f := 4) (q := 74) (by decide +kernel) (by decide) (by decide +kernel) q711 ?_
              refine x_iload (np := 82) (x := 3) (by decide +kernel) rfl (by first | decide | omega) ?_
              refine x_aload (np := 83) (x := 0) (by decide +kernel) rfl (x_nc_le (by decide)) ?_
              have q712 : h701 69 3 = 73 := by have z := jB (e := 3) 0 j703 rg_69_3_0_1 (by decide) (by decide); omega
              refine x_getR (np := 86) (x := 771) (f := 3) (q := 73) (by decide +kernel) (by decide) (by decide +kernel) q712 ?_
              refine x_iload (np := 87) (x := 2) (by decide +kernel) rfl (by first | decide | omega) ?_
              obtain ⟨u713, q714⟩ : ∃ z, v616 = 2147483648 + z := ⟨v616 - 2147483648, by first | decide | omega⟩
              refine x_aldC (np := 88) (x := 0) (n := 5) (i := u713) (q := (h701 73 u713)) (by decide +kernel) (by decide +kernel) (by first | decide | omega) (by first | decide | omega) (by decide) rfl (fun l715 => ?_)
              obtain ⟨u716, q717⟩ : ∃ z, v699 = 2147483648 + z := ⟨v699 - 2147483648, by first | decide | omega⟩
              refine x_ast (np := 89) (x := 0) (kd := 1) (n := 5) (i := u716) (by decide +kernel) (Or.inl rfl) (by decide +kernel) (by first | decide | omega) (by first | decide | omega) (by decide) l715 (fun z => absurd z (by decide)) ?_
              have j719 := jU (e := u716) (v := (h701 73 u713)) u716 j703 rg_74_0_1_5 (by first | decide | omega) (by first | decide | omega) (by first | decide | omega)
              have f721 := jF (e := u716) (v := (h701 73 u713)) u716 f707 rg_74_0_1_5 (by first | decide | omega) (by first | decide | omega) (by decide)
              have f722 := jF (e := u716) (v := (h701 73 u713)) u716 f708 rg_74_0_1_5 (by first | decide | omega) (by first | decide | omega) (by decide)
              generalize e720 : x_up h701 74 u716 (h701 73 u713) = h718 at j719 f721 f722 ⊢
              refine x_iinc (np := 92) (i := 2) (j := 2147483649) (v := (1 + v616)) (lo' := [x_r 69, iv_c 2147483652, iv_c (1 + v616), iv_c v699]) (by decide +kernel) (by decide) (by decide) rfl (by first | decide | omega) (by first | decide | omega) (by first | decide | omega) rfl ?_
              refine x_goto (np := 95) (x := 26) (by decide +kernel) ?_
              exact i624 (1 + v616) (iv_c v699) h718 (by first | decide | omega) (by first | decide | omega) j719 f722
            have q710 : ¬ (v699 ≤ 2147483648) := q710
            refine x_aload (np := 41) (x := 0) (by decide +kernel) rfl (x_nc_le (by decide)) ?_
            have q723 : h701 69 4 = 74 := by have z := jB (e := 4) 0 j703 rg_69_4_0_1 (by decide) (by decide); omega
            refine x_getR (np := 44) (x := 772) (f := 4) (q := 74) (by decide +kernel) (by decide) (by decide +kernel) q723 ?_
            refine x_iload (np := 45) (x := 3) (by decide +kernel) rfl (by first | decide | omega) ?_
            refine x_const (np := 46) (x := 9223372043297226753) (a := 2147483649) (by decide +kernel) (by decide) (by decide) ?_
            obtain ⟨v724, q725⟩ : ∃ z, z + 2147483649 = v699 + 2147483648 := ⟨v699 + 2147483648 - 2147483649, by first | decide | omega⟩
            refine x_isub (np := 47) (x := 0) (v := v724) (by decide +kernel) (by first | decide | omega) (by decide) (by first | decide | omega) (by first | decide | omega) ?_
            obtain ⟨u726, q727⟩ : ∃ z, v724 = 2147483648 + z := ⟨v724 - 2147483648, by first | decide | omega⟩
            refine x_aldC (np := 48) (x := 0) (n := 5) (i := u726) (q := (h701 74 u726)) (by decide +kernel) (by decide +kernel) (by first | decide | omega) (by first | decide | omega) (by decide) rfl (fun l728 => ?_)
            refine x_aload (np := 49) (x := 0) (by decide +kernel) rfl (x_nc_le (by decide)) ?_
            have q729 : h701 69 3 = 73 := by have z := jB (e := 3) 0 j703 rg_69_3_0_1 (by decide) (by decide); omega
            refine x_getR (np := 52) (x := 771) (f := 3) (q := 73) (by decide +kernel) (by decide) (by decide +kernel) q729 ?_
            refine x_iload (np := 53) (x := 2) (by decide +kernel) rfl (by first | decide | omega) ?_
            obtain ⟨u730, q731⟩ : ∃ z, v616 = 2147483648 + z := ⟨v616 - 2147483648, by first | decide | omega⟩
            refine x_aldC (np := 54) (x := 0) (n := 5) (i := u730) (q := (h701 73 u730)) (by decide +kernel) (by decide +kernel) (by first | decide | omega) (by first | decide | omega) (by decide) rfl (fun l732 => ?_)
            refine x_icmp (k := 5) (tg := 77) (np := 57) (by decide +kernel) (by decide) l728 l732 (fun q733 => ?_) (fun q734 => ?_)
            · have q733 : (h701 74 u726) ≤ (h701 73 u730) := q733
              refine x_aload (np := 78) (x := 0) (by decide +kernel) rfl (x_nc_le (by decide)) ?_
              have q735 : h701 69 4 = 74 := by have z := jB (e := 4) 0 j703 rg_69_4_0_1 (by decide) (by decide); omega
              refine x_getR (np := 81) (x := 772) (f := 4) (q := 74) (by decide +kernel) (by decide) (by decide +kernel) q735 ?_
              refine x_iload (np := 82) (x := 3) (by decide +kernel) rfl (by first | decide | omega) ?_
              refine x_aload (np := 83) (x := 0) (by decide +kernel) rfl (x_nc_le (by decide)) ?_
              have q736 : h701 69 3 = 73 := by have z := jB (e := 3) 0 j703 rg_69_3_0_1 (by decide) (by decide); omega
              refine x_getR (np := 86) (x := 771) (f := 3) (q := 73) (by decide +kernel) (by decide) (by decide +kernel) q736 ?_
              refine x_iload (np := 87) (x := 2) (by decide +kernel) rfl (by first | decide | omega) ?_
              refine x_aldC (np := 88) (x := 0) (n := 5) (i := u730) (q := (h701 73 u730)) (by decide +kernel) (by decide +kernel) (by first | decide | omega) (by first | decide | omega) (by decide) rfl (fun l737 => ?_)
              obtain ⟨u738, q739⟩ : ∃ z, v699 = 2147483648 + z := ⟨v699 - 2147483648, by first | decide | omega⟩
              refine x_ast (np := 89) (x := 0) (kd := 1) (n := 5) (i := u738) (by decide +kernel) (Or.inl rfl) (by decide +kernel) (by first | decide | omega) (by first | decide | omega) (by decide) l732 (fun z => absurd z (by decide)) ?_
              have j741 := jU (e := u738) (v := (h701 73 u730)) u738 j703 rg_74_0_1_5 (by first | decide | omega) (by first | decide | omega) (by first | decide | omega)
              have f743 := jF (e := u738) (v := (h701 73 u730)) u738 f707 rg_74_0_1_5 (by first | decide | omega) (by first | decide | omega) (by decide)
              have f744 := jF (e := u738) (v := (h701 73 u730)) u738 f708 rg_74_0_1_5 (by first | decide | omega) (by first | decide | omega) (by decide)
              generalize e742 : x_up h701 74 u738 (h701 73 u730) = h740 at j741 f743 f744 ⊢
              refine x_iinc (np := 92) (i := 2) (j := 2147483649) (v := (1 + v616)) (lo' := [x_r 69, iv_c 2147483652, iv_c (1 + v616), iv_c v699]) (by decide +kernel) (by decide) (by decide) rfl (by first | decide | omega) (by first | decide | omega) (by first | decide | omega) rfl ?_
              refine x_goto (np := 95) (x := 26) (by decide +kernel) ?_
              exact i624 (1 + v616) (iv_c v699) h740 (by first | decide | omega) (by first | decide | omega) j741 f744
            have q734 : ¬ ((h701 74 u726) ≤ (h701 73 u730)) := q734
            refine x_aload (np := 58) (x := 0) (by decide +kernel) rfl (x_nc_le (by decide)) ?_
            have q745 : h701 69 4 = 74 := by have z := jB (e := 4) 0 j703 rg_69_4_0_1 (by decide) (by decide); omega
            refine x_getR (np := 61) (x := 772) (f := 4) (q := 74) (by decide +kernel) (by decide) (by decide +kernel) q745 ?_
            refine x_iload (np := 62) (x := 3) (by decide +kernel) rfl (by first | decide | omega) ?_
            refine x_aload (np := 63) (x := 0) (by decide +kernel) rfl (x_nc_le (by decide)) ?_
            have q746 : h701 69 4 = 74 := by have z := jB (e := 4) 0 j703 rg_69_4_0_1 (by decide) (by decide); omega
            refine x_getR (np := 66) (x := 772) (f := 4) (q := 74) (by decide +kernel) (by decide) (by decide +kernel) q746 ?_
            refine x_iload (np := 67) (x := 3) (by decide +kernel) rfl (by first | decide | omega) ?_
            refine x_const (np := 68) (x := 9223372043297226753) (a := 2147483649) (by decide +kernel) (by decide) (by decide) ?_
            obtain ⟨v747, q748⟩ : ∃ z, z + 2147483649 = v699 + 2147483648 := ⟨v699 + 2147483648 - 2147483649, by first | decide | omega⟩
            refine x_isub (np := 69) (x := 0) (v := v747) (by decide +kernel) (by first | decide | omega) (by decide) (by first | decide | omega) (by first | decide | omega) ?_
            obtain ⟨u749, q750⟩ : ∃ z, v747 = 2147483648 + z := ⟨v747 - 2147483648, by first | decide | omega⟩
            refine x_aldC (np := 70) (x := 0) (n := 5) (i := u749) (q := (h701 74 u749)) (by decide +kernel) (by decide +kernel) (by first | decide | omega) (by first | decide | omega) (by decide) rfl (fun l751 => ?_)
            obtain ⟨u752, q753⟩ : ∃ z, v699 = 2147483648 + z := ⟨v699 - 2147483648, by first | decide | omega⟩
            refine x_ast (np := 71) (x := 0) (kd := 1) (n := 5) (i := u752) (by decide +kernel) (Or.inl rfl) (by decide +kernel) (by first | decide | omega) (by first | decide | omega) (by decide) l751 (fun z => absurd z (by decide)) ?_
            have j755 := jU (e := u752) (v := (h701 74 u749)) u752 j703 rg_74_0_1_5 (by first | decide | omega) (by first | decide | omega) (by first | decide | omega)
            have f757 := jF (e := u752) (v := (h701 74 u749)) u752 f707 rg_74_0_1_5 (by first | decide | omega) (by first | decide | omega) (by decide)
            have f758 := jF (e := u752) (v := (h701 74 u749)) u752 f708 rg_74_0_1_5 (by first | decide | omega) (by first | decide | omega) (by decide)
            have f759 := jF (e := u752) (v := (h701 74 u749)) u752 f702 rg_74_0_1_5 (by first | decide | omega) (by first | decide | omega) (by decide)
            generalize e756 : x_up h701 74 u752 (h701 74 u749) = h754 at j755 f757 f758 f759 ⊢
            obtain ⟨v760, q761⟩ : ∃ z, z + 1 = v699 := ⟨v699 - 1, by first | decide | omega⟩
            refine x_iinc (np := 74) (i := 3) (j := 2147483647) (v := v760) (lo' := [x_r 69, iv_c 2147483652, iv_c v616, iv_c v760]) (by decide +kernel) (by decide) (by decide) rfl (by first | decide | omega) (by first | decide | omega) (by first | decide | omega) rfl ?_
            refine x_goto (np := 77) (x := 36) (by decide +kernel) ?_
            exact i706 v760 h754 (by first | decide | omega) (by first | decide | omega) j755 f759
        exact p704 _ v616 h619 (Nat.lt_succ_self _) (by first | decide | omega) j621 (Fr.refl _ _)
    exact p622 _ 2147483648 147573952589676412928 h12 (Nat.lt_succ_self _) (by first | decide | omega) j13 (Fr.refl _ _)
  have q11 : ¬ (v2 ≤ 2147483649) := q11
  refine x_retV (np := 19) (x := 0) (by decide +kernel) (by decide +kernel) ⟨rfl, ?_⟩
  exact ⟨j5, f7⟩
set_option maxHeartbeats 0 in
/-- LentNames$Search.come(I)V -/
theorem c274_69_c4 {sc : Nat × Nat} {d  : Nat} {h : xh} (hJ : J h) : X sc 274 (d + 7) (xV fun h' => J h' ∧ Fr 65537 h h') 0 0 0 [x_r 69, iv_c 2147483652] [] h := by
  have hF := Fr.refl 65537 h
  refine x_aload (np := 1) (x := 0) (by decide +kernel) rfl (x_nc_le (by decide)) ?_
  refine x_dup (np := 2) (x := 0) (by decide +kernel) (by have z := x_nc_le (k := 69) (by decide); unfold x_r; omega) ?_
  refine x_getC (np := 5) (x := 785) (f := 17) (q := (h 69 17)) (by decide +kernel) (by decide) (by decide +kernel) rfl (fun l1 => ?_)
  refine x_const (np := 6) (x := 9223372043297226753) (a := 2147483649) (by decide +kernel) (by decide) (by decide) ?_
  refine x_addA (by rw [tb_b274]; decide +kernel) l1 (by decide) (fun v2 l3 => ?_)
  refine x_putI (np := 10) (x := 785) (f := 17) (by decide +kernel) (by decide +kernel) l3 (Or.inl (by decide)) ?_
  have j5 := jU (e := 17) (v := v2) 0 hJ rg_69_17_0_1 (by first | decide | omega) (by first | decide | omega) (by first | decide | omega)
  have f7 := jF (e := 17) (v := v2) 0 hF rg_69_17_0_1 (by first | decide | omega) (by first | decide | omega) (by decide)
  generalize e6 : x_up h 69 17 v2 = h4 at j5 f7 ⊢
  refine x_aload (np := 11) (x := 0) (by decide +kernel) rfl (x_nc_le (by decide)) ?_
  have q8 : h4 69 17 = v2 := by rw [← e6]; exact x_up_at
  refine x_getC (np := 14) (x := 785) (f := 17) (q := v2) (by decide +kernel) (by decide) (by decide +kernel) q8 (fun l9 => ?_)
  refine x_const (np := 17) (x := 9223457938348199456) (a := 2147503648) (by decide +kernel) (by decide) (by decide) ?_
  refine x_icmp (k := 5) (tg := 28) (np := 20) (by decide +kernel) (by decide) l3 (by decide) (fun q10 => ?_) (fun q11 => ?_)
  · have q10 : v2 ≤ 2147503648 := q10
    refine x_aload (np := 29) (x := 0) (by decide +kernel) rfl (x_nc_le (by decide)) ?_
    refine x_vI (np := 32) (x := 5246979) (kk := 3) (cls := 5) (mj := 63) (ml := 3) (nr := 0) (rest := []) (lo1 := [x_r 69, 147573952589676412928, 147573952589676412928]) (by decide +kernel) (by decide) (by decide) (by decide) (by decide +kernel) (by decide +kernel) (by decide) (by decide +kernel) (by decide +kernel) x_wn (by decide) rfl (c63_69 j5) (fun v12 h15 l13 q14 => ?_)
    obtain ⟨j16, f17, b18⟩ := q14
    have f19 := Fr.trans f7 f17 (by decide)
    refine x_ifz (k := 1) (tg := 43) (np := 35) (by decide +kernel) (by decide) l13 (fun q20 => ?_) (fun q21 => ?_)
    · have q20 : v12 ≠ 2147483648 := q20
      refine x_iload (np := 44) (x := 1) (by decide +kernel) rfl (by decide) ?_
      refine x_aload (np := 45) (x := 0) (by decide +kernel) rfl (x_nc_le (by decide)) ?_
      refine x_getC (np := 48) (x := 784) (f := 16) (q := (h15 69 16)) (by decide +kernel) (by decide) (by decide +kernel) rfl (fun l22 => ?_)
      refine x_icmp (k := 3) (tg := 61) (np := 51) (by decide +kernel) (by decide) (by decide) l22 (fun q23 => ?_) (fun q24 => ?_)
      · have q23 : (h15 69 16) ≤ 2147483652 := q23
        refine x_retV (np := 62) (x := 0) (by decide +kernel) (by decide +kernel) ⟨rfl, ?_⟩
        exact ⟨j16, f19⟩
      have q24 : ¬ ((h15 69 16) ≤ 2147483652) := q24
      refine x_iload (np := 52) (x := 1) (by decide +kernel) rfl (by decide) ?_
      refine x_const (np := 53) (x := 9223372060477095941) (a := 2147483653) (by decide +kernel) (by decide) (by decide) ?_
      refine x_icmp (k := 3) (tg := 61) (np := 56) (by decide +kernel) (by decide) (by decide) (by decide) (fun q25 => ?_) (fun q26 => ?_)
      · have q25 : 2147483653 ≤ 2147483652 := q25
        exfalso; omega
      have q26 : ¬ (2147483653 ≤ 2147483652) := q26
      refine x_aload (np := 57) (x := 0) (by decide +kernel) rfl (x_nc_le (by decide)) ?_
      refine x_iload (np := 58) (x := 1) (by decide +kernel) rfl (by decide) ?_
      refine x_cV (t := 8) (mj := 275) (n := 2) (rc := 13) (ml := 8) (nr := 0) (np := 61) (as := [x_r 69, iv_c 2147483652]) (rest := []) (lo1 := [x_r 69, iv_c 2147483652, 147573952589676412928, 147573952589676412928, 147573952589676412928, 147573952589676412928, 147573952589676412928, 147573952589676412928]) (by decide +kernel) (by decide) (by decide +kernel) (x_rb_of (by decide +kernel)) rfl rfl (x_wr (by decide) (x_wi (by decide) x_wn)) x_wn (by decide) rfl (c275_69_c4 j16  ) (fun h30 q29 => ?_)
      obtain ⟨j31, f32⟩ := q29
      have f35 := Fr.trans f19 f32 (by decide)
      refine x_retV (np := 62) (x := 0) (by decide +kernel) (by decide +kernel) ⟨rfl, ?_⟩
      exact ⟨j31, f35⟩
    have q21 : ¬ (v12 ≠ 2147483648) := q21
    refine x_aload (np := 36) (x := 0) (by decide +kernel) rfl (x_nc_le (by decide)) ?_
    refine x_iload (np := 37) (x := 1) (by decide +kernel) rfl (by decide) ?_
    refine x_cV (t := 8) (mj := 279) (n := 2) (rc := 13) (ml := 4) (nr := 0) (np := 40) (as := [x_r 69, iv_c 2147483652]) (rest := []) (lo1 := [x_r 69, iv_c 2147483652, 147573952589676412928, 147573952589676412928]) (by decide +kernel) (by decide) (by decide +kernel) (x_rb_of (by decide +kernel)) rfl rfl (x_wr (by decide) (x_wi (by decide) x_wn)) x_wn (by decide) rfl (c279_69_c4 j16  ) (fun h39 q38 => ?_)
    obtain ⟨j40, f41⟩ := q38
    have f44 := Fr.trans f19 f41 (by decide)
    refine x_goto (np := 43) (x := 61) (by decide +kernel) ?_
    refine x_retV (np := 62) (x := 0) (by decide +kernel) (by decide +kernel) ⟨rfl, ?_⟩
    exact ⟨j40, f44⟩
  have q11 : ¬ (v2 ≤ 2147503648) := q11
  refine x_aload (np := 21) (x := 0) (by decide +kernel) rfl (x_nc_le (by decide)) ?_
  refine x_const (np := 22) (x := 9223372043297226753) (a := 2147483649) (by decide +kernel) (by decide) (by decide) ?_
  refine x_putI (np := 25) (x := 4873) (f := 9) (by decide +kernel) (by decide +kernel) (by decide) (Or.inr ⟨by decide, by first | decide | omega, by first | decide | omega⟩) ?_
  have j46 := jU (e := 9) (v := 2147483649) 0 j5 rg_69_9_0_1 (by first | decide | omega) (by first | decide | omega) (by first | decide | omega)
  have f48 := jF (e := 9) (v := 2147483649) 0 f7 rg_69_9_0_1 (by first | decide | omega) (by first | decide | omega) (by decide)
  generalize e47 : x_up h4 69 9 2147483649 = h45 at j46 f48 ⊢
  refine x_goto (np := 28) (x := 61) (by decide +kernel) ?_
  refine x_retV (np := 62) (x := 0) (by decide +kernel) (by decide +kernel) ⟨rfl, ?_⟩
  exact ⟨j46, f48⟩
set_option maxHeartbeats 0 in
/-- LentNames$Search.tryLoan(IIIII)V -/
theorem c277_69_c3 {sc : Nat × Nat} {d a2 a3 a4 a5 : Nat} {h : xh} (hJ : J h) (ba2 : 2147483648 ≤ a2 ∧ a2 ≤ 2147483653) (ba3 : 2147483648 ≤ a3 ∧ a3 ≤ 2147483653) (ba4 : 2147483648 ≤ a4 ∧ a4 ≤ 2147483659) (ba5 : 2147483648 ≤ a5 ∧ a5 ≤ 2147483659) : X sc 277 (d + 8) (xV fun h' => J h' ∧ Fr 65537 h h') 0 0 0 [x_r 69, iv_c 2147483651, iv_c a2, iv_c a3, iv_c a4, iv_c a5, 147573952589676412928] [] h := by
  have la2 : a2 < 4294967296 := by first | decide | omega
  have la3 : a3 < 4294967296 := by first | decide | omega
  have la4 : a4 < 4294967296 := by first | decide | omega
  have la5 : a5 < 4294967296 := by first | decide | omega
  have hF := Fr.refl 65537 h
  refine x_const (np := 1) (x := 9223372043297226753) (a := 2147483649) (by decide +kernel) (by decide) (by decide) ?_
  refine x_iload (np := 3) (x := 5) (by decide +kernel) rfl la5 ?_
  refine x_const (np := 4) (x := 9223372043297226753) (a := 2147483649) (by decide +kernel) (by decide) (by decide) ?_
  refine x_iadd (np := 5) (x := 0) (v := (1 + a5)) (by decide +kernel) la5 (by decide) (by first | decide | omega) (by first | decide | omega) ?_
  refine x_any (np := 6) (k9 := 3) (by decide +kernel) (by decide) (by decide) (by first | decide | omega) (fun v1 l2 => ?_)
  refine x_const (np := 7) (x := 9223372043297226753) (a := 2147483649) (by decide +kernel) (by decide) (by decide) ?_
  refine x_iload (np := 9) (x := 4) (by decide +kernel) rfl la4 ?_
  refine x_any (np := 10) (k9 := 3) (by decide +kernel) (by decide) (by decide) la4 (fun v3 l4 => ?_)
  refine x_subA (by rw [tb_b277]; decide +kernel) l2 l4 (fun v5 l6 => ?_)
  refine x_istore (np := 13) (x := 6) (lo' := [x_r 69, iv_c 2147483651, iv_c a2, iv_c a3, iv_c a4, iv_c a5, iv_c v5]) (by decide +kernel) l6 (Nat.le_of_ble_eq_true rfl) rfl ?_
  refine x_aload (np := 14) (x := 0) (by decide +kernel) rfl (x_nc_le (by decide)) ?_
  have q7 : h 69 3 = 73 := by have z := jB (e := 3) 0 hJ rg_69_3_0_1 (by decide) (by decide); omega
  refine x_getR (np := 17) (x := 771) (f := 3) (q := 73) (by decide +kernel) (by decide) (by decide +kernel) q7 ?_
  refine x_iload (np := 18) (x := 1) (by decide +kernel) rfl (by decide) ?_
  refine x_const (np := 21) (x := 9223414988675229456) (a := 2147493648) (by decide +kernel) (by decide) (by decide) ?_
  refine x_iload (np := 22) (x := 2) (by decide +kernel) rfl la2 ?_
  obtain ⟨u8, q9⟩ : ∃ z, a2 = 2147483648 + z := ⟨a2 - 2147483648, by first | decide | omega⟩
  refine x_imul (np := 23) (x := 0) (i := 10000) (j := u8) (v := (2147483648 + 10000 * u8)) (by decide +kernel) (by first | decide | omega) (by first | decide | omega) (by first | decide | omega) (by first | decide | omega) (by decide) la2 ?_
  refine x_const (np := 26) (x := 9223376333969556456) (a := 2147484648) (by decide +kernel) (by decide) (by decide) ?_
  refine x_iload (np := 27) (x := 3) (by decide +kernel) rfl la3 ?_
  obtain ⟨u11, q12⟩ : ∃ z, a3 = 2147483648 + z := ⟨a3 - 2147483648, by first | decide | omega⟩
  refine x_imul (np := 28) (x := 0) (i := 1000) (j := u11) (v := (2147483648 + 1000 * u11)) (by decide +kernel) (by first | decide | omega) (by first | decide | omega) (by first | decide | omega) (by first | decide | omega) (by decide) la3 ?_
  refine x_iadd (np := 29) (x := 0) (v := (2147483648 + 10000 * u8 + 1000 * u11)) (by decide +kernel) (by first | decide | omega) (by first | decide | omega) (by first | decide | omega) (by first | decide | omega) ?_
  refine x_const (np := 31) (x := 9223372124901605396) (a := 2147483668) (by decide +kernel) (by decide) (by decide) ?_
  refine x_iload (np := 33) (x := 4) (by decide +kernel) rfl la4 ?_
  obtain ⟨u14, q15⟩ : ∃ z, a4 = 2147483648 + z := ⟨a4 - 2147483648, by first | decide | omega⟩
  refine x_imul (np := 34) (x := 0) (i := 20) (j := u14) (v := (2147483648 + 20 * u14)) (by decide +kernel) (by first | decide | omega) (by first | decide | omega) (by first | decide | omega) (by first | decide | omega) (by decide) la4 ?_
  refine x_iadd (np := 35) (x := 0) (v := (2147483648 + 10000 * u8 + 1000 * u11 + 20 * u14)) (by decide +kernel) (by first | decide | omega) (by first | decide | omega) (by first | decide | omega) (by first | decide | omega) ?_
  refine x_iload (np := 37) (x := 5) (by decide +kernel) rfl la5 ?_
  refine x_iadd (np := 38) (x := 0) (v := (10000 * u8 + 1000 * u11 + 20 * u14 + a5)) (by decide +kernel) (by first | decide | omega) la5 (by first | decide | omega) (by first | decide | omega) ?_
  refine x_ast (np := 39) (x := 0) (kd := 1) (n := 5) (i := 3) (by decide +kernel) (Or.inl rfl) (by decide +kernel) (by first | decide | omega) (by first | decide | omega) (by decide) (by first | decide | omega) (fun z => absurd z (by decide)) ?_
  have j18 := jU (e := 3) (v := (10000 * u8 + 1000 * u11 + 20 * u14 + a5)) 3 hJ rg_73_0_1_5 (by first | decide | omega) (by first | decide | omega) (by first | decide | omega)
  have f20 := jF (e := 3) (v := (10000 * u8 + 1000 * u11 + 20 * u14 + a5)) 3 hF rg_73_0_1_5 (by first | decide | omega) (by first | decide | omega) (by decide)
  generalize e19 : x_up h 73 3 (10000 * u8 + 1000 * u11 + 20 * u14 + a5) = h17 at j18 f20 ⊢
  refine x_aload (np := 40) (x := 0) (by decide +kernel) rfl (x_nc_le (by decide)) ?_
  refine x_iload (np := 41) (x := 2) (by decide +kernel) rfl la2 ?_
  refine x_iload (np := 42) (x := 3) (by decide +kernel) rfl la3 ?_
  refine x_iload (np := 44) (x := 6) (by decide +kernel) rfl l6 ?_
  refine x_cV (t := 8) (mj := 280) (n := 4) (rc := 13) (ml := 5) (nr := 0) (np := 47) (as := [x_r 69, iv_c a2, iv_c a3, iv_c v5]) (rest := []) (lo1 := [x_r 69, iv_c a2, iv_c a3, iv_c v5, 147573952589676412928]) (by decide +kernel) (by decide) (by decide +kernel) (x_rb_of (by decide +kernel)) rfl rfl (x_wr (by decide) (x_wi la2 (x_wi la3 (x_wi l6 x_wn)))) x_wn (by decide) rfl (c280_69 j18  (by first | decide | omega) (by first | decide | omega) (by first | decide | omega)) (fun h24 q23 => ?_)
  obtain ⟨j25, f26⟩ := q23
  have f29 := Fr.trans f20 f26 (by decide)
  refine x_aload (np := 48) (x := 0) (by decide +kernel) rfl (x_nc_le (by decide)) ?_
  refine x_iload (np := 49) (x := 1) (by decide +kernel) rfl (by decide) ?_
  refine x_const (np := 50) (x := 9223372043297226753) (a := 2147483649) (by decide +kernel) (by decide) (by decide) ?_
  refine x_iadd (np := 51) (x := 0) (v := 2147483652) (by decide +kernel) (by decide) (by decide) (by first | decide | omega) (by first | decide | omega) ?_
  refine x_cV (t := 8) (mj := 274) (n := 2) (rc := 13) (ml := 2) (nr := 0) (np := 54) (as := [x_r 69, iv_c 2147483652]) (rest := []) (lo1 := [x_r 69, iv_c 2147483652]) (by decide +kernel) (by decide) (by decide +kernel) (x_rb_of (by decide +kernel)) rfl rfl (x_wr (by decide) (x_wi (by decide) x_wn)) x_wn (by decide) rfl (c274_69_c4 j25  ) (fun h33 q32 => ?_)
  obtain ⟨j34, f35⟩ := q32
  have f38 := Fr.trans f29 f35 (by decide)
  refine x_aload (np := 55) (x := 0) (by decide +kernel) rfl (x_nc_le (by decide)) ?_
  refine x_iload (np := 56) (x := 2) (by decide +kernel) rfl la2 ?_
  refine x_iload (np := 58) (x := 6) (by decide +kernel) rfl l6 ?_
  refine x_cV (t := 8) (mj := 281) (n := 3) (rc := 13) (ml := 5) (nr := 0) (np := 61) (as := [x_r 69, iv_c a2, iv_c v5]) (rest := []) (lo1 := [x_r 69, iv_c a2, iv_c v5, 147573952589676412928, 147573952589676412928]) (by decide +kernel) (by decide) (by decide +kernel) (x_rb_of (by decide +kernel)) rfl rfl (x_wr (by decide) (x_wi la2 (x_wi l6 x_wn))) x_wn (by decide) rfl (c281_69 j34  (by first | decide | omega) (by first | decide | omega)) (fun h42 q41 => ?_)
  obtain ⟨j43, f44⟩ := q41
  have f47 := Fr.trans f38 f44 (by decide)
  refine x_retV (np := 62) (x := 0) (by decide +kernel) (by decide +kernel) ⟨rfl, ?_⟩
  exact ⟨j43, f47⟩
set_option maxHeartbeats 0 in
/-- LentNames$Search.tryLoans(IIIII)V -/
theorem c276_69_c3 {sc : Nat × Nat} {d a2 a3 a4 a5 : Nat} {h : xh} (hJ : J h) (ba2 : 2147483648 ≤ a2 ∧ a2 ≤ 2147483653) (ba3 : 2147483648 ≤ a3 ∧ a3 ≤ 2147483653) (ba4 : 0 ≤ a4 ∧ a4 ≤ 4294967295) (ba5 : 0 ≤ a5 ∧ a5 ≤ 4294967295) : X sc 276 (d + 9) (xV fun h' => J h' ∧ Fr 65537 h h') 0 0 0 [x_r 69, iv_c 2147483651, iv_c a2, iv_c a3, iv_c a4, iv_c a5, 147573952589676412928, 147573952589676412928, 147573952589676412928, 147573952589676412928] [] h := by
  have la2 : a2 < 4294967296 := by first | decide | omega
  have la3 : a3 < 4294967296 := by first | decide | omega
  have la4 : a4 < 4294967296 := by first | decide | omega
  have la5 : a5 < 4294967296 := by first | decide | omega
  have hF := Fr.refl 65537 h
  refine x_aload (np := 1) (x := 0) (by decide +kernel) rfl (x_nc_le (by decide)) ?_
  have q1 : h 69 5 = 45 := by have z := jB (e := 5) 0 hJ rg_69_5_0_1 (by decide) (by decide); omega
  refine x_getR (np := 4) (x := 773) (f := 5) (q := 45) (by decide +kernel) (by decide) (by decide +kernel) q1 ?_
  have q2 : h 45 0 = 46 := by have z := jB (e := 0) 0 hJ rg_45_0_0_1 (by decide) (by decide); omega
  refine x_getR (np := 7) (x := 64) (f := 0) (q := 46) (by decide +kernel) (by decide) (by decide +kernel) q2 ?_
  refine x_iload (np := 8) (x := 3) (by decide +kernel) rfl la3 ?_
  obtain ⟨u3, q4⟩ : ∃ z, a3 = 2147483648 + z := ⟨a3 - 2147483648, by first | decide | omega⟩
  refine x_aldC (np := 9) (x := 0) (n := 6) (i := u3) (q := (h 46 u3)) (by decide +kernel) (by decide +kernel) (by first | decide | omega) (by first | decide | omega) (by decide) rfl (fun l5 => ?_)
  refine x_aload (np := 10) (x := 0) (by decide +kernel) rfl (x_nc_le (by decide)) ?_
  have q6 : h 69 5 = 45 := by have z := jB (e := 5) 0 hJ rg_69_5_0_1 (by decide) (by decide); omega
  refine x_getR (np := 13) (x := 773) (f := 5) (q := 45) (by decide +kernel) (by decide) (by decide +kernel) q6 ?_
  have q7 : h 45 1 = 47 := by have z := jB (e := 1) 0 hJ rg_45_1_0_1 (by decide) (by decide); omega
  refine x_getR (np := 16) (x := 65) (f := 1) (q := 47) (by decide +kernel) (by decide) (by decide +kernel) q7 ?_
  refine x_iload (np := 17) (x := 2) (by decide +kernel) rfl la2 ?_
  refine x_iload (np := 18) (x := 3) (by decide +kernel) rfl la3 ?_
  refine x_nI (t := 7) (mj := 149) (n := 2) (rc := 0) (ml := 2) (nr := 2) (np := 21) (as := [iv_c a2, iv_c a3]) (rest := [x_r 47, iv_c (h 46 u3)]) (lo1 := [iv_c a2, iv_c a3]) (by decide +kernel) (by decide) (by decide +kernel) (Or.inl rfl) rfl rfl (x_wi la2 (x_wi la3 x_wn)) (x_wr (by decide) (x_wi l5 x_wn)) (by decide) rfl ?_
  refine x_iload (np := 1) (x := 0) (by decide +kernel) rfl la2 ?_
  refine x_const (np := 3) (x := 9223372064772063238) (a := 2147483654) (by decide +kernel) (by decide) (by decide) ?_
  obtain ⟨u8, q9⟩ : ∃ z, a2 = 2147483648 + z := ⟨a2 - 2147483648, by first | decide | omega⟩
  refine x_imul (np := 4) (x := 0) (i := u8) (j := 6) (v := (2147483648 + 6 * u8)) (by decide +kernel) (by first | decide | omega) (by first | decide | omega) (by first | decide | omega) (by first | decide | omega) la2 (by decide) ?_
  refine x_iload (np := 5) (x := 1) (by decide +kernel) rfl la3 ?_
  refine x_iadd (np := 6) (x := 0) (v := (6 * u8 + a3)) (by decide +kernel) (by first | decide | omega) la3 (by first | decide | omega) (by first | decide | omega) ?_
  refine x_retI (np := 7) (x := 0) (by decide +kernel) (by first | decide | omega) (Or.inl (by decide +kernel)) ⟨_, rfl, (by first | decide | omega), ?_⟩
  refine x_aldC (np := 22) (x := 0) (n := 36) (i := (6 * u8 + u3)) (q := ((h 47 (6 * u8 + u3)))) (by decide +kernel) (by decide +kernel) (by first | decide | omega) (by first | decide | omega) (by decide) rfl (fun l11 => ?_)
  refine x_const (np := 23) (x := 9223372034707292159) (a := 2147483647) (by decide +kernel) (by decide) (by decide) ?_
  refine x_any (np := 24) (k9 := 2) (by decide +kernel) (by decide) l11 (by decide) (fun v12 l13 => ?_)
  refine x_any (np := 25) (k9 := 0) (by decide +kernel) (by decide) l5 l13 (fun v14 l15 => ?_)
  refine x_aload (np := 26) (x := 0) (by decide +kernel) rfl (x_nc_le (by decide)) ?_
  have q16 : h 69 2 = 72 := by have z := jB (e := 2) 0 hJ rg_69_2_0_1 (by decide) (by decide); omega
  refine x_getR (np := 29) (x := 770) (f := 2) (q := 72) (by decide +kernel) (by decide) (by decide +kernel) q16 ?_
  refine x_iload (np := 30) (x := 2) (by decide +kernel) rfl la2 ?_
  refine x_aldC (np := 31) (x := 0) (n := 6) (i := u8) (q := (h 72 u8)) (by decide +kernel) (by decide +kernel) (by first | decide | omega) (by first | decide | omega) (by decide) rfl (fun l17 => ?_)
  refine x_const (np := 32) (x := 9223372034707292159) (a := 2147483647) (by decide +kernel) (by decide) (by decide) ?_
  refine x_any (np := 33) (k9 := 2) (by decide +kernel) (by decide) l17 (by decide) (fun v18 l19 => ?_)
  refine x_any (np := 34) (k9 := 0) (by decide +kernel) (by decide) l15 l19 (fun v20 l21 => ?_)
  refine x_istore (np := 36) (x := 6) (lo' := [x_r 69, iv_c 2147483651, iv_c a2, iv_c a3, iv_c a4, iv_c a5, iv_c v20, 147573952589676412928, 147573952589676412928, 147573952589676412928]) (by decide +kernel) l21 (Nat.le_of_ble_eq_true rfl) rfl ?_
  refine x_aload (np := 37) (x := 0) (by decide +kernel) rfl (x_nc_le (by decide)) ?_
  have q22 : h 69 1 = 71 := by have z := jB (e := 1) 0 hJ rg_69_1_0_1 (by decide) (by decide); omega
  refine x_getR (np := 40) (x := 769) (f := 1) (q := 71) (by decide +kernel) (by decide) (by decide +kernel) q22 ?_
  refine x_iload (np := 41) (x := 2) (by decide +kernel) rfl la2 ?_
  refine x_aldC (np := 42) (x := 0) (n := 6) (i := u8) (q := (h 71 u8)) (by decide +kernel) (by decide +kernel) (by first | decide | omega) (by first | decide | omega) (by decide) rfl (fun l23 => ?_)
  refine x_iload (np := 44) (x := 6) (by decide +kernel) rfl l21 ?_
  refine x_any (np := 45) (k9 := 0) (by decide +kernel) (by decide) l23 l21 (fun v24 l25 => ?_)
  refine x_istore (np := 47) (x := 7) (lo' := [x_r 69, iv_c 2147483651, iv_c a2, iv_c a3, iv_c a4, iv_c a5, iv_c v20, iv_c v24, 147573952589676412928, 147573952589676412928]) (by decide +kernel) l25 (Nat.le_of_ble_eq_true rfl) rfl ?_
  refine x_const (np := 48) (x := 9223372039002259456) (a := 2147483648) (by decide +kernel) (by decide) (by decide) ?_
  refine x_istore (np := 50) (x := 8) (lo' := [x_r 69, iv_c 2147483651, iv_c a2, iv_c a3, iv_c a4, iv_c a5, iv_c v20, iv_c v24, iv_c 2147483648, 147573952589676412928]) (by decide +kernel) (by decide) (Nat.le_of_ble_eq_true rfl) rfl ?_
  have p5130 : ∀ (n : Nat) (v5124 : Nat) (w5126 : Nat) (h5127 : xh), 4294967296 - v5124 < n → (2147483648 ≤ v5124 ∧ v5124 ≤ 2147483660) → J h5127 → Fr 65537 h h5127 → X sc 276 (d + 9) (xV fun h' => J h' ∧ Fr 65537 h h') 0 0 50 [x_r 69, iv_c 2147483651, iv_c a2, iv_c a3, iv_c a4, iv_c a5, iv_c v20, iv_c v24, iv_c v5124, w5126] [] h5127 := by
    intro n
    induction n with
    | zero => intro v5124 w5126 h5127 q5131; exact absurd q5131 (Nat.not_lt_zero _)
    | succ n i5132 =>
      intro v5124 w5126 h5127 q5131 b5125 j5129 f5128
      have f5133 := Fr.trans hF f5128 (by decide)
      refine x_iload (np := 52) (x := 8) (by decide +kernel) rfl (by first | decide | omega) ?_
      refine x_iload (np := 54) (x := 5) (by decide +kernel) rfl la5 ?_
      refine x_icmp (k := 4) (tg := 145) (np := 57) (by decide +kernel) (by decide) (by first | decide | omega) la5 (fun q5134 => ?_) (fun q5135 => ?_)
      · have q5134 : a5 < v5124 := q5134
        refine x_retV (np := 146) (x := 0) (by decide +kernel) (by decide +kernel) ⟨rfl, ?_⟩
        exact ⟨j5129, f5133⟩
      have q5135 : ¬ (a5 < v5124) := q5135
      refine x_iload (np := 59) (x := 8) (by decide +kernel) rfl (by first | decide | omega) ?_
      refine x_const (np := 61) (x := 9223372090541867020) (a := 2147483660) (by decide +kernel) (by decide) (by decide) ?_
      refine x_icmp (k := 3) (tg := 145) (np := 64) (by decide +kernel) (by decide) (by first | decide | omega) (by decide) (fun q5136 => ?_) (fun q5137 => ?_)
      · have q5136 : 2147483660 ≤ v5124 := q5136
        refine x_retV (np := 146) (x := 0) (by decide +kernel) (by decide +kernel) ⟨rfl, ?_⟩
        exact ⟨j5129, f5133⟩
      have q5137 : ¬ (2147483660 ≤ v5124) := q5137
      refine x_iload (np := 66) (x := 7) (by decide +kernel) rfl l25 ?_
      refine x_iload (np := 68) (x := 8) (by decide +kernel) rfl (by first | decide | omega) ?_
      refine x_cP (t := 7) (mj := 148) (n := 2) (rc := 0) (ml := 2) (nr := 0) (np := 71) (as := [iv_c v24, iv_c v5124]) (rest := []) (lo1 := [iv_c v24, iv_c v5124]) (by decide +kernel) (by decide) (by decide +kernel) (Or.inl rfl) rfl rfl (x_wi l25 (x_wi (by first | decide | omega) x_wn)) x_wn (by decide) rfl (c148 j5129 (by first | decide | omega) (by first | decide | omega)) (fun v5138 l5139 q5140 => ?_)
      refine x_ifz (k := 1) (tg := 77) (np := 74) (by decide +kernel) (by decide) l5139 (fun q5141 => ?_) (fun q5142 => ?_)
      · have q5141 : v5138 ≠ 2147483648 := q5141
        refine x_iload (np := 79) (x := 8) (by decide +kernel) rfl (by first | decide | omega) ?_
        refine x_istore (np := 81) (x := 9) (lo' := [x_r 69, iv_c 2147483651, iv_c a2, iv_c a3, iv_c a4, iv_c a5, iv_c v20, iv_c v24, iv_c v5124, iv_c v5124]) (by decide +kernel) (by first | decide | omega) (Nat.le_of_ble_eq_true rfl) rfl ?_
        have p5271 : ∀ (n : Nat) (v5266 : Nat) (h5268 : xh), 4294967296 - v5266 < n → (2147483648 ≤ v5266 ∧ v5266 ≤ 2147483660) → J h5268 → Fr 65537 h5127 h5268 → X sc 276 (d + 9) (xV fun h' => J h' ∧ Fr 65537 h h') 0 0 81 [x_r 69, iv_c 2147483651, iv_c a2, iv_c a3, iv_c a4, iv_c a5, iv_c v20, iv_c v24, iv_c v5124, iv_c v5266] [] h5268 := by
          intro n
          induction n with
          | zero => intro v5266 h5268 q5272; exact absurd q5272 (Nat.not_lt_zero _)
          | succ n i5273 =>
            intro v5266 h5268 q5272 b5267 j5270 f5269
            have f5274 := Fr.trans f5133 f5269 (by decide)
            have f5275 := Fr.trans f5128 f5269 (by decide)
            refine x_iload (np := 83) (x := 9) (by decide +kernel) rfl (by first | decide | omega) ?_
            refine x_const (np := 85) (x := 9223372090541867020) (a := 2147483660) (by decide +kernel) (by decide) (by decide) ?_
            refine x_icmp (k := 3) (tg := 139) (np := 88) (by decide +kernel) (by decide) (by first | decide | omega) (by decide) (fun q5276 => ?_) (fun q5277 => ?_)
            · have q5276 : 2147483660 ≤ v5266 := q5276
              refine x_iinc (np := 142) (i := 8) (j := 2147483649) (v := (1 + v5124)) (lo' := [x_r 69, iv_c 2147483651, iv_c a2, iv_c a3, iv_c a4, iv_c a5, iv_c v20, iv_c v24, iv_c (1 + v5124), iv_c v5266]) (by decide +kernel) (by decide) (by decide) rfl (by first | decide | omega) (by first | decide | omega) (by first | decide | omega) rfl ?_
              refine x_goto (np := 145) (x := 50) (by decide +kernel) ?_
              exact i5132 (1 + v5124) (iv_c v5266) h5268 (by first | decide | omega) (by first | decide | omega) j5270 f5275
            have q5277 : ¬ (2147483660 ≤ v5266) := q5277
            refine x_iload (np := 90) (x := 6) (by decide +kernel) rfl l21 ?_
            refine x_iload (np := 92) (x := 9) (by decide +kernel) rfl (by first | decide | omega) ?_
            refine x_cP (t := 7) (mj := 148) (n := 2) (rc := 0) (ml := 2) (nr := 0) (np := 95) (as := [iv_c v20, iv_c v5266]) (rest := []) (lo1 := [iv_c v20, iv_c v5266]) (by decide +kernel) (by decide) (by decide +kernel) (Or.inl rfl) rfl rfl (x_wi l21 (x_wi (by first | decide | omega) x_wn)) x_wn (by decide) rfl (c148 j5270 (by first | decide | omega) (by first | decide | omega)) (fun v5278 l5279 q5280 => ?_)
            refine x_ifz (k := 0) (tg := 139) (np := 98) (by decide +kernel) (by decide) l5279 (fun q5281 => ?_) (fun q5282 => ?_)
            · have q5281 : v5278 = 2147483648 := q5281
              refine x_iinc (np := 142) (i := 8) (j := 2147483649) (v := (1 + v5124)) (lo' := [x_r 69, iv_c 2147483651, iv_c a2, iv_c a3, iv_c a4, iv_c a5, iv_c v20, iv_c v24, iv_c (1 + v5124), iv_c v5266]) (by decide +kernel) (by decide) (by decide) rfl (by first | decide | omega) (by first | decide | omega) (by first | decide | omega) rfl ?_
              refine x_goto (np := 145) (x := 50) (by decide +kernel) ?_
              exact i5132 (1 + v5124) (iv_c v5266) h5268 (by first | decide | omega) (by first | decide | omega) j5270 f5275
            have q5282 : ¬ (v5278 = 2147483648) := q5282
            refine x_aload (np := 99) (x := 0) (by decide +kernel) rfl (x_nc_le (by decide)) ?_
            refine x_nI (t := 8) (mj := 278) (n := 1) (rc := 13) (ml := 1) (nr := 0) (np := 102) (as := [x_r 69]) (rest := []) (lo1 := [x_r 69]) (by decide +kernel) (by decide) (by decide +kernel) (x_rb_of (by decide +kernel)) rfl rfl (x_wr (by decide) x_wn) x_wn (by decide) rfl ?_
            refine x_aload (np := 1) (x := 0) (by decide +kernel) rfl (x_nc_le (by decide)) ?_
            have b5283 := jB (e := 9) 0 j5270 rg_69_9_0_1 (by first | decide | omega) (by first | decide | omega)
            refine x_getC (np := 4) (x := 777) (f := 9) (q := (h5268 69 9)) (by decide +kernel) (by decide) (by decide +kernel) rfl (fun l5284 => ?_)
            refine x_ifz (k := 1) (tg := 21) (np := 7) (by decide +kernel) (by decide) l5284 (fun q5285 => ?_) (fun q5286 => ?_)
            · have q5285 : (h5268 69 9) ≠ 2147483648 := q5285
              refine x_const (np := 22) (x := 9223372043297226753) (a := 2147483649) (by decide +kernel) (by decide) (by decide) ?_
              refine x_goto (np := 25) (x := 26) (by decide +kernel) ?_
              refine x_retI (np := 27) (x := 0) (by decide +kernel) (by decide) (Or.inr ⟨by decide +kernel, by first | decide | omega, by first | decide | omega⟩) ⟨_, rfl, (by decide), ?_⟩
              refine x_ifz (k := 1) (tg := 139) (np := 105) (by decide +kernel) (by decide) (by decide) (fun q5287 => ?_) (fun q5288 => ?_)
              · have q5287 : 2147483649 ≠ 2147483648 := q5287
                refine x_iinc (np := 142) (i := 8) (j := 2147483649) (v := (1 + v5124)) (lo' := [x_r 69, iv_c 2147483651, iv_c a2, iv_c a3, iv_c a4, iv_c a5, iv_c v20, iv_c v24, iv_c (1 + v5124), iv_c v5266]) (by decide +kernel) (by decide) (by decide) rfl (by first | decide | omega) (by first | decide | omega) (by first | decide | omega) rfl ?_
                refine x_goto (np := 145) (x := 50) (by decide +kernel) ?_
                exact i5132 (1 + v5124) (iv_c v5266) h5268 (by first | decide | omega) (by first | decide | omega) j5270 f5275
              have q5288 : ¬ (2147483649 ≠ 2147483648) := q5288
              exfalso; omega
            have q5286 : ¬ ((h5268 69 9) ≠ 2147483648) := q5286
            refine x_aload (np := 8) (x := 0) (by decide +kernel) rfl (x_nc_le (by decide)) ?_
            refine x_getC (np := 11) (x := 776) (f := 8) (q := (h5268 69 8)) (by decide +kernel) (by decide) (by decide +kernel) rfl (fun l5289 => ?_)
            refine x_ifz (k := 5) (tg := 25) (np := 14) (by decide +kernel) (by decide) l5289 (fun q5290 => ?_) (fun q5291 => ?_)
            · have q5290 : (h5268 69 8) ≤ 2147483648 := q5290
              refine x_const (np := 26) (x := 9223372039002259456) (a := 2147483648) (by decide +kernel) (by decide) (by decide) ?_
              refine x_retI (np := 27) (x := 0) (by decide +kernel) (by decide) (Or.inr ⟨by decide +kernel, by first | decide | omega, by first | decide | omega⟩) ⟨_, rfl, (by decide), ?_⟩
              refine x_ifz (k := 1) (tg := 139) (np := 105) (by decide +kernel) (by decide) (by decide) (fun q5292 => ?_) (fun q5293 => ?_)
              · have q5292 : 2147483648 ≠ 2147483648 := q5292
                exfalso; omega
              have q5293 : ¬ (2147483648 ≠ 2147483648) := q5293
              refine x_iload (np := 107) (x := 9) (by decide +kernel) rfl (by first | decide | omega) ?_
              refine x_iload (np := 109) (x := 4) (by decide +kernel) rfl la4 ?_
              refine x_icmp (k := 2) (tg := 133) (np := 112) (by decide +kernel) (by decide) (by first | decide | omega) la4 (fun q5294 => ?_) (fun q5295 => ?_)
              · have q5294 : v5266 < a4 := q5294
                refine x_iinc (np := 136) (i := 9) (j := 2147483649) (v := (1 + v5266)) (lo' := [x_r 69, iv_c 2147483651, iv_c a2, iv_c a3, iv_c a4, iv_c a5, iv_c v20, iv_c v24, iv_c v5124, iv_c (1 + v5266)]) (by decide +kernel) (by decide) (by decide) rfl (by first | decide | omega) (by first | decide | omega) (by first | decide | omega) rfl ?_
                refine x_goto (np := 139) (x := 81) (by decide +kernel) ?_
                exact i5273 (1 + v5266) h5268 (by first | decide | omega) (by first | decide | omega) j5270 f5269
              have q5295 : ¬ (v5266 < a4) := q5295
              refine x_iload (np := 114) (x := 7) (by decide +kernel) rfl l25 ?_
              refine x_iload (np := 116) (x := 9) (by decide +kernel) rfl (by first | decide | omega) ?_
              refine x_cP (t := 7) (mj := 148) (n := 2) (rc := 0) (ml := 2) (nr := 0) (np := 119) (as := [iv_c v24, iv_c v5266]) (rest := []) (lo1 := [iv_c v24, iv_c v5266]) (by decide +kernel) (by decide) (by decide +kernel) (Or.inl rfl) rfl rfl (x_wi l25 (x_wi (by first | decide | omega) x_wn)) x_wn (by decide) rfl (c148 j5270 (by first | decide | omega) (by first | decide | omega)) (fun v5296 l5297 q5298 => ?_)
              refine x_ifz (k := 0) (tg := 133) (np := 122) (by decide +kernel) (by decide) l5297 (fun q5299 => ?_) (fun q5300 => ?_)
              · have q5299 : v5296 = 2147483648 := q5299
                refine x_iinc (np := 136) (i := 9) (j := 2147483649) (v := (1 + v5266)) (lo' := [x_r 69, iv_c 2147483651, iv_c a2, iv_c a3, iv_c a4, iv_c a5, iv_c v20, iv_c v24, iv_c v5124, iv_c (1 + v5266)]) (by decide +kernel) (by decide) (by decide) rfl (by first | decide | omega) (by first | decide | omega) (by first | decide | omega) rfl ?_
                refine x_goto (np := 139) (x := 81) (by decide +kernel) ?_
                exact i5273 (1 + v5266) h5268 (by first | decide | omega) (by first | decide | omega) j5270 f5269
              have q5300 : ¬ (v5296 = 2147483648) := q5300
              refine x_aload (np := 123) (x := 0) (by decide +kernel) rfl (x_nc_le (by decide)) ?_
              refine x_iload (np := 124) (x := 1) (by decide +kernel) rfl (by decide) ?_
              refine x_iload (np := 125) (x := 2) (by decide +kernel) rfl la2 ?_
              refine x_iload (np := 126) (x := 3) (by decide +kernel) rfl la3 ?_
              refine x_iload (np := 128) (x := 8) (by decide +kernel) rfl (by first | decide | omega) ?_
              refine x_iload (np := 130) (x := 9) (by decide +kernel) rfl (by first | decide | omega) ?_
              refine x_cV (t := 8) (mj := 277) (n := 6) (rc := 13) (ml := 7) (nr := 0) (np := 133) (as := [x_r 69, iv_c 2147483651, iv_c a2, iv_c a3, iv_c v5124, iv_c v5266]) (rest := []) (lo1 := [x_r 69, iv_c 2147483651, iv_c a2, iv_c a3, iv_c v5124, iv_c v5266, 147573952589676412928]) (by decide +kernel) (by decide) (by decide +kernel) (x_rb_of (by decide +kernel)) rfl rfl (x_wr (by decide) (x_wi (by decide) (x_wi la2 (x_wi la3 (x_wi (by first | decide | omega) (x_wi (by first | decide | omega) x_wn)))))) x_wn (by decide) rfl (c277_69_c3 j5270   (by first | decide | omega) (by first | decide | omega) (by first | decide | omega) (by first | decide | omega)) (fun h5304 q5303 => ?_)
              obtain ⟨j5305, f5306⟩ := q5303
              have f5309 := Fr.trans f5274 f5306 (by decide)
              have f5310 := Fr.trans f5275 f5306 (by decide)
              have f5311 := Fr.trans f5269 f5306 (by decide)
              refine x_iinc (np := 136) (i := 9) (j := 2147483649) (v := (1 + v5266)) (lo' := [x_r 69, iv_c 2147483651, iv_c a2, iv_c a3, iv_c a4, iv_c a5, iv_c v20, iv_c v24, iv_c v5124, iv_c (1 + v5266)]) (by decide +kernel) (by decide) (by decide) rfl (by first | decide | omega) (by first | decide | omega) (by first | decide | omega) rfl ?_
              refine x_goto (np := 139) (x := 81) (by decide +kernel) ?_
              exact i5273 (1 + v5266) h5304 (by first | decide | omega) (by first | decide | omega) j5305 f5311
            have q5291 : ¬ ((h5268 69 8) ≤ 2147483648) := q5291
            refine x_aload (np := 15) (x := 0) (by decide +kernel) rfl (x_nc_le (by decide)) ?_
            refine x_vI (P := fun r9 h9 => X sc 278 _ _ 0 0 18 [x_r 69] (iv_c r9 :: []) h9) (np := 18) (x := 5246977) (kk := 1) (cls := 5) (mj := 61) (ml := 1) (nr := 0) (rest := []) (lo1 := [x_r 69]) (by decide +kernel) (by decide) (by decide) (by decide) (by decide +kernel) (by decide +kernel) (by decide) (by decide +kernel) (by decide +kernel) x_wn (by decide) rfl ?_ (fun _ _ _ z => z)
            refine x_const (np := 1) (x := 9223372039002259456) (a := 2147483648) (by decide +kernel) (by decide) (by decide) ?_
            refine x_retI (np := 2) (x := 0) (by decide +kernel) (by decide) (Or.inr ⟨by decide +kernel, by first | decide | omega, by first | decide | omega⟩) ⟨_, rfl, (by decide), ?_⟩
            refine x_ifz (k := 0) (tg := 25) (np := 21) (by decide +kernel) (by decide) (by decide) (fun q5312 => ?_) (fun q5313 => ?_)
            · have q5312 : 2147483648 = 2147483648 := q5312
              refine x_const (np := 26) (x := 9223372039002259456) (a := 2147483648) (by decide +kernel) (by decide) (by decide) ?_
              refine x_retI (np := 27) (x := 0) (by decide +kernel) (by decide) (Or.inr ⟨by decide +kernel, by first | decide | omega, by first | decide | omega⟩) ⟨_, rfl, (by decide), ?_⟩
              refine x_ifz (k := 1) (tg := 139) (np := 105) (by decide +kernel) (by decide) (by decide) (fun q5314 => ?_) (fun q5315 => ?_)
              · have q5314 : 2147483648 ≠ 2147483648 := q5314
                exfalso; omega
              have q5315 : ¬ (2147483648 ≠ 2147483648) := q5315
              refine x_iload (np := 107) (x := 9) (by decide +kernel) rfl (by first | decide | omega) ?_
              refine x_iload (np := 109) (x := 4) (by decide +kernel) rfl la4 ?_
              refine x_icmp (k := 2) (tg := 133) (np := 112) (by decide +kernel) (by decide) (by first | decide | omega) la4 (fun q5316 => ?_) (fun q5317 => ?_)
              · have q5316 : v5266 < a4 := q5316
                refine x_iinc (np := 136) (i := 9) (j := 2147483649) (v := (1 + v5266)) (lo' := [x_r 69, iv_c 2147483651, iv_c a2, iv_c a3, iv_c a4, iv_c a5, iv_c v20, iv_c v24, iv_c v5124, iv_c (1 + v5266)]) (by decide +kernel) (by decide) (by decide) rfl (by first | decide | omega) (by first | decide | omega) (by first | decide | omega) rfl ?_
                refine x_goto (np := 139) (x := 81) (by decide +kernel) ?_
                exact i5273 (1 + v5266) h5268 (by first | decide | omega) (by first | decide | omega) j5270 f5269
              have q5317 : ¬ (v5266 < a4) := q5317
              refine x_iload (np := 114) (x := 7) (by decide +kernel) rfl l25 ?_
              refine x_iload (np := 116) (x := 9) (by decide +kernel) rfl (by first | decide | omega) ?_
              refine x_cP (t := 7) (mj := 148) (n := 2) (rc := 0) (ml := 2) (nr := 0) (np := 119) (as := [iv_c v24, iv_c v5266]) (rest := []) (lo1 := [iv_c v24, iv_c v5266]) (by decide +kernel) (by decide) (by decide +kernel) (Or.inl rfl) rfl rfl (x_wi l25 (x_wi (by first | decide | omega) x_wn)) x_wn (by decide) rfl (c148 j5270 (by first | decide | omega) (by first | decide | omega)) (fun v5318 l5319 q5320 => ?_)
              refine x_ifz (k := 0) (tg := 133) (np := 122) (by decide +kernel) (by decide) l5319 (fun q5321 => ?_) (fun q5322 => ?_)
              · have q5321 : v5318 = 2147483648 := q5321
                refine x_iinc (np := 136) (i := 9) (j := 2147483649) (v := (1 + v5266)) (lo' := [x_r 69, iv_c 2147483651, iv_c a2, iv_c a3, iv_c a4, iv_c a5, iv_c v20, iv_c v24, iv_c v5124, iv_c (1 + v5266)]) (by decide +kernel) (by decide) (by decide) rfl (by first | decide | omega) (by first | decide | omega) (by first | decide | omega) rfl ?_
                refine x_goto (np := 139) (x := 81) (by decide +kernel) ?_
                exact i5273 (1 + v5266) h5268 (by first | decide | omega) (by first | decide | omega) j5270 f5269
              have q5322 : ¬ (v5318 = 2147483648) := q5322
              refine x_aload (np := 123) (x := 0) (by decide +kernel) rfl (x_nc_le (by decide)) ?_
              refine x_iload (np := 124) (x := 1) (by decide +kernel) rfl (by decide) ?_
              refine x_iload (np := 125) (x := 2) (by decide +kernel) rfl la2 ?_
              refine x_iload (np := 126) (x := 3) (by decide +kernel) rfl la3 ?_
              refine x_iload (np := 128) (x := 8) (by decide +kernel) rfl (by first | decide | omega) ?_
              refine x_iload (np := 130) (x := 9) (by decide +kernel) rfl (by first | decide | omega) ?_
              refine x_cV (t := 8) (mj := 277) (n := 6) (rc := 13) (ml := 7) (nr := 0) (np := 133) (as := [x_r 69, iv_c 2147483651, iv_c a2, iv_c a3, iv_c v5124, iv_c v5266]) (rest := []) (lo1 := [x_r 69, iv_c 2147483651, iv_c a2, iv_c a3, iv_c v5124, iv_c v5266, 147573952589676412928]) (by decide +kernel) (by decide) (by decide +kernel) (x_rb_of (by decide +kernel)) rfl rfl (x_wr (by decide) (x_wi (by decide) (x_wi la2 (x_wi la3 (x_wi (by first | decide | omega) (x_wi (by first | decide | omega) x_wn)))))) x_wn (by decide) rfl (c277_69_c3 j5270   (by first | decide | omega) (by first | decide | omega) (by first | decide | omega) (by first | decide | omega)) (fun h5326 q5325 => ?_)
              obtain ⟨j5327, f5328⟩ := q5325
              have f5331 := Fr.trans f5274 f5328 (by decide)
              have f5332 := Fr.trans f5275 f5328 (by decide)
              have f5333 := Fr.trans f5269 f5328 (by decide)
              refine x_iinc (np := 136) (i := 9) (j := 2147483649) (v := (1 + v5266)) (lo' := [x_r 69, iv_c 2147483651, iv_c a2, iv_c a3, iv_c a4, iv_c a5, iv_c v20, iv_c v24, iv_c v5124, iv_c (1 + v5266)]) (by decide +kernel) (by decide) (by decide) rfl (by first | decide | omega) (by first | decide | omega) (by first | decide | omega) rfl ?_
              refine x_goto (np := 139) (x := 81) (by decide +kernel) ?_
              exact i5273 (1 + v5266) h5326 (by first | decide | omega) (by first | decide | omega) j5327 f5333
            have q5313 : ¬ (2147483648 = 2147483648) := q5313
            exfalso; omega
        exact p5271 _ v5124 h5127 (Nat.lt_succ_self _) (by first | decide | omega) j5129 (Fr.refl _ _)
      have q5142 : ¬ (v5138 ≠ 2147483648) := q5142
      refine x_goto (np := 77) (x := 139) (by decide +kernel) ?_
      refine x_iinc (np := 142) (i := 8) (j := 2147483649) (v := (1 + v5124)) (lo' := [x_r 69, iv_c 2147483651, iv_c a2, iv_c a3, iv_c a4, iv_c a5, iv_c v20, iv_c v24, iv_c (1 + v5124), w5126]) (by decide +kernel) (by decide) (by decide) rfl (by first | decide | omega) (by first | decide | omega) (by first | decide | omega) rfl ?_
      refine x_goto (np := 145) (x := 50) (by decide +kernel) ?_
      exact i5132 (1 + v5124) w5126 h5127 (by first | decide | omega) (by first | decide | omega) j5129 f5128
  exact p5130 _ 2147483648 147573952589676412928 h (Nat.lt_succ_self _) (by first | decide | omega) hJ (Fr.refl _ _)
set_option maxHeartbeats 0 in
/-- LentNames$Search.mend(I)V -/
theorem c275_69_c3 {sc : Nat × Nat} {d  : Nat} {h : xh} (hJ : J h) : X sc 275 (d + 10) (xV fun h' => J h' ∧ Fr 65537 h h') 0 0 0 [x_r 69, iv_c 2147483651, 147573952589676412928, 147573952589676412928, 147573952589676412928, 147573952589676412928, 147573952589676412928, 147573952589676412928] [] h := by
  have hF := Fr.refl 65537 h
  refine x_aload (np := 1) (x := 0) (by decide +kernel) rfl (x_nc_le (by decide)) ?_
  refine x_getC (np := 4) (x := 778) (f := 10) (q := (h 69 10)) (by decide +kernel) (by decide) (by decide +kernel) rfl (fun l1 => ?_)
  refine x_istore (np := 5) (x := 2) (lo' := [x_r 69, iv_c 2147483651, iv_c (h 69 10), 147573952589676412928, 147573952589676412928, 147573952589676412928, 147573952589676412928, 147573952589676412928]) (by decide +kernel) l1 (Nat.le_of_ble_eq_true rfl) rfl ?_
  refine x_aload (np := 6) (x := 0) (by decide +kernel) rfl (x_nc_le (by decide)) ?_
  refine x_getC (np := 9) (x := 779) (f := 11) (q := (h 69 11)) (by decide +kernel) (by decide) (by decide +kernel) rfl (fun l2 => ?_)
  refine x_istore (np := 10) (x := 3) (lo' := [x_r 69, iv_c 2147483651, iv_c (h 69 10), iv_c (h 69 11), 147573952589676412928, 147573952589676412928, 147573952589676412928, 147573952589676412928]) (by decide +kernel) l2 (Nat.le_of_ble_eq_true rfl) rfl ?_
  refine x_aload (np := 11) (x := 0) (by decide +kernel) rfl (x_nc_le (by decide)) ?_
  refine x_getC (np := 14) (x := 780) (f := 12) (q := (h 69 12)) (by decide +kernel) (by decide) (by decide +kernel) rfl (fun l3 => ?_)
  refine x_istore (np := 16) (x := 4) (lo' := [x_r 69, iv_c 2147483651, iv_c (h 69 10), iv_c (h 69 11), iv_c (h 69 12), 147573952589676412928, 147573952589676412928, 147573952589676412928]) (by decide +kernel) l3 (Nat.le_of_ble_eq_true rfl) rfl ?_
  refine x_aload (np := 17) (x := 0) (by decide +kernel) rfl (x_nc_le (by decide)) ?_
  refine x_getC (np := 20) (x := 781) (f := 13) (q := (h 69 13)) (by decide +kernel) (by decide) (by decide +kernel) rfl (fun l4 => ?_)
  refine x_istore (np := 22) (x := 5) (lo' := [x_r 69, iv_c 2147483651, iv_c (h 69 10), iv_c (h 69 11), iv_c (h 69 12), iv_c (h 69 13), 147573952589676412928, 147573952589676412928]) (by decide +kernel) l4 (Nat.le_of_ble_eq_true rfl) rfl ?_
  refine x_const (np := 23) (x := 9223372039002259456) (a := 2147483648) (by decide +kernel) (by decide) (by decide) ?_
  refine x_istore (np := 25) (x := 6) (lo' := [x_r 69, iv_c 2147483651, iv_c (h 69 10), iv_c (h 69 11), iv_c (h 69 12), iv_c (h 69 13), iv_c 2147483648, 147573952589676412928]) (by decide +kernel) (by decide) (Nat.le_of_ble_eq_true rfl) rfl ?_
  have p1452 : ∀ (n : Nat) (v1446 : Nat) (w1448 : Nat) (h1449 : xh), 4294967296 - v1446 < n → (2147483648 ≤ v1446 ∧ v1446 ≤ 2147483654) → J h1449 → Fr 65537 h h1449 → X sc 275 (d + 10) (xV fun h' => J h' ∧ Fr 65537 h h') 0 0 25 [x_r 69, iv_c 2147483651, iv_c (h 69 10), iv_c (h 69 11), iv_c (h 69 12), iv_c (h 69 13), iv_c v1446, w1448] [] h1449 := by
    intro n
    induction n with
    | zero => intro v1446 w1448 h1449 q1453; exact absurd q1453 (Nat.not_lt_zero _)
    | succ n i1454 =>
      intro v1446 w1448 h1449 q1453 b1447 j1451 f1450
      have f1455 := Fr.trans hF f1450 (by decide)
      refine x_iload (np := 27) (x := 6) (by decide +kernel) rfl (by first | decide | omega) ?_
      refine x_aload (np := 28) (x := 0) (by decide +kernel) rfl (x_nc_le (by decide)) ?_
      have t1456 : tw (h1449 69 6) := j1451.2.2.2.2.2.2.1
      refine x_getR (np := 31) (x := 774) (f := 6) (q := (h1449 69 6)) (by decide +kernel) (by decide) (by decide +kernel) rfl ?_
      have q1457 : h1449 (h1449 69 6) 7 = h (h1449 69 6) 7 := jK 0 f1450 (rg_T0_7_0_1 t1456) (by first | decide | omega) (by first | decide | omega) (by decide)
      have b1458 := jB (e := 7) 0 hJ (rg_T0_7_0_1 t1456) (by first | decide | omega) (by first | decide | omega)
      refine x_getC (np := 34) (x := 519) (f := 7) (q := (h (h1449 69 6) 7)) (by decide +kernel) (by decide) (tg_0_519_7_0 t1456) q1457 (fun l1459 => ?_)
      refine x_icmp (k := 3) (tg := 95) (np := 37) (by decide +kernel) (by decide) (by first | decide | omega) l1459 (fun q1460 => ?_) (fun q1461 => ?_)
      · have q1460 : (h (h1449 69 6) 7) ≤ v1446 := q1460
        refine x_retV (np := 96) (x := 0) (by decide +kernel) (by decide +kernel) ⟨rfl, ?_⟩
        exact ⟨j1451, f1455⟩
      have q1461 : ¬ ((h (h1449 69 6) 7) ≤ v1446) := q1461
      refine x_const (np := 38) (x := 9223372039002259456) (a := 2147483648) (by decide +kernel) (by decide) (by decide) ?_
      refine x_istore (np := 40) (x := 7) (lo' := [x_r 69, iv_c 2147483651, iv_c (h 69 10), iv_c (h 69 11), iv_c (h 69 12), iv_c (h 69 13), iv_c v1446, iv_c 2147483648]) (by decide +kernel) (by decide) (Nat.le_of_ble_eq_true rfl) rfl ?_
      have p1659 : ∀ (n : Nat) (v1654 : Nat) (h1656 : xh), 4294967296 - v1654 < n → (2147483648 ≤ v1654 ∧ v1654 ≤ 2147483654) → J h1656 → Fr 65537 h1449 h1656 → X sc 275 (d + 10) (xV fun h' => J h' ∧ Fr 65537 h h') 0 0 40 [x_r 69, iv_c 2147483651, iv_c (h 69 10), iv_c (h 69 11), iv_c (h 69 12), iv_c (h 69 13), iv_c v1446, iv_c v1654] [] h1656 := by
        intro n
        induction n with
        | zero => intro v1654 h1656 q1660; exact absurd q1660 (Nat.not_lt_zero _)
        | succ n i1661 =>
          intro v1654 h1656 q1660 b1655 j1658 f1657
          have f1662 := Fr.trans f1455 f1657 (by decide)
          have f1663 := Fr.trans f1450 f1657 (by decide)
          refine x_iload (np := 42) (x := 7) (by decide +kernel) rfl (by first | decide | omega) ?_
          refine x_aload (np := 43) (x := 0) (by decide +kernel) rfl (x_nc_le (by decide)) ?_
          have t1664 : tw (h1656 69 6) := j1658.2.2.2.2.2.2.1
          refine x_getR (np := 46) (x := 774) (f := 6) (q := (h1656 69 6)) (by decide +kernel) (by decide) (by decide +kernel) rfl ?_
          have q1665 : h1656 (h1656 69 6) 7 = h1449 (h1656 69 6) 7 := jK 0 f1657 (rg_T0_7_0_1 t1664) (by first | decide | omega) (by first | decide | omega) (by decide)
          have q1666 : h1449 (h1656 69 6) 7 = h (h1656 69 6) 7 := jK 0 f1450 (rg_T0_7_0_1 t1664) (by first | decide | omega) (by first | decide | omega) (by decide)
          have b1667 := jB (e := 7) 0 hJ (rg_T0_7_0_1 t1664) (by first | decide | omega) (by first | decide | omega)
          refine x_getC (np := 49) (x := 519) (f := 7) (q := (h (h1656 69 6) 7)) (by decide +kernel) (by decide) (tg_0_519_7_0 t1664) (q1665.trans q1666) (fun l1668 => ?_)
          refine x_icmp (k := 3) (tg := 89) (np := 52) (by decide +kernel) (by decide) (by first | decide | omega) l1668 (fun q1669 => ?_) (fun q1670 => ?_)
          · have q1669 : (h (h1656 69 6) 7) ≤ v1654 := q1669
            refine x_iinc (np := 92) (i := 6) (j := 2147483649) (v := (1 + v1446)) (lo' := [x_r 69, iv_c 2147483651, iv_c (h 69 10), iv_c (h 69 11), iv_c (h 69 12), iv_c (h 69 13), iv_c (1 + v1446), iv_c v1654]) (by decide +kernel) (by decide) (by decide) rfl (by first | decide | omega) (by first | decide | omega) (by first | decide | omega) rfl ?_
            refine x_goto (np := 95) (x := 25) (by decide +kernel) ?_
            exact i1454 (1 + v1446) (iv_c v1654) h1656 (by first | decide | omega) (by first | decide | omega) j1658 f1663
          have q1670 : ¬ ((h (h1656 69 6) 7) ≤ v1654) := q1670
          refine x_iload (np := 53) (x := 2) (by decide +kernel) rfl l1 ?_
          refine x_iload (np := 55) (x := 6) (by decide +kernel) rfl (by first | decide | omega) ?_
          refine x_cP (t := 7) (mj := 148) (n := 2) (rc := 0) (ml := 2) (nr := 0) (np := 58) (as := [iv_c (h 69 10), iv_c v1446]) (rest := []) (lo1 := [iv_c (h 69 10), iv_c v1446]) (by decide +kernel) (by decide) (by decide +kernel) (Or.inl rfl) rfl rfl (x_wi l1 (x_wi (by first | decide | omega) x_wn)) x_wn (by decide) rfl (c148 j1658 (by first | decide | omega) (by first | decide | omega)) (fun v1671 l1672 q1673 => ?_)
          refine x_ifz (k := 0) (tg := 83) (np := 61) (by decide +kernel) (by decide) l1672 (fun q1674 => ?_) (fun q1675 => ?_)
          · have q1674 : v1671 = 2147483648 := q1674
            refine x_iinc (np := 86) (i := 7) (j := 2147483649) (v := (1 + v1654)) (lo' := [x_r 69, iv_c 2147483651, iv_c (h 69 10), iv_c (h 69 11), iv_c (h 69 12), iv_c (h 69 13), iv_c v1446, iv_c (1 + v1654)]) (by decide +kernel) (by decide) (by decide) rfl (by first | decide | omega) (by first | decide | omega) (by first | decide | omega) rfl ?_
            refine x_goto (np := 89) (x := 40) (by decide +kernel) ?_
            exact i1661 (1 + v1654) h1656 (by first | decide | omega) (by first | decide | omega) j1658 f1657
          have q1675 : ¬ (v1671 = 2147483648) := q1675
          refine x_iload (np := 62) (x := 3) (by decide +kernel) rfl l2 ?_
          refine x_iload (np := 64) (x := 7) (by decide +kernel) rfl (by first | decide | omega) ?_
          refine x_cP (t := 7) (mj := 148) (n := 2) (rc := 0) (ml := 2) (nr := 0) (np := 67) (as := [iv_c (h 69 11), iv_c v1654]) (rest := []) (lo1 := [iv_c (h 69 11), iv_c v1654]) (by decide +kernel) (by decide) (by decide +kernel) (Or.inl rfl) rfl rfl (x_wi l2 (x_wi (by first | decide | omega) x_wn)) x_wn (by decide) rfl (c148 j1658 (by first | decide | omega) (by first | decide | omega)) (fun v1676 l1677 q1678 => ?_)
          refine x_ifz (k := 0) (tg := 83) (np := 70) (by decide +kernel) (by decide) l1677 (fun q1679 => ?_) (fun q1680 => ?_)
          · have q1679 : v1676 = 2147483648 := q1679
            refine x_iinc (np := 86) (i := 7) (j := 2147483649) (v := (1 + v1654)) (lo' := [x_r 69, iv_c 2147483651, iv_c (h 69 10), iv_c (h 69 11), iv_c (h 69 12), iv_c (h 69 13), iv_c v1446, iv_c (1 + v1654)]) (by decide +kernel) (by decide) (by decide) rfl (by first | decide | omega) (by first | decide | omega) (by first | decide | omega) rfl ?_
            refine x_goto (np := 89) (x := 40) (by decide +kernel) ?_
            exact i1661 (1 + v1654) h1656 (by first | decide | omega) (by first | decide | omega) j1658 f1657
          have q1680 : ¬ (v1676 = 2147483648) := q1680
          refine x_aload (np := 71) (x := 0) (by decide +kernel) rfl (x_nc_le (by decide)) ?_
          refine x_iload (np := 72) (x := 1) (by decide +kernel) rfl (by decide) ?_
          refine x_iload (np := 74) (x := 6) (by decide +kernel) rfl (by first | decide | omega) ?_
          refine x_iload (np := 76) (x := 7) (by decide +kernel) rfl (by first | decide | omega) ?_
          refine x_iload (np := 78) (x := 4) (by decide +kernel) rfl l3 ?_
          refine x_iload (np := 80) (x := 5) (by decide +kernel) rfl l4 ?_
          refine x_cV (t := 8) (mj := 276) (n := 6) (rc := 13) (ml := 10) (nr := 0) (np := 83) (as := [x_r 69, iv_c 2147483651, iv_c v1446, iv_c v1654, iv_c (h 69 12), iv_c (h 69 13)]) (rest := []) (lo1 := [x_r 69, iv_c 2147483651, iv_c v1446, iv_c v1654, iv_c (h 69 12), iv_c (h 69 13), 147573952589676412928, 147573952589676412928, 147573952589676412928, 147573952589676412928]) (by decide +kernel) (by decide) (by decide +kernel) (x_rb_of (by decide +kernel)) rfl rfl (x_wr (by decide) (x_wi (by decide) (x_wi (by first | decide | omega) (x_wi (by first | decide | omega) (x_wi l3 (x_wi l4 x_wn)))))) x_wn (by decide) rfl (c276_69_c3 j1658   (by first | decide | omega) (by first | decide | omega) (by first | decide | omega) (by first | decide | omega)) (fun h1684 q1683 => ?_)
          obtain ⟨j1685, f1686⟩ := q1683
          have f1689 := Fr.trans f1662 f1686 (by decide)
          have f1690 := Fr.trans f1663 f1686 (by decide)
          have f1691 := Fr.trans f1657 f1686 (by decide)
          refine x_iinc (np := 86) (i := 7) (j := 2147483649) (v := (1 + v1654)) (lo' := [x_r 69, iv_c 2147483651, iv_c (h 69 10), iv_c (h 69 11), iv_c (h 69 12), iv_c (h 69 13), iv_c v1446, iv_c (1 + v1654)]) (by decide +kernel) (by decide) (by decide) rfl (by first | decide | omega) (by first | decide | omega) (by first | decide | omega) rfl ?_
          refine x_goto (np := 89) (x := 40) (by decide +kernel) ?_
          exact i1661 (1 + v1654) h1684 (by first | decide | omega) (by first | decide | omega) j1685 f1691
      exact p1659 _ 2147483648 h1449 (Nat.lt_succ_self _) (by first | decide | omega) j1451 (Fr.refl _ _)
  exact p1452 _ 2147483648 147573952589676412928 h (Nat.lt_succ_self _) (by first | decide | omega) hJ (Fr.refl _ _)
set_option maxHeartbeats 0 in
/-- LentNames$Search.keepSet(I)V -/
theorem c279_69_c3 {sc : Nat × Nat} {d  : Nat} {h : xh} (hJ : J h) : X sc 279 d (xV fun h' => J h' ∧ Fr 65537 h h') 0 0 0 [x_r 69, iv_c 2147483651, 147573952589676412928, 147573952589676412928] [] h := by
  have hF := Fr.refl 65537 h
  refine x_aload (np := 1) (x := 0) (by decide +kernel) rfl (x_nc_le (by decide)) ?_
  refine x_dup (np := 2) (x := 0) (by decide +kernel) (by have z := x_nc_le (k := 69) (by decide); unfold x_r; omega) ?_
  refine x_getC (np := 5) (x := 776) (f := 8) (q := (h 69 8)) (by decide +kernel) (by decide) (by decide +kernel) rfl (fun l1 => ?_)
  refine x_const (np := 6) (x := 9223372043297226753) (a := 2147483649) (by decide +kernel) (by decide) (by decide) ?_
  refine x_addA (by rw [tb_b279]; decide +kernel) l1 (by decide) (fun v2 l3 => ?_)
  refine x_putI (np := 10) (x := 776) (f := 8) (by decide +kernel) (by decide +kernel) l3 (Or.inl (by decide)) ?_
  have j5 := jU (e := 8) (v := v2) 0 hJ rg_69_8_0_1 (by first | decide | omega) (by first | decide | omega) (by first | decide | omega)
  have f7 := jF (e := 8) (v := v2) 0 hF rg_69_8_0_1 (by first | decide | omega) (by first | decide | omega) (by decide)
  generalize e6 : x_up h 69 8 v2 = h4 at j5 f7 ⊢
  refine x_aload (np := 11) (x := 0) (by decide +kernel) rfl (x_nc_le (by decide)) ?_
  have q8 : h4 69 8 = v2 := by rw [← e6]; exact x_up_at
  refine x_getC (np := 14) (x := 776) (f := 8) (q := v2) (by decide +kernel) (by decide) (by decide +kernel) q8 (fun l9 => ?_)
  refine x_const (np := 15) (x := 9223372043297226753) (a := 2147483649) (by decide +kernel) (by decide) (by decide) ?_
  refine x_icmp (k := 5) (tg := 19) (np := 18) (by decide +kernel) (by decide) l3 (by decide) (fun q10 => ?_) (fun q11 => ?_)
  · have q10 : v2 ≤ 2147483649 := q10
    refine x_aload (np := 20) (x := 0) (by decide +kernel) rfl (x_nc_le (by decide)) ?_
    refine x_iload (np := 21) (x := 1) (by decide +kernel) rfl (by decide) ?_
    refine x_putI (np := 24) (x := 783) (f := 15) (by decide +kernel) (by decide +kernel) (by decide) (Or.inl (by decide)) ?_
    have j13 := jU (e := 15) (v := 2147483651) 0 j5 rg_69_15_0_1 (by first | decide | omega) (by first | decide | omega) (by first | decide | omega)
    have f15 := jF (e := 15) (v := 2147483651) 0 f7 rg_69_15_0_1 (by first | decide | omega) (by first | decide | omega) (by decide)
    generalize e14 : x_up h4 69 15 2147483651 = h12 at j13 f15 ⊢
    refine x_const (np := 25) (x := 9223372039002259456) (a := 2147483648) (by decide +kernel) (by decide) (by decide) ?_
    refine x_istore (np := 26) (x := 2) (lo' := [x_r 69, iv_c 2147483651, iv_c 2147483648, 147573952589676412928]) (by decide +kernel) (by decide) (Nat.le_of_ble_eq_true rfl) rfl ?_
    have p622 : ∀ (n : Nat) (v616 : Nat) (w618 : Nat) (h619 : xh), 4294967296 - v616 < n → (2147483648 ≤ v616 ∧ v616 ≤ 2147483653) → J h619 → Fr 65536 h12 h619 → X sc 279 d (xV fun h' => J h' ∧ Fr 65537 h h') 0 0 26 [x_r 69, iv_c 2147483651, iv_c v616, w618] [] h619 := by
      intro n
      induction n with
      | zero => intro v616 w618 h619 q623; exact absurd q623 (Nat.not_lt_zero _)
      | succ n i624 =>
        intro v616 w618 h619 q623 b617 j621 f620
        have f625 := Fr.trans f15 f620 (by decide)
        refine x_iload (np := 27) (x := 2) (by decide +kernel) rfl (by first | decide | omega) ?_
        refine x_aload (np := 28) (x := 0) (by decide +kernel) rfl (x_nc_le (by decide)) ?_
        have b626 := jB (e := 15) 0 j621 rg_69_15_0_1 (by first | decide | omega) (by first | decide | omega)
        refine x_getC (np := 31) (x := 783) (f := 15) (q := (h619 69 15)) (by decide +kernel) (by decide) (by decide +kernel) rfl (fun l627 => ?_)
        refine x_icmp (k := 3) (tg := 95) (np := 34) (by decide +kernel) (by decide) (by first | decide | omega) l627 (fun q628 => ?_) (fun q629 => ?_)
        · have q628 : (h619 69 15) ≤ v616 := q628
          refine x_retV (np := 96) (x := 0) (by decide +kernel) (by decide +kernel) ⟨rfl, ?_⟩
          exact ⟨j621, f625⟩
        have q629 : ¬ ((h619 69 15) ≤ v616) := q629
        refine x_iload (np := 35) (x := 2) (by decide +kernel) rfl (by first | decide | omega) ?_
        refine x_istore (np := 36) (x := 3) (lo' := [x_r 69, iv_c 2147483651, iv_c v616, iv_c v616]) (by decide +kernel) (by first | decide | omega) (Nat.le_of_ble_eq_true rfl) rfl ?_
        have p704 : ∀ (n : Nat) (v699 : Nat) (h701 : xh), v699 < n → (2147483648 ≤ v699 ∧ v699 ≤ 2147483652) → J h701 → Fr 65536 h619 h701 → X sc 279 d (xV fun h' => J h' ∧ Fr 65537 h h') 0 0 36 [x_r 69, iv_c 2147483651, iv_c v616, iv_c v699] [] h701 := by
          intro n
          induction n with
          | zero => intro v699 h701 q705; exact absurd q705 (Nat.not_lt_zero _)
          | succ n i706 =>
            intro v699 h701 q705 b700 j703 f702
            have f707 := Fr.trans f625 f702 (by decide)
            have f708 := Fr.trans f620 f702 (by decide)
            refine x_iload (np := 37) (x := 3) (by decide +kernel) rfl (by first | decide | omega) ?_
            refine x_ifz (k := 5) (tg := 77) (np := 40) (by decide +kernel) (by decide) (by first | decide | omega) (fun q709 => ?_) (fun q710 => ?_)
            · have q709 : v699 ≤ 2147483648 := q709
              refine x_aload (np := 78) (x := 0) (by decide +kernel) rfl (x_nc_le (by decide)) ?_
              have q711 : h701 69 4 = 74 := by have z := jB (e := 4) 0 j703 rg_69_4_0_1 (by decide) (by decide); omega
              refine x_getR (np := 81) (x := 772) (f := 4) (q := 74) (by decide +kernel) (by decide) (by decide +kernel) q711 ?_
              refine x_iload (np := 82) (x := 3) (by decide +kernel) rfl (by first | decide | omega) ?_
              refine x_aload (np := 83) (x := 0) (by decide +kernel) rfl (x_nc_le (by decide)) ?_
              have q712 : h701 69 3 = 73 := by have z := jB (e := 3) 0 j703 rg_69_3_0_1 (by decide) (by decide); omega
              refine x_getR (np := 86) (x := 771) (f := 3) (q := 73) (by decide +kernel) (by decide) (by decide +kernel) q712 ?_
              refine x_iload (np := 87) (x := 2) (by decide +kernel) rfl (by first | decide | omega) ?_
              obtain ⟨u713, q714⟩ : ∃ z, v616 = 2147483648 + z := ⟨v616 - 2147483648, by first | decide | omega⟩
              refine x_aldC (np := 88) (x := 0) (n := 5) (i := u713) (q := (h701 73 u713)) (by decide +kernel) (by decide +kernel) (by first | decide | omega) (by first | decide | omega) (by decide) rfl (fun l715 => ?_)
              obtain ⟨u716, q717⟩ : ∃ z, v699 = 2147483648 + z := ⟨v699 - 2147483648, by first | decide | omega⟩
              refine x_ast (np := 89) (x := 0) (kd := 1) (n := 5) (i := u716) (by decide +kernel) (Or.inl rfl) (by decide +kernel) (by first | decide | omega) (by first | decide | omega) (by decide) l715 (fun z => absurd z (by decide)) ?_
              have j719 := jU (e := u716) (v := (h701 73 u713)) u716 j703 rg_74_0_1_5 (by first | decide | omega) (by first | decide | omega) (by first | decide | omega)
              have f721 := jF (e := u716) (v := (h701 73 u713)) u716 f707 rg_74_0_1_5 (by first | decide | omega) (by first | decide | omega) (by decide)
              have f722 := jF (e := u716) (v := (h701 73 u713)) u716 f708 rg_74_0_1_5 (by first | decide | omega) (by first | decide | omega) (by decide)
              generalize e720 : x_up h701 74 u716 (h701 73 u713) = h718 at j719 f721 f722 ⊢
              refine x_iinc (np := 92) (i := 2) (j := 2147483649) (v := (1 + v616)) (lo' := [x_r 69, iv_c 2147483651, iv_c (1 + v616), iv_c v699]) (by decide +kernel) (by decide) (by decide) rfl (by first | decide | omega) (by first | decide | omega) (by first | decide | omega) rfl ?_
              refine x_goto (np := 95) (x := 26) (by decide +kernel) ?_
              exact i624 (1 + v616) (iv_c v699) h718 (by first | decide | omega) (by first | decide | omega) j719 f722
            have q710 : ¬ (v699 ≤ 2147483648) := q710
            refine x_aload (np := 41) (x := 0) (by decide +kernel) rfl (x_nc_le (by decide)) ?_
            have q723 : h701 69 4 = 74 := by have z := jB (e := 4) 0 j703 rg_69_4_0_1 (by decide) (by decide); omega
            refine x_getR (np := 44) (x := 772) (f := 4) (q := 74) (by decide +kernel) (by decide) (by decide +kernel) q723 ?_
            refine x_iload (np := 45) (x := 3) (by decide +kernel) rfl (by first | decide | omega) ?_
            refine x_const (np := 46) (x := 9223372043297226753) (a := 2147483649) (by decide +kernel) (by decide) (by decide) ?_
            obtain ⟨v724, q725⟩ : ∃ z, z + 2147483649 = v699 + 2147483648 := ⟨v699 + 2147483648 - 2147483649, by first | decide | omega⟩
            refine x_isub (np := 47) (x := 0) (v := v724) (by decide +kernel) (by first | decide | omega) (by decide) (by first | decide | omega) (by first | decide | omega) ?_
            obtain ⟨u726, q727⟩ : ∃ z, v724 = 2147483648 + z := ⟨v724 - 2147483648, by first | decide | omega⟩
            refine x_aldC (np := 48) (x := 0) (n := 5) (i := u726) (q := (h701 74 u726)) (by decide +kernel) (by decide +kernel) (by first | decide | omega) (by first | decide | omega) (by decide) rfl (fun l728 => ?_)
            refine x_aload (np := 49) (x := 0) (by decide +kernel) rfl (x_nc_le (by decide)) ?_
            have q729 : h701 69 3 = 73 := by have z := jB (e := 3) 0 j703 rg_69_3_0_1 (by decide) (by decide); omega
            refine x_getR (np := 52) (x := 771) (f := 3) (q := 73) (by decide +kernel) (by decide) (by decide +kernel) q729 ?_
            refine x_iload (np := 53) (x := 2) (by decide +kernel) rfl (by first | decide | omega) ?_
            obtain ⟨u730, q731⟩ : ∃ z, v616 = 2147483648 + z := ⟨v616 - 2147483648, by first | decide | omega⟩
            refine x_aldC (np := 54) (x := 0) (n := 5) (i := u730) (q := (h701 73 u730)) (by decide +kernel) (by decide +kernel) (by first | decide | omega) (by first | decide | omega) (by decide) rfl (fun l732 => ?_)
            refine x_icmp (k := 5) (tg := 77) (np := 57) (by decide +kernel) (by decide) l728 l732 (fun q733 => ?_) (fun q734 => ?_)
            · have q733 : (h701 74 u726) ≤ (h701 73 u730) := q733
              refine x_aload (np := 78) (x := 0) (by decide +kernel) rfl (x_nc_le (by decide)) ?_
              have q735 : h701 69 4 = 74 := by have z := jB (e := 4) 0 j703 rg_69_4_0_1 (by decide) (by decide); omega
              refine x_getR (np := 81) (x := 772) (f := 4) (q := 74) (by decide +kernel) (by decide) (by decide +kernel) q735 ?_
              refine x_iload (np := 82) (x := 3) (by decide +kernel) rfl (by first | decide | omega) ?_
              refine x_aload (np := 83) (x := 0) (by decide +kernel) rfl (x_nc_le (by decide)) ?_
              have q736 : h701 69 3 = 73 := by have z := jB (e := 3) 0 j703 rg_69_3_0_1 (by decide) (by decide); omega
              refine x_getR (np := 86) (x := 771) (f := 3) (q := 73) (by decide +kernel) (by decide) (by decide +kernel) q736 ?_
              refine x_iload (np := 87) (x := 2) (by decide +kernel) rfl (by first | decide | omega) ?_
              refine x_aldC (np := 88) (x := 0) (n := 5) (i := u730) (q := (h701 73 u730)) (by decide +kernel) (by decide +kernel) (by first | decide | omega) (by first | decide | omega) (by decide) rfl (fun l737 => ?_)
              obtain ⟨u738, q739⟩ : ∃ z, v699 = 2147483648 + z := ⟨v699 - 2147483648, by first | decide | omega⟩
              refine x_ast (np := 89) (x := 0) (kd := 1) (n := 5) (i := u738) (by decide +kernel) (Or.inl rfl) (by decide +kernel) (by first | decide | omega) (by first | decide | omega) (by decide) l732 (fun z => absurd z (by decide)) ?_
              have j741 := jU (e := u738) (v := (h701 73 u730)) u738 j703 rg_74_0_1_5 (by first | decide | omega) (by first | decide | omega) (by first | decide | omega)
              have f743 := jF (e := u738) (v := (h701 73 u730)) u738 f707 rg_74_0_1_5 (by first | decide | omega) (by first | decide | omega) (by decide)
              have f744 := jF (e := u738) (v := (h701 73 u730)) u738 f708 rg_74_0_1_5 (by first | decide | omega) (by first | decide | omega) (by decide)
              generalize e742 : x_up h701 74 u738 (h701 73 u730) = h740 at j741 f743 f744 ⊢
              refine x_iinc (np := 92) (i := 2) (j := 2147483649) (v := (1 + v616)) (lo' := [x_r 69, iv_c 2147483651, iv_c (1 + v616), iv_c v699]) (by decide +kernel) (by decide) (by decide) rfl (by first | decide | omega) (by first | decide | omega) (by first | decide | omega) rfl ?_
              refine x_goto (np := 95) (x := 26) (by decide +kernel) ?_
              exact i624 (1 + v616) (iv_c v699) h740 (by first | decide | omega) (by first | decide | omega) j741 f744
            have q734 : ¬ ((h701 74 u726) ≤ (h701 73 u730)) := q734
            refine x_aload (np := 58) (x := 0) (by decide +kernel) rfl (x_nc_le (by decide)) ?_
            have q745 : h701 69 4 = 74 := by have z := jB (e := 4) 0 j703 rg_69_4_0_1 (by decide) (by decide); omega
            refine x_getR (np := 61) (x := 772) (f := 4) (q := 74) (by decide +kernel) (by decide) (by decide +kernel) q745 ?_
            refine x_iload (np := 62) (x := 3) (by decide +kernel) rfl (by first | decide | omega) ?_
            refine x_aload (np := 63) (x := 0) (by decide +kernel) rfl (x_nc_le (by decide)) ?_
            have q746 : h701 69 4 = 74 := by have z := jB (e := 4) 0 j703 rg_69_4_0_1 (by decide) (by decide); omega
            refine x_getR (np := 66) (x := 772) (f := 4) (q := 74) (by decide +kernel) (by decide) (by decide +kernel) q746 ?_
            refine x_iload (np := 67) (x := 3) (by decide +kernel) rfl (by first | decide | omega) ?_
            refine x_const (np := 68) (x := 9223372043297226753) (a := 2147483649) (by decide +kernel) (by decide) (by decide) ?_
            obtain ⟨v747, q748⟩ : ∃ z, z + 2147483649 = v699 + 2147483648 := ⟨v699 + 2147483648 - 2147483649, by first | decide | omega⟩
            refine x_isub (np := 69) (x := 0) (v := v747) (by decide +kernel) (by first | decide | omega) (by decide) (by first | decide | omega) (by first | decide | omega) ?_
            obtain ⟨u749, q750⟩ : ∃ z, v747 = 2147483648 + z := ⟨v747 - 2147483648, by first | decide | omega⟩
            refine x_aldC (np := 70) (x := 0) (n := 5) (i := u749) (q := (h701 74 u749)) (by decide +kernel) (by decide +kernel) (by first | decide | omega) (by first | decide | omega) (by decide) rfl (fun l751 => ?_)
            obtain ⟨u752, q753⟩ : ∃ z, v699 = 2147483648 + z := ⟨v699 - 2147483648, by first | decide | omega⟩
            refine x_ast (np := 71) (x := 0) (kd := 1) (n := 5) (i := u752) (by decide +kernel) (Or.inl rfl) (by decide +kernel) (by first | decide | omega) (by first | decide | omega) (by decide) l751 (fun z => absurd z (by decide)) ?_
            have j755 := jU (e := u752) (v := (h701 74 u749)) u752 j703 rg_74_0_1_5 (by first | decide | omega) (by first | decide | omega) (by first | decide | omega)
            have f757 := jF (e := u752) (v := (h701 74 u749)) u752 f707 rg_74_0_1_5 (by first | decide | omega) (by first | decide | omega) (by decide)
            have f758 := jF (e := u752) (v := (h701 74 u749)) u752 f708 rg_74_0_1_5 (by first | decide | omega) (by first | decide | omega) (by decide)
            have f759 := jF (e := u752) (v := (h701 74 u749)) u752 f702 rg_74_0_1_5 (by first | decide | omega) (by first | decide | omega) (by decide)
            generalize e756 : x_up h701 74 u752 (h701 74 u749) = h754 at j755 f757 f758 f759 ⊢
            obtain ⟨v760, q761⟩ : ∃ z, z + 1 = v699 := ⟨v699 - 1, by first | decide | omega⟩
            refine x_iinc (np := 74) (i := 3) (j := 2147483647) (v := v760) (lo' := [x_r 69, iv_c 2147483651, iv_c v616, iv_c v760]) (by decide +kernel) (by decide) (by decide) rfl (by first | decide | omega) (by first | decide | omega) (by first | decide | omega) rfl ?_
            refine x_goto (np := 77) (x := 36) (by decide +kernel) ?_
            exact i706 v760 h754 (by first | decide | omega) (by first | decide | omega) j755 f759
        exact p704 _ v616 h619 (Nat.lt_succ_self _) (by first | decide | omega) j621 (Fr.refl _ _)
    exact p622 _ 2147483648 147573952589676412928 h12 (Nat.lt_succ_self _) (by first | decide | omega) j13 (Fr.refl _ _)
  have q11 : ¬ (v2 ≤ 2147483649) := q11
  refine x_retV (np := 19) (x := 0) (by decide +kernel) (by decide +kernel) ⟨rfl, ?_⟩
  exact ⟨j5, f7⟩
set_option maxHeartbeats 0 in
/-- LentNames$Search.come(I)V -/
theorem c274_69_c3 {sc : Nat × Nat} {d  : Nat} {h : xh} (hJ : J h) : X sc 274 (d + 11) (xV fun h' => J h' ∧ Fr 65537 h h') 0 0 0 [x_r 69, iv_c 2147483651] [] h := by
  have hF := Fr.refl 65537 h
  refine x_aload (np := 1) (x := 0) (by decide +kernel) rfl (x_nc_le (by decide)) ?_
  refine x_dup (np := 2) (x := 0) (by decide +kernel) (by have z := x_nc_le (k := 69) (by decide); unfold x_r; omega) ?_
  refine x_getC (np := 5) (x := 785) (f := 17) (q := (h 69 17)) (by decide +kernel) (by decide) (by decide +kernel) rfl (fun l1 => ?_)
  refine x_const (np := 6) (x := 9223372043297226753) (a := 2147483649) (by decide +kernel) (by decide) (by decide) ?_
  refine x_addA (by rw [tb_b274]; decide +kernel) l1 (by decide) (fun v2 l3 => ?_)
  refine x_putI (np := 10) (x := 785) (f := 17) (by decide +kernel) (by decide +kernel) l3 (Or.inl (by decide)) ?_
  have j5 := jU (e := 17) (v := v2) 0 hJ rg_69_17_0_1 (by first | decide | omega) (by first | decide | omega) (by first | decide | omega)
  have f7 := jF (e := 17) (v := v2) 0 hF rg_69_17_0_1 (by first | decide | omega) (by first | decide | omega) (by decide)
  generalize e6 : x_up h 69 17 v2 = h4 at j5 f7 ⊢
  refine x_aload (np := 11) (x := 0) (by decide +kernel) rfl (x_nc_le (by decide)) ?_
  have q8 : h4 69 17 = v2 := by rw [← e6]; exact x_up_at
  refine x_getC (np := 14) (x := 785) (f := 17) (q := v2) (by decide +kernel) (by decide) (by decide +kernel) q8 (fun l9 => ?_)
  refine x_const (np := 17) (x := 9223457938348199456) (a := 2147503648) (by decide +kernel) (by decide) (by decide) ?_
  refine x_icmp (k := 5) (tg := 28) (np := 20) (by decide +kernel) (by decide) l3 (by decide) (fun q10 => ?_) (fun q11 => ?_)
  · have q10 : v2 ≤ 2147503648 := q10
    refine x_aload (np := 29) (x := 0) (by decide +kernel) rfl (x_nc_le (by decide)) ?_
    refine x_vI (np := 32) (x := 5246979) (kk := 3) (cls := 5) (mj := 63) (ml := 3) (nr := 0) (rest := []) (lo1 := [x_r 69, 147573952589676412928, 147573952589676412928]) (by decide +kernel) (by decide) (by decide) (by decide) (by decide +kernel) (by decide +kernel) (by decide) (by decide +kernel) (by decide +kernel) x_wn (by decide) rfl (c63_69 j5) (fun v12 h15 l13 q14 => ?_)
    obtain ⟨j16, f17, b18⟩ := q14
    have f19 := Fr.trans f7 f17 (by decide)
    refine x_ifz (k := 1) (tg := 43) (np := 35) (by decide +kernel) (by decide) l13 (fun q20 => ?_) (fun q21 => ?_)
    · have q20 : v12 ≠ 2147483648 := q20
      refine x_iload (np := 44) (x := 1) (by decide +kernel) rfl (by decide) ?_
      refine x_aload (np := 45) (x := 0) (by decide +kernel) rfl (x_nc_le (by decide)) ?_
      refine x_getC (np := 48) (x := 784) (f := 16) (q := (h15 69 16)) (by decide +kernel) (by decide) (by decide +kernel) rfl (fun l22 => ?_)
      refine x_icmp (k := 3) (tg := 61) (np := 51) (by decide +kernel) (by decide) (by decide) l22 (fun q23 => ?_) (fun q24 => ?_)
      · have q23 : (h15 69 16) ≤ 2147483651 := q23
        refine x_retV (np := 62) (x := 0) (by decide +kernel) (by decide +kernel) ⟨rfl, ?_⟩
        exact ⟨j16, f19⟩
      have q24 : ¬ ((h15 69 16) ≤ 2147483651) := q24
      refine x_iload (np := 52) (x := 1) (by decide +kernel) rfl (by decide) ?_
      refine x_const (np := 53) (x := 9223372060477095941) (a := 2147483653) (by decide +kernel) (by decide) (by decide) ?_
      refine x_icmp (k := 3) (tg := 61) (np := 56) (by decide +kernel) (by decide) (by decide) (by decide) (fun q25 => ?_) (fun q26 => ?_)
      · have q25 : 2147483653 ≤ 2147483651 := q25
        exfalso; omega
      have q26 : ¬ (2147483653 ≤ 2147483651) := q26
      refine x_aload (np := 57) (x := 0) (by decide +kernel) rfl (x_nc_le (by decide)) ?_
      refine x_iload (np := 58) (x := 1) (by decide +kernel) rfl (by decide) ?_
      refine x_cV (t := 8) (mj := 275) (n := 2) (rc := 13) (ml := 8) (nr := 0) (np := 61) (as := [x_r 69, iv_c 2147483651]) (rest := []) (lo1 := [x_r 69, iv_c 2147483651, 147573952589676412928, 147573952589676412928, 147573952589676412928, 147573952589676412928, 147573952589676412928, 147573952589676412928]) (by decide +kernel) (by decide) (by decide +kernel) (x_rb_of (by decide +kernel)) rfl rfl (x_wr (by decide) (x_wi (by decide) x_wn)) x_wn (by decide) rfl (c275_69_c3 j16  ) (fun h30 q29 => ?_)
      obtain ⟨j31, f32⟩ := q29
      have f35 := Fr.trans f19 f32 (by decide)
      refine x_retV (np := 62) (x := 0) (by decide +kernel) (by decide +kernel) ⟨rfl, ?_⟩
      exact ⟨j31, f35⟩
    have q21 : ¬ (v12 ≠ 2147483648) := q21
    refine x_aload (np := 36) (x := 0) (by decide +kernel) rfl (x_nc_le (by decide)) ?_
    refine x_iload (np := 37) (x := 1) (by decide +kernel) rfl (by decide) ?_
    refine x_cV (t := 8) (mj := 279) (n := 2) (rc := 13) (ml := 4) (nr := 0) (np := 40) (as := [x_r 69, iv_c 2147483651]) (rest := []) (lo1 := [x_r 69, iv_c 2147483651, 147573952589676412928, 147573952589676412928]) (by decide +kernel) (by decide) (by decide +kernel) (x_rb_of (by decide +kernel)) rfl rfl (x_wr (by decide) (x_wi (by decide) x_wn)) x_wn (by decide) rfl (c279_69_c3 j16  ) (fun h39 q38 => ?_)
    obtain ⟨j40, f41⟩ := q38
    have f44 := Fr.trans f19 f41 (by decide)
    refine x_goto (np := 43) (x := 61) (by decide +kernel) ?_
    refine x_retV (np := 62) (x := 0) (by decide +kernel) (by decide +kernel) ⟨rfl, ?_⟩
    exact ⟨j40, f44⟩
  have q11 : ¬ (v2 ≤ 2147503648) := q11
  refine x_aload (np := 21) (x := 0) (by decide +kernel) rfl (x_nc_le (by decide)) ?_
  refine x_const (np := 22) (x := 9223372043297226753) (a := 2147483649) (by decide +kernel) (by decide) (by decide) ?_
  refine x_putI (np := 25) (x := 4873) (f := 9) (by decide +kernel) (by decide +kernel) (by decide) (Or.inr ⟨by decide, by first | decide | omega, by first | decide | omega⟩) ?_
  have j46 := jU (e := 9) (v := 2147483649) 0 j5 rg_69_9_0_1 (by first | decide | omega) (by first | decide | omega) (by first | decide | omega)
  have f48 := jF (e := 9) (v := 2147483649) 0 f7 rg_69_9_0_1 (by first | decide | omega) (by first | decide | omega) (by decide)
  generalize e47 : x_up h4 69 9 2147483649 = h45 at j46 f48 ⊢
  refine x_goto (np := 28) (x := 61) (by decide +kernel) ?_
  refine x_retV (np := 62) (x := 0) (by decide +kernel) (by decide +kernel) ⟨rfl, ?_⟩
  exact ⟨j46, f48⟩
set_option maxHeartbeats 0 in
/-- LentNames$Search.tryLoan(IIIII)V -/
theorem c277_69_c2 {sc : Nat × Nat} {d a2 a3 a4 a5 : Nat} {h : xh} (hJ : J h) (ba2 : 2147483648 ≤ a2 ∧ a2 ≤ 2147483653) (ba3 : 2147483648 ≤ a3 ∧ a3 ≤ 2147483653) (ba4 : 2147483648 ≤ a4 ∧ a4 ≤ 2147483659) (ba5 : 2147483648 ≤ a5 ∧ a5 ≤ 2147483659) : X sc 277 (d + 12) (xV fun h' => J h' ∧ Fr 65537 h h') 0 0 0 [x_r 69, iv_c 2147483650, iv_c a2, iv_c a3, iv_c a4, iv_c a5, 147573952589676412928] [] h := by
  have la2 : a2 < 4294967296 := by first | decide | omega
  have la3 : a3 < 4294967296 := by first | decide | omega
  have la4 : a4 < 4294967296 := by first | decide | omega
  have la5 : a5 < 4294967296 := by first | decide | omega
  have hF := Fr.refl 65537 h
  refine x_const (np := 1) (x := 9223372043297226753) (a := 2147483649) (by decide +kernel) (by decide) (by decide) ?_
  refine x_iload (np := 3) (x := 5) (by decide +kernel) rfl la5 ?_
  refine x_const (np := 4) (x := 9223372043297226753) (a := 2147483649) (by decide +kernel) (by decide) (by decide) ?_
  refine x_iadd (np := 5) (x := 0) (v := (1 + a5)) (by decide +kernel) la5 (by decide) (by first | decide | omega) (by first | decide | omega) ?_
  refine x_any (np := 6) (k9 := 3) (by decide +kernel) (by decide) (by decide) (by first | decide | omega) (fun v1 l2 => ?_)
  refine x_const (np := 7) (x := 9223372043297226753) (a := 2147483649) (by decide +kernel) (by decide) (by decide) ?_
  refine x_iload (np := 9) (x := 4) (by decide +kernel) rfl la4 ?_
  refine x_any (np := 10) (k9 := 3) (by decide +kernel) (by decide) (by decide) la4 (fun v3 l4 => ?_)
  refine x_subA (by rw [tb_b277]; decide +kernel) l2 l4 (fun v5 l6 => ?_)
  refine x_istore (np := 13) (x := 6) (lo' := [x_r 69, iv_c 2147483650, iv_c a2, iv_c a3, iv_c a4, iv_c a5, iv_c v5]) (by decide +kernel) l6 (Nat.le_of_ble_eq_true rfl) rfl ?_
  refine x_aload (np := 14) (x := 0) (by decide +kernel) rfl (x_nc_le (by decide)) ?_
  have q7 : h 69 3 = 73 := by have z := jB (e := 3) 0 hJ rg_69_3_0_1 (by decide) (by decide); omega
  refine x_getR (np := 17) (x := 771) (f := 3) (q := 73) (by decide +kernel) (by decide) (by decide +kernel) q7 ?_
  refine x_iload (np := 18) (x := 1) (by decide +kernel) rfl (by decide) ?_
  refine x_const (np := 21) (x := 9223414988675229456) (a := 2147493648) (by decide +kernel) (by decide) (by decide) ?_
  refine x_iload (np := 22) (x := 2) (by decide +kernel) rfl la2 ?_
  obtain ⟨u8, q9⟩ : ∃ z, a2 = 2147483648 + z := ⟨a2 - 2147483648, by first | decide | omega⟩
  refine x_imul (np := 23) (x := 0) (i := 10000) (j := u8) (v := (2147483648 + 10000 * u8)) (by decide +kernel) (by first | decide | omega) (by first | decide | omega) (by first | decide | omega) (by first | decide | omega) (by decide) la2 ?_
  refine x_const (np := 26) (x := 9223376333969556456) (a := 2147484648) (by decide +kernel) (by decide) (by decide) ?_
  refine x_iload (np := 27) (x := 3) (by decide +kernel) rfl la3 ?_
  obtain ⟨u11, q12⟩ : ∃ z, a3 = 2147483648 + z := ⟨a3 - 2147483648, by first | decide | omega⟩
  refine x_imul (np := 28) (x := 0) (i := 1000) (j := u11) (v := (2147483648 + 1000 * u11)) (by decide +kernel) (by first | decide | omega) (by first | decide | omega) (by first | decide | omega) (by first | decide | omega) (by decide) la3 ?_
  refine x_iadd (np := 29) (x := 0) (v := (2147483648 + 10000 * u8 + 1000 * u11)) (by decide +kernel) (by first | decide | omega) (by first | decide | omega) (by first | decide | omega) (by first | decide | omega) ?_
  refine x_const (np := 31) (x := 9223372124901605396) (a := 2147483668) (by decide +kernel) (by decide) (by decide) ?_
  refine x_iload (np := 33) (x := 4) (by decide +kernel) rfl la4 ?_
  obtain ⟨u14, q15⟩ : ∃ z, a4 = 2147483648 + z := ⟨a4 - 2147483648, by first | decide | omega⟩
  refine x_imul (np := 34) (x := 0) (i := 20) (j := u14) (v := (2147483648 + 20 * u14)) (by decide +kernel) (by first | decide | omega) (by first | decide | omega) (by first | decide | omega) (by first | decide | omega) (by decide) la4 ?_
  refine x_iadd (np := 35) (x := 0) (v := (2147483648 + 10000 * u8 + 1000 * u11 + 20 * u14)) (by decide +kernel) (by first | decide | omega) (by first | decide | omega) (by first | decide | omega) (by first | decide | omega) ?_
  refine x_iload (np := 37) (x := 5) (by decide +kernel) rfl la5 ?_
  refine x_iadd (np := 38) (x := 0) (v := (10000 * u8 + 1000 * u11 + 20 * u14 + a5)) (by decide +kernel) (by first | decide | omega) la5 (by first | decide | omega) (by first | decide | omega) ?_
  refine x_ast (np := 39) (x := 0) (kd := 1) (n := 5) (i := 2) (by decide +kernel) (Or.inl rfl) (by decide +kernel) (by first | decide | omega) (by first | decide | omega) (by decide) (by first | decide | omega) (fun z => absurd z (by decide)) ?_
  have j18 := jU (e := 2) (v := (10000 * u8 + 1000 * u11 + 20 * u14 + a5)) 2 hJ rg_73_0_1_5 (by first | decide | omega) (by first | decide | omega) (by first | decide | omega)
  have f20 := jF (e := 2) (v := (10000 * u8 + 1000 * u11 + 20 * u14 + a5)) 2 hF rg_73_0_1_5 (by first | decide | omega) (by first | decide | omega) (by decide)
  generalize e19 : x_up h 73 2 (10000 * u8 + 1000 * u11 + 20 * u14 + a5) = h17 at j18 f20 ⊢
  refine x_aload (np := 40) (x := 0) (by decide +kernel) rfl (x_nc_le (by decide)) ?_
  refine x_iload (np := 41) (x := 2) (by decide +kernel) rfl la2 ?_
  refine x_iload (np := 42) (x := 3) (by decide +kernel) rfl la3 ?_
  refine x_iload (np := 44) (x := 6) (by decide +kernel) rfl l6 ?_
  refine x_cV (t := 8) (mj := 280) (n := 4) (rc := 13) (ml := 5) (nr := 0) (np := 47) (as := [x_r 69, iv_c a2, iv_c a3, iv_c v5]) (rest := []) (lo1 := [x_r 69, iv_c a2, iv_c a3, iv_c v5, 147573952589676412928]) (by decide +kernel) (by decide) (by decide +kernel) (x_rb_of (by decide +kernel)) rfl rfl (x_wr (by decide) (x_wi la2 (x_wi la3 (x_wi l6 x_wn)))) x_wn (by decide) rfl (c280_69 j18  (by first | decide | omega) (by first | decide | omega) (by first | decide | omega)) (fun h24 q23 => ?_)
  obtain ⟨j25, f26⟩ := q23
  have f29 := Fr.trans f20 f26 (by decide)
  refine x_aload (np := 48) (x := 0) (by decide +kernel) rfl (x_nc_le (by decide)) ?_
  refine x_iload (np := 49) (x := 1) (by decide +kernel) rfl (by decide) ?_
  refine x_const (np := 50) (x := 9223372043297226753) (a := 2147483649) (by decide +kernel) (by decide) (by decide) ?_
  refine x_iadd (np := 51) (x := 0) (v := 2147483651) (by decide +kernel) (by decide) (by decide) (by first | decide | omega) (by first | decide | omega) ?_
  refine x_cV (t := 8) (mj := 274) (n := 2) (rc := 13) (ml := 2) (nr := 0) (np := 54) (as := [x_r 69, iv_c 2147483651]) (rest := []) (lo1 := [x_r 69, iv_c 2147483651]) (by decide +kernel) (by decide) (by decide +kernel) (x_rb_of (by decide +kernel)) rfl rfl (x_wr (by decide) (x_wi (by decide) x_wn)) x_wn (by decide) rfl (c274_69_c3 j25  ) (fun h33 q32 => ?_)
  obtain ⟨j34, f35⟩ := q32
  have f38 := Fr.trans f29 f35 (by decide)
  refine x_aload (np := 55) (x := 0) (by decide +kernel) rfl (x_nc_le (by decide)) ?_
  refine x_iload (np := 56) (x := 2) (by decide +kernel) rfl la2 ?_
  refine x_iload (np := 58) (x := 6) (by decide +kernel) rfl l6 ?_
  refine x_cV (t := 8) (mj := 281) (n := 3) (rc := 13) (ml := 5) (nr := 0) (np := 61) (as := [x_r 69, iv_c a2, iv_c v5]) (rest := []) (lo1 := [x_r 69, iv_c a2, iv_c v5, 147573952589676412928, 147573952589676412928]) (by decide +kernel) (by decide) (by decide +kernel) (x_rb_of (by decide +kernel)) rfl rfl (x_wr (by decide) (x_wi la2 (x_wi l6 x_wn))) x_wn (by decide) rfl (c281_69 j34  (by first | decide | omega) (by first | decide | omega)) (fun h42 q41 => ?_)
  obtain ⟨j43, f44⟩ := q41
  have f47 := Fr.trans f38 f44 (by decide)
  refine x_retV (np := 62) (x := 0) (by decide +kernel) (by decide +kernel) ⟨rfl, ?_⟩
  exact ⟨j43, f47⟩
