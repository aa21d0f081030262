/-! ===== methods ===== -/
set_option maxHeartbeats 0 in
/-- LentNames$CustomReader.reads(LLentNames$Custom;)Z -/
theorem c44_62_T11n {sc : Nat × Nat} {d ra1 : Nat} {h : xh} {tB : Nat → Nat} {tN : Nat} (hJ : J h) (ta1 : tw ra1) (hT : Tp tB tN h) : X sc 44 (d + 30) (xI fun r h' => J h' ∧ Fr 16545 h h' ∧ (2147483648 ≤ r ∧ r ≤ 2147483649) ∧ Cu tB tN (rs r (ln9 h')) ∧ h' 62 1 = ra1 + 11) 0 0 0 [x_r 62, x_r (ra1 + 11), 147573952589676412928] [] h := by
  have hF := Fr.refl 16545 h
  refine x_aload (np := 1) (x := 0) (by decide +kernel) rfl (x_nc_le (by decide)) ?_
  refine x_aload (np := 2) (x := 1) (by decide +kernel) rfl (x_nc_le (tn_11 ta1)) ?_
  refine x_putR (np := 5) (x := 8385) (f := 1) (by decide +kernel) (by decide +kernel) (tn_11 ta1) (by decide) ?_
  have j2 := J_upC hJ ta1
  have f4 := Fr.up (k := 62) (i := 1) (v := (ra1 + 11)) hF (by decide +kernel)
  generalize e3 : x_up h 62 1 (ra1 + 11) = h1 at j2 f4 ⊢
  refine x_aload (np := 6) (x := 0) (by decide +kernel) rfl (x_nc_le (by decide)) ?_
  have q5 : h1 62 1 = (ra1 + 11) := by rw [← e3]; exact x_up_at
  refine x_getR (np := 9) (x := 193) (f := 1) (q := (ra1 + 11)) (by decide +kernel) (by decide) (by decide +kernel) q5 ?_
  refine x_nV (t := 6) (mj := 35) (n := 1) (rc := 3) (ml := 1) (nr := 0) (np := 12) (as := [x_r (ra1 + 11)]) (rest := []) (lo1 := [x_r (ra1 + 11)]) (by decide +kernel) (by decide) (by decide +kernel) (x_rb_of (tr_11_3 ta1)) rfl rfl (x_wr (tn_11 ta1) x_wn) x_wn (by decide) rfl ?_
  refine x_aload (np := 1) (x := 0) (by decide +kernel) rfl (x_nc_le (tn_11 ta1)) ?_
  refine x_const (np := 2) (x := 9223372039002259456) (a := 2147483648) (by decide +kernel) (by decide) (by decide) ?_
  refine x_putI (np := 5) (x := 130) (f := 2) (by decide +kernel) (tg_11_130_2_0 ta1) (by decide) (Or.inl (by decide)) ?_
  have j7 := jU (e := 2) (v := 2147483648) 0 j2 (rg_T11_2_0_1 ta1) (by omega) (by omega) (by omega)
  have f9 := jF (e := 2) (v := 2147483648) 0 f4 (rg_T11_2_0_1 ta1) (by omega) (by omega) (by decide)
  generalize e8 : x_up h1 (ra1 + 11) 2 2147483648 = h6 at j7 f9 ⊢
  refine x_aload (np := 6) (x := 0) (by decide +kernel) rfl (x_nc_le (tn_11 ta1)) ?_
  refine x_const (np := 7) (x := 9223372039002259456) (a := 2147483648) (by decide +kernel) (by decide) (by decide) ?_
  refine x_putI (np := 10) (x := 131) (f := 3) (by decide +kernel) (tg_11_131_3_0 ta1) (by decide) (Or.inl (by decide)) ?_
  have j11 := jU (e := 3) (v := 2147483648) 0 j7 (rg_T11_3_0_1 ta1) (by omega) (by omega) (by omega)
  have f13 := jF (e := 3) (v := 2147483648) 0 f9 (rg_T11_3_0_1 ta1) (by omega) (by omega) (by decide)
  generalize e12 : x_up h6 (ra1 + 11) 3 2147483648 = h10 at j11 f13 ⊢
  refine x_retV (np := 11) (x := 0) (by decide +kernel) (by decide +kernel) ⟨rfl, ?_⟩
  refine x_aload (np := 13) (x := 0) (by decide +kernel) rfl (x_nc_le (by decide)) ?_
  have q14 : h10 62 0 = 1 := by have z := jB (e := 0) 0 j11 rg_62_0_0_1 (by decide) (by decide); omega
  refine x_getR (np := 16) (x := 192) (f := 0) (q := 1) (by decide +kernel) (by decide) (by decide +kernel) q14 ?_
  refine x_nV (t := 6) (mj := 73) (n := 1) (rc := 8) (ml := 1) (nr := 0) (np := 19) (as := [x_r 1]) (rest := []) (lo1 := [x_r 1]) (by decide +kernel) (by decide) (by decide +kernel) (x_rb_of (by decide +kernel)) rfl rfl (x_wr (by decide) x_wn) x_wn (by decide) rfl ?_
  refine x_aload (np := 1) (x := 0) (by decide +kernel) rfl (x_nc_le (by decide)) ?_
  refine x_const (np := 2) (x := 9223372039002259456) (a := 2147483648) (by decide +kernel) (by decide) (by decide) ?_
  have m20 : Tp tB tN h1 := by rw [← e3]; exact Tp.oth hT (by decide) (by decide)
  have m19 : Tp tB tN h6 := by rw [← e8]; exact Tp.oth m20 (tne_11_2 ta1) (fun z => absurd z.1 (tne_11_1 ta1))
  have m18 : Tp tB tN h10 := by rw [← e12]; exact Tp.oth m19 (tne_11_2 ta1) (fun z => absurd z.1 (tne_11_1 ta1))
  refine x_cV (t := 6) (mj := 80) (n := 2) (rc := 8) (ml := 2) (nr := 0) (np := 5) (as := [x_r 1, iv_c 2147483648]) (rest := []) (lo1 := [x_r 1, iv_c 2147483648]) (by decide +kernel) (by decide) (by decide +kernel) (x_rb_of (by decide +kernel)) rfl rfl (x_wr (by decide) (x_wi (by decide) x_wn)) x_wn (by decide) rfl (c80_1nn j11  (by omega) m18) (fun h21 q17 => ?_)
  obtain ⟨j22, f23, c26, c27⟩ := q17
  have f28 := Fr.trans f13 f23 (by decide)
  have b29 := jB (e := 2) 0 j22 rg_1_2_0_1 (by omega) (by omega)
  refine x_retV (np := 6) (x := 0) (by decide +kernel) (by decide +kernel) ⟨rfl, ?_⟩
  refine x_aload (np := 20) (x := 0) (by decide +kernel) rfl (x_nc_le (by decide)) ?_
  have q30 : h21 62 0 = 1 := by have z := jB (e := 0) 0 j22 rg_62_0_0_1 (by decide) (by decide); omega
  refine x_getR (np := 23) (x := 192) (f := 0) (q := 1) (by decide +kernel) (by decide) (by decide +kernel) q30 ?_
  refine x_nI (t := 6) (mj := 74) (n := 1) (rc := 8) (ml := 1) (nr := 0) (np := 26) (as := [x_r 1]) (rest := []) (lo1 := [x_r 1]) (by decide +kernel) (by decide) (by decide +kernel) (x_rb_of (by decide +kernel)) rfl rfl (x_wr (by decide) x_wn) x_wn (by decide) rfl ?_
  refine x_aload (np := 1) (x := 0) (by decide +kernel) rfl (x_nc_le (by decide)) ?_
  refine x_getC (np := 4) (x := 450) (f := 2) (q := (h21 1 2)) (by decide +kernel) (by decide) (by decide +kernel) rfl (fun l31 => ?_)
  refine x_aload (np := 5) (x := 0) (by decide +kernel) rfl (x_nc_le (by decide)) ?_
  have q32 : h21 1 1 = h10 1 1 := jK 0 f23 rg_1_1_0_1 (by omega) (by omega) (by decide)
  have q33 : h10 1 1 = h6 1 1 := by rw [← e12]; exact x_up_k (Ne.symm (tne_11_1 ta1))
  have q34 : h6 1 1 = h1 1 1 := by rw [← e8]; exact x_up_k (Ne.symm (tne_11_1 ta1))
  have q35 : h1 1 1 = h 1 1 := by rw [← e3]; exact x_up_k (by decide)
  have b36 := jB (e := 1) 0 hJ rg_1_1_0_1 (by omega) (by omega)
  refine x_getC (np := 8) (x := 449) (f := 1) (q := (h 1 1)) (by decide +kernel) (by decide) (by decide +kernel) (((q32.trans q33).trans q34).trans q35) (fun l37 => ?_)
  refine x_icmp (k := 2) (tg := 15) (np := 11) (by decide +kernel) (by decide) l31 l37 (fun q38 => ?_) (fun q39 => ?_)
  · have q38 : (h21 1 2) < (h 1 1) := q38
    refine x_const (np := 16) (x := 9223372039002259456) (a := 2147483648) (by decide +kernel) (by decide) (by decide) ?_
    refine x_retI (np := 17) (x := 0) (by decide +kernel) (by decide) (Or.inr ⟨by decide +kernel, by omega, by omega⟩) ⟨_, rfl, (by decide), ?_⟩
    refine x_ifz (k := 0) (tg := 31) (np := 29) (by decide +kernel) (by decide) (by decide) (fun q40 => ?_) (fun q41 => ?_)
    · have q40 : 2147483648 = 2147483648 := q40
      refine x_const (np := 32) (x := 9223372043297226753) (a := 2147483649) (by decide +kernel) (by decide) (by decide) ?_
      refine x_istore (np := 33) (x := 2) (lo' := [x_r 62, x_r (ra1 + 11), iv_c 2147483649]) (by decide +kernel) (by decide) (Nat.le_of_ble_eq_true rfl) rfl ?_
      have p915 : ∀ (n : Nat) (v910 : Nat) (h912 : xh), 4294967296 - v910 < n → (2147483649 ≤ v910 ∧ v910 ≤ 2147483659) → cl9 h912 ≤ h912 1 2 → J h912 → Fr 161 h21 h912 → Lq tB tN (v910 - 1) (h912 1 2) → X sc 44 (d + 30) (xI fun r h' => J h' ∧ Fr 16545 h h' ∧ (2147483648 ≤ r ∧ r ≤ 2147483649) ∧ Cu tB tN (rs r (ln9 h')) ∧ h' 62 1 = ra1 + 11) 0 0 33 [x_r 62, x_r (ra1 + 11), iv_c v910] [] h912 := by
        intro n
        induction n with
        | zero => intro v910 h912 q918; exact absurd q918 (Nat.not_lt_zero _)
        | succ n i919 =>
          intro v910 h912 q918 b911 b916 j914 f913 m917
          have f920 := Fr.trans f28 f913 (by decide)
          have b921 := jB (e := 2) 0 j914 rg_1_2_0_1 (by omega) (by omega)
          have q922 : h912 62 1 = h21 62 1 := f913 62 1 (by decide +kernel)
          have q923 : h21 62 1 = h10 62 1 := f23 62 1 (by decide +kernel)
          have q924 : h10 62 1 = h6 62 1 := by rw [← e12]; exact x_up_k (Ne.symm (tne_11_62 ta1))
          have q925 : h6 62 1 = h1 62 1 := by rw [← e8]; exact x_up_k (Ne.symm (tne_11_62 ta1))
          have q926 : h1 62 1 = (ra1 + 11) := by rw [← e3]; exact x_up_at
          have b927 := jB (e := 2) 0 j914 (rg_T11_2_0_1 ta1) (by omega) (by omega)
          have e928 : cl9 h912 = (h912 (ra1 + 11) 2) := (congrArg (fun z => h912 z 2) ((((q922.trans q923).trans q924).trans q925).trans q926)).trans rfl
          refine x_iload (np := 34) (x := 2) (by decide +kernel) rfl (by omega) ?_
          refine x_const (np := 36) (x := 9223372081951932426) (a := 2147483658) (by decide +kernel) (by decide) (by decide) ?_
          refine x_icmp (k := 4) (tg := 88) (np := 39) (by decide +kernel) (by decide) (by omega) (by decide) (fun q929 => ?_) (fun q930 => ?_)
          · have q929 : 2147483658 < v910 := q929
            refine x_const (np := 89) (x := 9223372039002259456) (a := 2147483648) (by decide +kernel) (by decide) (by decide) ?_
            have q931 : h912 62 1 = h21 62 1 := f913 62 1 (by decide +kernel)
            have q932 : h21 62 1 = h10 62 1 := f23 62 1 (by decide +kernel)
            have q933 : h10 62 1 = h6 62 1 := by rw [← e12]; exact x_up_k (Ne.symm (tne_11_62 ta1))
            have q934 : h6 62 1 = h1 62 1 := by rw [← e8]; exact x_up_k (Ne.symm (tne_11_62 ta1))
            have q935 : h1 62 1 = (ra1 + 11) := by rw [← e3]; exact x_up_at
            refine x_retI (np := 90) (x := 0) (by decide +kernel) (by decide) (Or.inr ⟨by decide +kernel, by omega, by omega⟩) ⟨_, rfl, (by decide), ?_⟩
            exact ⟨j914, f920, (by omega), (Cu.n0 (by omega) (Lq.full m917 (by omega))), ((((q931.trans q932).trans q933).trans q934).trans q935)⟩
          have q930 : ¬ (2147483658 < v910) := q930
          refine x_aload (np := 40) (x := 0) (by decide +kernel) rfl (x_nc_le (by decide)) ?_
          have q936 : h912 62 1 = h21 62 1 := f913 62 1 (by decide +kernel)
          have q937 : h21 62 1 = h10 62 1 := f23 62 1 (by decide +kernel)
          have q938 : h10 62 1 = h6 62 1 := by rw [← e12]; exact x_up_k (Ne.symm (tne_11_62 ta1))
          have q939 : h6 62 1 = h1 62 1 := by rw [← e8]; exact x_up_k (Ne.symm (tne_11_62 ta1))
          have q940 : h1 62 1 = (ra1 + 11) := by rw [← e3]; exact x_up_at
          have m945 := Tp.fr m18 f23 (by decide) (by decide)
          have m944 := Tp.fr m945 f913 (by decide) (by decide)
          refine x_cI (t := 6) (mj := 45) (n := 1) (rc := 4) (ml := 2) (nr := 0) (np := 43) (as := [x_r 62]) (rest := []) (lo1 := [x_r 62, 147573952589676412928]) (by decide +kernel) (by decide) (by decide +kernel) (x_rb_of (by decide +kernel)) rfl rfl (x_wr (by decide) x_wn) x_wn (by decide) rfl (c45_62n j914  (by omega) m944) (fun v941 h946 l942 q943 => ?_)
          obtain ⟨j947, f948, b949, c950, c951, c952⟩ := q943
          have f953 := Fr.trans f920 f948 (by decide)
          have f954 := Fr.trans f913 f948 (by decide)
          have b955 := jB (e := 2) 0 j947 rg_1_2_0_1 (by omega) (by omega)
          have q956 : h946 62 1 = h912 62 1 := f948 62 1 (by decide +kernel)
          have q957 : h912 62 1 = h21 62 1 := f913 62 1 (by decide +kernel)
          have q958 : h21 62 1 = h10 62 1 := f23 62 1 (by decide +kernel)
          have q959 : h10 62 1 = h6 62 1 := by rw [← e12]; exact x_up_k (Ne.symm (tne_11_62 ta1))
          have q960 : h6 62 1 = h1 62 1 := by rw [← e8]; exact x_up_k (Ne.symm (tne_11_62 ta1))
          have q961 : h1 62 1 = (ra1 + 11) := by rw [← e3]; exact x_up_at
          have b962 := jB (e := 2) 0 j947 (rg_T11_2_0_1 ta1) (by omega) (by omega)
          have e963 : cl9 h946 = (h946 (ra1 + 11) 2) := (congrArg (fun z => h946 z 2) (((((q956.trans q957).trans q958).trans q959).trans q960).trans q961)).trans rfl
          refine x_ifz (k := 1) (tg := 48) (np := 46) (by decide +kernel) (by decide) l942 (fun q964 => ?_) (fun q965 => ?_)
          · have q964 : v941 ≠ 2147483648 := q964
            have b966 := c950 (by omega)
            have b967 := c951 (by omega)
            refine x_aload (np := 49) (x := 0) (by decide +kernel) rfl (x_nc_le (by decide)) ?_
            have q968 : h946 62 1 = h912 62 1 := f948 62 1 (by decide +kernel)
            have q969 : h912 62 1 = h21 62 1 := f913 62 1 (by decide +kernel)
            have q970 : h21 62 1 = h10 62 1 := f23 62 1 (by decide +kernel)
            have q971 : h10 62 1 = h6 62 1 := by rw [← e12]; exact x_up_k (Ne.symm (tne_11_62 ta1))
            have q972 : h6 62 1 = h1 62 1 := by rw [← e8]; exact x_up_k (Ne.symm (tne_11_62 ta1))
            have q973 : h1 62 1 = (ra1 + 11) := by rw [← e3]; exact x_up_at
            refine x_getR (np := 52) (x := 193) (f := 1) (q := (ra1 + 11)) (by decide +kernel) (by decide) (by decide +kernel) (((((q968.trans q969).trans q970).trans q971).trans q972).trans q973) ?_
            refine x_iload (np := 53) (x := 2) (by decide +kernel) rfl (by omega) ?_
            refine x_putI (np := 56) (x := 131) (f := 3) (by decide +kernel) (tg_11_131_3_0 ta1) (by omega) (Or.inl (by decide)) ?_
            have j975 := jU (e := 3) (v := v910) 0 j947 (rg_T11_3_0_1 ta1) (by omega) (by omega) (by omega)
            have f977 := jF (e := 3) (v := v910) 0 f953 (rg_T11_3_0_1 ta1) (by omega) (by omega) (by decide)
            have f978 := jF (e := 3) (v := v910) 0 f954 (rg_T11_3_0_1 ta1) (by omega) (by omega) (by decide)
            generalize e976 : x_up h946 (ra1 + 11) 3 v910 = h974 at j975 f977 f978 ⊢
            refine x_aload (np := 57) (x := 0) (by decide +kernel) rfl (x_nc_le (by decide)) ?_
            have q979 : h974 62 0 = 1 := by have z := jB (e := 0) 0 j975 rg_62_0_0_1 (by decide) (by decide); omega
            refine x_getR (np := 60) (x := 192) (f := 0) (q := 1) (by decide +kernel) (by decide) (by decide +kernel) q979 ?_
            refine x_nI (t := 6) (mj := 74) (n := 1) (rc := 8) (ml := 1) (nr := 0) (np := 63) (as := [x_r 1]) (rest := []) (lo1 := [x_r 1]) (by decide +kernel) (by decide) (by decide +kernel) (x_rb_of (by decide +kernel)) rfl rfl (x_wr (by decide) x_wn) x_wn (by decide) rfl ?_
            refine x_aload (np := 1) (x := 0) (by decide +kernel) rfl (x_nc_le (by decide)) ?_
            have q980 : h974 1 2 = h946 1 2 := by rw [← e976]; exact x_up_k (Ne.symm (tne_11_1 ta1))
            refine x_getC (np := 4) (x := 450) (f := 2) (q := (h946 1 2)) (by decide +kernel) (by decide) (by decide +kernel) q980 (fun l981 => ?_)
            refine x_aload (np := 5) (x := 0) (by decide +kernel) rfl (x_nc_le (by decide)) ?_
            have q982 : h974 1 1 = h946 1 1 := by rw [← e976]; exact x_up_k (Ne.symm (tne_11_1 ta1))
            have q983 : h946 1 1 = h912 1 1 := jK 0 f948 rg_1_1_0_1 (by omega) (by omega) (by decide)
            have q984 : h912 1 1 = h21 1 1 := jK 0 f913 rg_1_1_0_1 (by omega) (by omega) (by decide)
            have q985 : h21 1 1 = h10 1 1 := jK 0 f23 rg_1_1_0_1 (by omega) (by omega) (by decide)
            have q986 : h10 1 1 = h6 1 1 := by rw [← e12]; exact x_up_k (Ne.symm (tne_11_1 ta1))
            have q987 : h6 1 1 = h1 1 1 := by rw [← e8]; exact x_up_k (Ne.symm (tne_11_1 ta1))
            have q988 : h1 1 1 = h 1 1 := by rw [← e3]; exact x_up_k (by decide)
            refine x_getC (np := 8) (x := 449) (f := 1) (q := (h 1 1)) (by decide +kernel) (by decide) (by decide +kernel) ((((((q982.trans q983).trans q984).trans q985).trans q986).trans q987).trans q988) (fun l989 => ?_)
            refine x_icmp (k := 2) (tg := 15) (np := 11) (by decide +kernel) (by decide) l981 l37 (fun q990 => ?_) (fun q991 => ?_)
            · have q990 : (h946 1 2) < (h 1 1) := q990
              refine x_const (np := 16) (x := 9223372039002259456) (a := 2147483648) (by decide +kernel) (by decide) (by decide) ?_
              refine x_retI (np := 17) (x := 0) (by decide +kernel) (by decide) (Or.inr ⟨by decide +kernel, by omega, by omega⟩) ⟨_, rfl, (by decide), ?_⟩
              refine x_ifz (k := 0) (tg := 68) (np := 66) (by decide +kernel) (by decide) (by decide) (fun q992 => ?_) (fun q993 => ?_)
              · have q992 : 2147483648 = 2147483648 := q992
                refine x_aload (np := 69) (x := 0) (by decide +kernel) rfl (x_nc_le (by decide)) ?_
                have q994 : h974 62 0 = 1 := by have z := jB (e := 0) 0 j975 rg_62_0_0_1 (by decide) (by decide); omega
                refine x_getR (np := 72) (x := 192) (f := 0) (q := 1) (by decide +kernel) (by decide) (by decide +kernel) q994 ?_
                refine x_const (np := 74) (x := 9223372292405329979) (a := 2147483707) (by decide +kernel) (by decide) (by decide) ?_
                have m999 := Tp.fr m944 f948 (by decide) (by decide)
                have m998 : Tp tB tN h974 := by rw [← e976]; exact Tp.oth m999 (tne_11_2 ta1) (fun z => absurd z.1 (tne_11_1 ta1))
                refine x_cI (t := 6) (mj := 76) (n := 2) (rc := 8) (ml := 2) (nr := 0) (np := 77) (as := [x_r 1, iv_c 2147483707]) (rest := []) (lo1 := [x_r 1, iv_c 2147483707]) (by decide +kernel) (by decide) (by decide +kernel) (x_rb_of (by decide +kernel)) rfl rfl (x_wr (by decide) (x_wi (by decide) x_wn)) x_wn (by decide) rfl (c76_1 j975  (by omega) m998) (fun v995 h1000 l996 q997 => ?_)
                obtain ⟨j1001, f1002, b1003, c1004, c1005, c1006⟩ := q997
                have f1007 := Fr.trans f977 f1002 (by decide)
                have f1008 := Fr.trans f978 f1002 (by decide)
                have q1009 : h974 1 2 = h946 1 2 := by rw [← e976]; exact x_up_k (Ne.symm (tne_11_1 ta1))
                have b1010 := jB (e := 2) 0 j1001 rg_1_2_0_1 (by omega) (by omega)
                have q1011 : h974 1 2 = h946 1 2 := by rw [← e976]; exact x_up_k (Ne.symm (tne_11_1 ta1))
                refine x_ifz (k := 1) (tg := 82) (np := 80) (by decide +kernel) (by decide) l996 (fun q1012 => ?_) (fun q1013 => ?_)
                · have q1012 : v995 ≠ 2147483648 := q1012
                  have b1014 := c1004 (by omega)
                  refine x_iinc (np := 85) (i := 2) (j := 2147483649) (v := (1 + v910)) (lo' := [x_r 62, x_r (ra1 + 11), iv_c (1 + v910)]) (by decide +kernel) (by decide) (by decide) rfl (by omega) (by omega) (by omega) rfl ?_
                  refine x_goto (np := 88) (x := 33) (by decide +kernel) ?_
                  have q1015 : h1000 62 1 = h974 62 1 := f1002 62 1 (by decide +kernel)
                  have q1016 : h974 62 1 = h946 62 1 := by rw [← e976]; exact x_up_k (Ne.symm (tne_11_62 ta1))
                  have q1017 : h946 62 1 = h912 62 1 := f948 62 1 (by decide +kernel)
                  have q1018 : h912 62 1 = h21 62 1 := f913 62 1 (by decide +kernel)
                  have q1019 : h21 62 1 = h10 62 1 := f23 62 1 (by decide +kernel)
                  have q1020 : h10 62 1 = h6 62 1 := by rw [← e12]; exact x_up_k (Ne.symm (tne_11_62 ta1))
                  have q1021 : h6 62 1 = h1 62 1 := by rw [← e8]; exact x_up_k (Ne.symm (tne_11_62 ta1))
                  have q1022 : h1 62 1 = (ra1 + 11) := by rw [← e3]; exact x_up_at
                  have q1023 : h1000 (ra1 + 11) 2 = h974 (ra1 + 11) 2 := jK 0 f1002 (rg_T11_2_0_1 ta1) (by omega) (by omega) (by decide)
                  have q1024 : h974 (ra1 + 11) 2 = h946 (ra1 + 11) 2 := by rw [← e976]; exact x_up_i (by omega)
                  have e1025 : cl9 h1000 = (h946 (ra1 + 11) 2) := (congrArg (fun z => h1000 z 2) (((((((q1015.trans q1016).trans q1017).trans q1018).trans q1019).trans q1020).trans q1021).trans q1022)).trans (q1023.trans q1024)
                  obtain ⟨w1026, e1027⟩ := Tk.yes c1006 (by omega)
                  have q1028 : h974 1 2 = h946 1 2 := by rw [← e976]; exact x_up_k (Ne.symm (tne_11_1 ta1))
                  exact i919 (1 + v910) h1000 (by omega) (by omega) (by omega) j1001 f1008 (Lq.go m917 (by omega) c952 rfl (by omega) w1026 (show h974 1 2 = h946 1 2 by omega) e1027 (by omega) rfl)
                have q1013 : ¬ (v995 ≠ 2147483648) := q1013
                have b1029 := c1005 (by omega)
                refine x_const (np := 81) (x := 9223372039002259456) (a := 2147483648) (by decide +kernel) (by decide) (by decide) ?_
                have q1030 : h1000 62 1 = h974 62 1 := f1002 62 1 (by decide +kernel)
                have q1031 : h974 62 1 = h946 62 1 := by rw [← e976]; exact x_up_k (Ne.symm (tne_11_62 ta1))
                have q1032 : h946 62 1 = h912 62 1 := f948 62 1 (by decide +kernel)
                have q1033 : h912 62 1 = h21 62 1 := f913 62 1 (by decide +kernel)
                have q1034 : h21 62 1 = h10 62 1 := f23 62 1 (by decide +kernel)
                have q1035 : h10 62 1 = h6 62 1 := by rw [← e12]; exact x_up_k (Ne.symm (tne_11_62 ta1))
                have q1036 : h6 62 1 = h1 62 1 := by rw [← e8]; exact x_up_k (Ne.symm (tne_11_62 ta1))
                have q1037 : h1 62 1 = (ra1 + 11) := by rw [← e3]; exact x_up_at
                have q1038 : h946 1 1 = h912 1 1 := jK 0 f948 rg_1_1_0_1 (by omega) (by omega) (by decide)
                have q1039 : h912 1 1 = h21 1 1 := jK 0 f913 rg_1_1_0_1 (by omega) (by omega) (by decide)
                have q1040 : h21 1 1 = h10 1 1 := jK 0 f23 rg_1_1_0_1 (by omega) (by omega) (by decide)
                have q1041 : h10 1 1 = h6 1 1 := by rw [← e12]; exact x_up_k (Ne.symm (tne_11_1 ta1))
                have q1042 : h6 1 1 = h1 1 1 := by rw [← e8]; exact x_up_k (Ne.symm (tne_11_1 ta1))
                have q1043 : h1 1 1 = h 1 1 := by rw [← e3]; exact x_up_k (by decide)
                have z1044 := m999.1
                obtain ⟨w1045, e1046⟩ := Tk.no c1006 (by omega)
                have q1047 : h974 1 2 = h946 1 2 := by rw [← e976]; exact x_up_k (Ne.symm (tne_11_1 ta1))
                refine x_retI (np := 82) (x := 0) (by decide +kernel) (by decide) (Or.inr ⟨by decide +kernel, by omega, by omega⟩) ⟨_, rfl, (by decide), ?_⟩
                exact ⟨j1001, f1007, (by omega), (Cu.n0 (by omega) (Lq.bad m917 (by omega) c952 rfl (by omega) (by omega) w1045 (show h974 1 2 = h946 1 2 by omega))), (((((((q1030.trans q1031).trans q1032).trans q1033).trans q1034).trans q1035).trans q1036).trans q1037)⟩
              have q993 : ¬ (2147483648 = 2147483648) := q993
              exfalso; omega
            have q991 : ¬ ((h946 1 2) < (h 1 1)) := q991
            refine x_const (np := 12) (x := 9223372043297226753) (a := 2147483649) (by decide +kernel) (by decide) (by decide) ?_
            refine x_goto (np := 15) (x := 16) (by decide +kernel) ?_
            refine x_retI (np := 17) (x := 0) (by decide +kernel) (by decide) (Or.inr ⟨by decide +kernel, by omega, by omega⟩) ⟨_, rfl, (by decide), ?_⟩
            refine x_ifz (k := 0) (tg := 68) (np := 66) (by decide +kernel) (by decide) (by decide) (fun q1048 => ?_) (fun q1049 => ?_)
            · have q1048 : 2147483649 = 2147483648 := q1048
              exfalso; omega
            have q1049 : ¬ (2147483649 = 2147483648) := q1049
            refine x_const (np := 67) (x := 9223372043297226753) (a := 2147483649) (by decide +kernel) (by decide) (by decide) ?_
            have q1050 : h974 62 1 = h946 62 1 := by rw [← e976]; exact x_up_k (Ne.symm (tne_11_62 ta1))
            have q1051 : h946 62 1 = h912 62 1 := f948 62 1 (by decide +kernel)
            have q1052 : h912 62 1 = h21 62 1 := f913 62 1 (by decide +kernel)
            have q1053 : h21 62 1 = h10 62 1 := f23 62 1 (by decide +kernel)
            have q1054 : h10 62 1 = h6 62 1 := by rw [← e12]; exact x_up_k (Ne.symm (tne_11_62 ta1))
            have q1055 : h6 62 1 = h1 62 1 := by rw [← e8]; exact x_up_k (Ne.symm (tne_11_62 ta1))
            have q1056 : h1 62 1 = (ra1 + 11) := by rw [← e3]; exact x_up_at
            have q1057 : h946 1 1 = h912 1 1 := jK 0 f948 rg_1_1_0_1 (by omega) (by omega) (by decide)
            have q1058 : h912 1 1 = h21 1 1 := jK 0 f913 rg_1_1_0_1 (by omega) (by omega) (by decide)
            have q1059 : h21 1 1 = h10 1 1 := jK 0 f23 rg_1_1_0_1 (by omega) (by omega) (by decide)
            have q1060 : h10 1 1 = h6 1 1 := by rw [← e12]; exact x_up_k (Ne.symm (tne_11_1 ta1))
            have q1061 : h6 1 1 = h1 1 1 := by rw [← e8]; exact x_up_k (Ne.symm (tne_11_1 ta1))
            have q1062 : h1 1 1 = h 1 1 := by rw [← e3]; exact x_up_k (by decide)
            have m1064 := Tp.fr m944 f948 (by decide) (by decide)
            have z1063 := m1064.1
            have q1065 : h974 62 1 = h946 62 1 := by rw [← e976]; exact x_up_k (Ne.symm (tne_11_62 ta1))
            have q1066 : h946 62 1 = h912 62 1 := f948 62 1 (by decide +kernel)
            have q1067 : h912 62 1 = h21 62 1 := f913 62 1 (by decide +kernel)
            have q1068 : h21 62 1 = h10 62 1 := f23 62 1 (by decide +kernel)
            have q1069 : h10 62 1 = h6 62 1 := by rw [← e12]; exact x_up_k (Ne.symm (tne_11_62 ta1))
            have q1070 : h6 62 1 = h1 62 1 := by rw [← e8]; exact x_up_k (Ne.symm (tne_11_62 ta1))
            have q1071 : h1 62 1 = (ra1 + 11) := by rw [← e3]; exact x_up_at
            have q1072 : h974 (ra1 + 11) 3 = v910 := by rw [← e976]; exact x_up_at
            have e1073 : ln9 h974 = v910 := (congrArg (fun z => h974 z 3) ((((((q1065.trans q1066).trans q1067).trans q1068).trans q1069).trans q1070).trans q1071)).trans q1072
            refine x_retI (np := 68) (x := 0) (by decide +kernel) (by decide) (Or.inr ⟨by decide +kernel, by omega, by omega⟩) ⟨_, rfl, (by decide), ?_⟩
            exact ⟨j975, f977, (by omega), (Cu.s1 (by omega) (Lq.fin (c' := v910) m917 (by omega) c952 rfl (by omega) (by omega) (by omega)) (by omega)), ((((((q1050.trans q1051).trans q1052).trans q1053).trans q1054).trans q1055).trans q1056)⟩
          have q965 : ¬ (v941 ≠ 2147483648) := q965
          refine x_const (np := 47) (x := 9223372039002259456) (a := 2147483648) (by decide +kernel) (by decide) (by decide) ?_
          have q1074 : h946 62 1 = h912 62 1 := f948 62 1 (by decide +kernel)
          have q1075 : h912 62 1 = h21 62 1 := f913 62 1 (by decide +kernel)
          have q1076 : h21 62 1 = h10 62 1 := f23 62 1 (by decide +kernel)
          have q1077 : h10 62 1 = h6 62 1 := by rw [← e12]; exact x_up_k (Ne.symm (tne_11_62 ta1))
          have q1078 : h6 62 1 = h1 62 1 := by rw [← e8]; exact x_up_k (Ne.symm (tne_11_62 ta1))
          have q1079 : h1 62 1 = (ra1 + 11) := by rw [← e3]; exact x_up_at
          refine x_retI (np := 48) (x := 0) (by decide +kernel) (by decide) (Or.inr ⟨by decide +kernel, by omega, by omega⟩) ⟨_, rfl, (by decide), ?_⟩
          exact ⟨j947, f953, (by omega), (Cu.n0 (by omega) (Lq.no m917 (by omega) c952 rfl (by omega))), (((((q1074.trans q1075).trans q1076).trans q1077).trans q1078).trans q1079)⟩
      have q1080 : h21 62 1 = h10 62 1 := f23 62 1 (by decide +kernel)
      have q1081 : h10 62 1 = h6 62 1 := by rw [← e12]; exact x_up_k (Ne.symm (tne_11_62 ta1))
      have q1082 : h6 62 1 = h1 62 1 := by rw [← e8]; exact x_up_k (Ne.symm (tne_11_62 ta1))
      have q1083 : h1 62 1 = (ra1 + 11) := by rw [← e3]; exact x_up_at
      have q1084 : h21 (ra1 + 11) 2 = h10 (ra1 + 11) 2 := jK 0 f23 (rg_T11_2_0_1 ta1) (by omega) (by omega) (by decide)
      have q1085 : h10 (ra1 + 11) 2 = h6 (ra1 + 11) 2 := by rw [← e12]; exact x_up_i (by omega)
      have q1086 : h6 (ra1 + 11) 2 = 2147483648 := by rw [← e8]; exact x_up_at
      have e1087 : cl9 h21 = 2147483648 := (congrArg (fun z => h21 z 2) (((q1080.trans q1081).trans q1082).trans q1083)).trans ((q1084.trans q1085).trans q1086)
      have q1088 : h21 1 1 = h10 1 1 := jK 0 f23 rg_1_1_0_1 (by omega) (by omega) (by decide)
      have q1089 : h10 1 1 = h6 1 1 := by rw [← e12]; exact x_up_k (Ne.symm (tne_11_1 ta1))
      have q1090 : h6 1 1 = h1 1 1 := by rw [← e8]; exact x_up_k (Ne.symm (tne_11_1 ta1))
      have q1091 : h1 1 1 = h 1 1 := by rw [← e3]; exact x_up_k (by decide)
      have m1093 := Tp.fr m18 f23 (by decide) (by decide)
      have z1092 := m1093.1
      exact p915 _ 2147483649 h21 (Nat.lt_succ_self _) (by omega) (by omega) j22 (Fr.refl _ _) (Lq.zero ((show h21 1 2 = h21 1 2 by omega).trans c27) (by omega) (by omega))
    have q41 : ¬ (2147483648 = 2147483648) := q41
    exfalso; omega
  have q39 : ¬ ((h21 1 2) < (h 1 1)) := q39
  refine x_const (np := 12) (x := 9223372043297226753) (a := 2147483649) (by decide +kernel) (by decide) (by decide) ?_
  refine x_goto (np := 15) (x := 16) (by decide +kernel) ?_
  refine x_retI (np := 17) (x := 0) (by decide +kernel) (by decide) (Or.inr ⟨by decide +kernel, by omega, by omega⟩) ⟨_, rfl, (by decide), ?_⟩
  refine x_ifz (k := 0) (tg := 31) (np := 29) (by decide +kernel) (by decide) (by decide) (fun q1094 => ?_) (fun q1095 => ?_)
  · have q1094 : 2147483649 = 2147483648 := q1094
    exfalso; omega
  have q1095 : ¬ (2147483649 = 2147483648) := q1095
  refine x_const (np := 30) (x := 9223372043297226753) (a := 2147483649) (by decide +kernel) (by decide) (by decide) ?_
  have q1096 : h21 62 1 = h10 62 1 := f23 62 1 (by decide +kernel)
  have q1097 : h10 62 1 = h6 62 1 := by rw [← e12]; exact x_up_k (Ne.symm (tne_11_62 ta1))
  have q1098 : h6 62 1 = h1 62 1 := by rw [← e8]; exact x_up_k (Ne.symm (tne_11_62 ta1))
  have q1099 : h1 62 1 = (ra1 + 11) := by rw [← e3]; exact x_up_at
  have q1100 : h21 1 1 = h10 1 1 := jK 0 f23 rg_1_1_0_1 (by omega) (by omega) (by decide)
  have q1101 : h10 1 1 = h6 1 1 := by rw [← e12]; exact x_up_k (Ne.symm (tne_11_1 ta1))
  have q1102 : h6 1 1 = h1 1 1 := by rw [← e8]; exact x_up_k (Ne.symm (tne_11_1 ta1))
  have q1103 : h1 1 1 = h 1 1 := by rw [← e3]; exact x_up_k (by decide)
  have m1105 := Tp.fr m18 f23 (by decide) (by decide)
  have z1104 := m1105.1
  have q1106 : h21 62 1 = h10 62 1 := f23 62 1 (by decide +kernel)
  have q1107 : h10 62 1 = h6 62 1 := by rw [← e12]; exact x_up_k (Ne.symm (tne_11_62 ta1))
  have q1108 : h6 62 1 = h1 62 1 := by rw [← e8]; exact x_up_k (Ne.symm (tne_11_62 ta1))
  have q1109 : h1 62 1 = (ra1 + 11) := by rw [← e3]; exact x_up_at
  have q1110 : h21 (ra1 + 11) 3 = h10 (ra1 + 11) 3 := jK 0 f23 (rg_T11_3_0_1 ta1) (by omega) (by omega) (by decide)
  have q1111 : h10 (ra1 + 11) 3 = 2147483648 := by rw [← e12]; exact x_up_at
  have e1112 : ln9 h21 = 2147483648 := (congrArg (fun z => h21 z 3) (((q1106.trans q1107).trans q1108).trans q1109)).trans (q1110.trans q1111)
  refine x_retI (np := 31) (x := 0) (by decide +kernel) (by decide) (Or.inr ⟨by decide +kernel, by omega, by omega⟩) ⟨_, rfl, (by decide), ?_⟩
  exact ⟨j22, f28, (by omega), (Cu.nil c27 (by omega) (rs1' (by omega) (by omega))), (((q1096.trans q1097).trans q1098).trans q1099)⟩
set_option maxHeartbeats 0 in
/-- LentNames.custom()I -/
theorem c108_0n {sc : Nat × Nat} {d  : Nat} {h : xh} {tB : Nat → Nat} {tN : Nat} (hJ : J h) (hT : Tp tB tN h) : X sc 108 (d + 31) (xT (fun r h' => J h' ∧ Fr 140737488477883 h h' ∧ (0 ≤ r ∧ r ≤ 4294967295) ∧ (h' 1 1 = 2147483648) ∧ Cu tB tN (some r)) (fun E h' => J h' ∧ Fr 140737488477883 h h' ∧ (E = 0) ∧ (h' 1 1 = 2147483648) ∧ Cu tB tN none)) 0 0 0 [x_r 0, 147573952589676412928] [] h := by
  have hF := Fr.refl 140737488477883 h
  refine x_aload (np := 1) (x := 0) (by decide +kernel) rfl (x_nc_le (by decide)) ?_
  have t1 : tw (h 0 9) := hJ.2.2.1
  refine x_getR (np := 4) (x := 649) (f := 9) (q := (h 0 9)) (by decide +kernel) (by decide) (by decide +kernel) rfl ?_
  refine x_aload (np := 5) (x := 0) (by decide +kernel) rfl (x_nc_le (by decide)) ?_
  have t2 : tw (h 0 8) := hJ.2.1
  refine x_getR (np := 8) (x := 648) (f := 8) (q := (h 0 8)) (by decide +kernel) (by decide) (by decide +kernel) rfl ?_
  refine x_cV (t := 6) (mj := 84) (n := 2) (rc := 9) (ml := 2) (nr := 0) (np := 11) (as := [x_r (h 0 9), x_r (h 0 8)]) (rest := []) (lo1 := [x_r (h 0 9), x_r (h 0 8)]) (by decide +kernel) (by decide) (by decide +kernel) (x_rb_of (tr_0_9 t1)) rfl rfl (x_wr (tn_0 t1) (x_wr (tn_0 t2) x_wn)) x_wn (by decide) rfl (c84_T0_T0 hJ t1 t2) (fun h6 q5 => ?_)
  obtain ⟨j7, f8⟩ := q5
  have f11 := Fr.trans hF f8 (by decide)
  refine x_aload (np := 12) (x := 0) (by decide +kernel) rfl (x_nc_le (by decide)) ?_
  have q12 : h6 0 4 = 62 := by have z := jB (e := 4) 0 j7 rg_0_4_0_1 (by decide) (by decide); omega
  refine x_getR (np := 15) (x := 644) (f := 4) (q := 62) (by decide +kernel) (by decide) (by decide +kernel) q12 ?_
  refine x_aload (np := 16) (x := 0) (by decide +kernel) rfl (x_nc_le (by decide)) ?_
  have q13 : h6 0 9 = h 0 9 := f8 0 9 (by decide +kernel)
  refine x_getR (np := 19) (x := 649) (f := 9) (q := (h 0 9)) (by decide +kernel) (by decide) (by decide +kernel) q13 ?_
  have q14 : h6 (h 0 9) 6 = ((h 0 9) + 11) := tf_0_6 j7 t1
  refine x_getR (np := 22) (x := 518) (f := 6) (q := ((h 0 9) + 11)) (by decide +kernel) (by decide) (tg_0_518_6_1 t1) q14 ?_
  have m18 := Tp.fr hT f8 (by decide) (by decide)
  refine x_cI (t := 6) (mj := 44) (n := 2) (rc := 4) (ml := 3) (nr := 0) (np := 25) (as := [x_r 62, x_r ((h 0 9) + 11)]) (rest := []) (lo1 := [x_r 62, x_r ((h 0 9) + 11), 147573952589676412928]) (by decide +kernel) (by decide) (by decide +kernel) (x_rb_of (by decide +kernel)) rfl rfl (x_wr (by decide) (x_wr (tn_11 t1) x_wn)) x_wn (by decide) rfl (c44_62_T11n j7  t1 m18) (fun v15 h19 l16 q17 => ?_)
  obtain ⟨j20, f21, b22, c23, c24⟩ := q17
  have f25 := Fr.trans f11 f21 (by decide)
  refine x_istore (np := 26) (x := 1) (lo' := [x_r 0, iv_c v15]) (by decide +kernel) l16 (Nat.le_of_ble_eq_true rfl) rfl ?_
  refine x_aload (np := 27) (x := 0) (by decide +kernel) rfl (x_nc_le (by decide)) ?_
  refine x_iload (np := 28) (x := 1) (by decide +kernel) rfl l16 ?_
  refine x_nV (t := 6) (mj := 141) (n := 2) (rc := 11) (ml := 2) (nr := 0) (np := 31) (as := [x_r 0, iv_c v15]) (rest := []) (lo1 := [x_r 0, iv_c v15]) (by decide +kernel) (by decide) (by decide +kernel) (x_rb_of (by decide +kernel)) rfl rfl (x_wr (by decide) (x_wi l16 x_wn)) x_wn (by decide) rfl ?_
  refine x_aload (np := 1) (x := 0) (by decide +kernel) rfl (x_nc_le (by decide)) ?_
  refine x_iload (np := 2) (x := 1) (by decide +kernel) rfl l16 ?_
  refine x_ifz (k := 0) (tg := 9) (np := 5) (by decide +kernel) (by decide) l16 (fun q26 => ?_) (fun q27 => ?_)
  · have q26 : v15 = 2147483648 := q26
    refine x_aload (np := 10) (x := 0) (by decide +kernel) rfl (x_nc_le (by decide)) ?_
    have q28 : h19 0 0 = 1 := by have z := jB (e := 0) 0 j20 rg_0_0_0_1 (by decide) (by decide); omega
    refine x_getR (np := 13) (x := 640) (f := 0) (q := 1) (by decide +kernel) (by decide) (by decide +kernel) q28 ?_
    have b29 := jB (e := 2) 0 j20 rg_1_2_0_1 (by omega) (by omega)
    refine x_getC (np := 16) (x := 450) (f := 2) (q := (h19 1 2)) (by decide +kernel) (by decide) (by decide +kernel) rfl (fun l30 => ?_)
    refine x_putI (np := 19) (x := 651) (f := 11) (by decide +kernel) (by decide +kernel) l30 (Or.inl (by decide)) ?_
    have j32 := jU (e := 11) (v := (h19 1 2)) 0 j20 rg_0_11_0_1 (by omega) (by omega) (by omega)
    have f34 := jF (e := 11) (v := (h19 1 2)) 0 f25 rg_0_11_0_1 (by omega) (by omega) (by decide)
    generalize e33 : x_up h19 0 11 (h19 1 2) = h31 at j32 f34 ⊢
    refine x_aload (np := 20) (x := 0) (by decide +kernel) rfl (x_nc_le (by decide)) ?_
    have q35 : h31 0 0 = 1 := by have z := jB (e := 0) 0 j32 rg_0_0_0_1 (by decide) (by decide); omega
    refine x_getR (np := 23) (x := 640) (f := 0) (q := 1) (by decide +kernel) (by decide) (by decide +kernel) q35 ?_
    refine x_const (np := 24) (x := 9223372039002259456) (a := 2147483648) (by decide +kernel) (by decide) (by decide) ?_
    refine x_putI (np := 27) (x := 449) (f := 1) (by decide +kernel) (by decide +kernel) (by decide) (Or.inl (by decide)) ?_
    have j37 := jU (e := 1) (v := 2147483648) 0 j32 rg_1_1_0_1 (by omega) (by omega) (by omega)
    have f39 := jF (e := 1) (v := 2147483648) 0 f34 rg_1_1_0_1 (by omega) (by omega) (by decide)
    generalize e38 : x_up h31 1 1 2147483648 = h36 at j37 f39 ⊢
    refine x_retV (np := 28) (x := 0) (by decide +kernel) (by decide +kernel) ⟨rfl, ?_⟩
    refine x_iload (np := 32) (x := 1) (by decide +kernel) rfl l16 ?_
    refine x_ifz (k := 1) (tg := 45) (np := 35) (by decide +kernel) (by decide) l16 (fun q40 => ?_) (fun q41 => ?_)
    · have q40 : v15 ≠ 2147483648 := q40
      exfalso; omega
    have q41 : ¬ (v15 ≠ 2147483648) := q41
    have q42 : h36 1 1 = 2147483648 := by rw [← e38]; exact x_up_at
    refine x_thr (np := 38) (x := 0) (by decide +kernel) (by decide +kernel) (Nat.le_trans x_wn (by decide)) (Or.inr ⟨_, rfl, ?_⟩)
    exact ⟨j37, f39, by decide, (by omega), (Cu.of0 c23 (by omega))⟩
  have q27 : ¬ (v15 = 2147483648) := q27
  refine x_const (np := 6) (x := 9223372034707292159) (a := 2147483647) (by decide +kernel) (by decide) (by decide) ?_
  refine x_goto (np := 9) (x := 16) (by decide +kernel) ?_
  refine x_putI (np := 19) (x := 651) (f := 11) (by decide +kernel) (by decide +kernel) (by decide) (Or.inl (by decide)) ?_
  have j44 := jU (e := 11) (v := 2147483647) 0 j20 rg_0_11_0_1 (by omega) (by omega) (by omega)
  have f46 := jF (e := 11) (v := 2147483647) 0 f25 rg_0_11_0_1 (by omega) (by omega) (by decide)
  generalize e45 : x_up h19 0 11 2147483647 = h43 at j44 f46 ⊢
  refine x_aload (np := 20) (x := 0) (by decide +kernel) rfl (x_nc_le (by decide)) ?_
  have q47 : h43 0 0 = 1 := by have z := jB (e := 0) 0 j44 rg_0_0_0_1 (by decide) (by decide); omega
  refine x_getR (np := 23) (x := 640) (f := 0) (q := 1) (by decide +kernel) (by decide) (by decide +kernel) q47 ?_
  refine x_const (np := 24) (x := 9223372039002259456) (a := 2147483648) (by decide +kernel) (by decide) (by decide) ?_
  refine x_putI (np := 27) (x := 449) (f := 1) (by decide +kernel) (by decide +kernel) (by decide) (Or.inl (by decide)) ?_
  have j49 := jU (e := 1) (v := 2147483648) 0 j44 rg_1_1_0_1 (by omega) (by omega) (by omega)
  have f51 := jF (e := 1) (v := 2147483648) 0 f46 rg_1_1_0_1 (by omega) (by omega) (by decide)
  generalize e50 : x_up h43 1 1 2147483648 = h48 at j49 f51 ⊢
  refine x_retV (np := 28) (x := 0) (by decide +kernel) (by decide +kernel) ⟨rfl, ?_⟩
  refine x_iload (np := 32) (x := 1) (by decide +kernel) rfl l16 ?_
  refine x_ifz (k := 1) (tg := 45) (np := 35) (by decide +kernel) (by decide) l16 (fun q52 => ?_) (fun q53 => ?_)
  · have q52 : v15 ≠ 2147483648 := q52
    refine x_aload (np := 46) (x := 0) (by decide +kernel) rfl (x_nc_le (by decide)) ?_
    refine x_nV (t := 6) (mj := 142) (n := 1) (rc := 11) (ml := 2) (nr := 0) (np := 49) (as := [x_r 0]) (rest := []) (lo1 := [x_r 0, 147573952589676412928]) (by decide +kernel) (by decide) (by decide +kernel) (x_rb_of (by decide +kernel)) rfl rfl (x_wr (by decide) x_wn) x_wn (by decide) rfl ?_
    refine x_aload (np := 1) (x := 0) (by decide +kernel) rfl (x_nc_le (by decide)) ?_
    have q54 : h48 0 8 = h43 0 8 := by rw [← e50]; exact x_up_k (by decide)
    have q55 : h43 0 8 = h19 0 8 := by rw [← e45]; exact x_up_i (by omega)
    have q56 : h19 0 8 = h6 0 8 := f21 0 8 (by decide +kernel)
    have q57 : h6 0 8 = h 0 8 := f8 0 8 (by decide +kernel)
    refine x_getR (np := 4) (x := 648) (f := 8) (q := (h 0 8)) (by decide +kernel) (by decide) (by decide +kernel) (((q54.trans q55).trans q56).trans q57) ?_
    refine x_astore (np := 5) (x := 1) (lo' := [x_r 0, x_r (h 0 8)]) (by decide +kernel) (x_nc_le (tn_0 t2)) (Nat.le_of_ble_eq_true rfl) rfl ?_
    refine x_aload (np := 6) (x := 0) (by decide +kernel) rfl (x_nc_le (by decide)) ?_
    refine x_aload (np := 7) (x := 0) (by decide +kernel) rfl (x_nc_le (by decide)) ?_
    have q58 : h48 0 9 = h43 0 9 := by rw [← e50]; exact x_up_k (by decide)
    have q59 : h43 0 9 = h19 0 9 := by rw [← e45]; exact x_up_i (by omega)
    have q60 : h19 0 9 = h6 0 9 := f21 0 9 (by decide +kernel)
    have q61 : h6 0 9 = h 0 9 := f8 0 9 (by decide +kernel)
    refine x_getR (np := 10) (x := 649) (f := 9) (q := (h 0 9)) (by decide +kernel) (by decide) (by decide +kernel) (((q58.trans q59).trans q60).trans q61) ?_
    refine x_putR (np := 13) (x := 8840) (f := 8) (by decide +kernel) (by decide +kernel) (tn_0 t1) (by decide) ?_
    have j63 := J_upW (k := 0) (i := 8) j49 t1 (by decide)
    have f65 := Fr.up (k := 0) (i := 8) (v := (h 0 9)) f51 (by decide +kernel)
    generalize e64 : x_up h48 0 8 (h 0 9) = h62 at j63 f65 ⊢
    refine x_aload (np := 14) (x := 0) (by decide +kernel) rfl (x_nc_le (by decide)) ?_
    refine x_aload (np := 15) (x := 1) (by decide +kernel) rfl (x_nc_le (tn_0 t2)) ?_
    refine x_putR (np := 18) (x := 8841) (f := 9) (by decide +kernel) (by decide +kernel) (tn_0 t2) (by decide) ?_
    have j67 := J_upW (k := 0) (i := 9) j63 t2 (by decide)
    have f69 := Fr.up (k := 0) (i := 9) (v := (h 0 8)) f65 (by decide +kernel)
    generalize e68 : x_up h62 0 9 (h 0 8) = h66 at j67 f69 ⊢
    refine x_retV (np := 19) (x := 0) (by decide +kernel) (by decide +kernel) ⟨rfl, ?_⟩
    refine x_aload (np := 50) (x := 0) (by decide +kernel) rfl (x_nc_le (by decide)) ?_
    refine x_nV (t := 6) (mj := 143) (n := 1) (rc := 11) (ml := 1) (nr := 0) (np := 53) (as := [x_r 0]) (rest := []) (lo1 := [x_r 0]) (by decide +kernel) (by decide) (by decide +kernel) (x_rb_of (by decide +kernel)) rfl rfl (x_wr (by decide) x_wn) x_wn (by decide) rfl ?_
    refine x_aload (np := 1) (x := 0) (by decide +kernel) rfl (x_nc_le (by decide)) ?_
    have q70 : h66 0 1 = 45 := by have z := jB (e := 1) 0 j67 rg_0_1_0_1 (by decide) (by decide); omega
    refine x_getR (np := 4) (x := 641) (f := 1) (q := 45) (by decide +kernel) (by decide) (by decide +kernel) q70 ?_
    refine x_aload (np := 5) (x := 0) (by decide +kernel) rfl (x_nc_le (by decide)) ?_
    have q71 : h66 0 8 = h62 0 8 := by rw [← e68]; exact x_up_i (by omega)
    have q72 : h62 0 8 = (h 0 9) := by rw [← e64]; exact x_up_at
    refine x_getR (np := 8) (x := 648) (f := 8) (q := (h 0 9)) (by decide +kernel) (by decide) (by decide +kernel) (q71.trans q72) ?_
    refine x_cV (t := 6) (mj := 4) (n := 2) (rc := 2) (ml := 3) (nr := 0) (np := 11) (as := [x_r 45, x_r (h 0 9)]) (rest := []) (lo1 := [x_r 45, x_r (h 0 9), 147573952589676412928]) (by decide +kernel) (by decide) (by decide +kernel) (x_rb_of (by decide +kernel)) rfl rfl (x_wr (by decide) (x_wr (tn_0 t1) x_wn)) x_wn (by decide) rfl (c4_45_T0 j67  t1) (fun h76 q75 => ?_)
    obtain ⟨j77, f78⟩ := q75
    have f81 := Fr.trans f69 f78 (by decide)
    refine x_aload (np := 12) (x := 0) (by decide +kernel) rfl (x_nc_le (by decide)) ?_
    have q82 : h76 0 5 = 63 := by have z := jB (e := 5) 0 j77 rg_0_5_0_1 (by decide) (by decide); omega
    refine x_getR (np := 15) (x := 645) (f := 5) (q := 63) (by decide +kernel) (by decide) (by decide +kernel) q82 ?_
    refine x_nV (t := 8) (mj := 270) (n := 1) (rc := 5) (ml := 1) (nr := 0) (np := 18) (as := [x_r 63]) (rest := []) (lo1 := [x_r 63]) (by decide +kernel) (by decide) (by decide +kernel) (x_rb_of (by decide +kernel)) rfl rfl (x_wr (by decide) x_wn) x_wn (by decide) rfl ?_
    refine x_aload (np := 1) (x := 0) (by decide +kernel) rfl (x_nc_le (by decide)) ?_
    refine x_const (np := 2) (x := 9223372039002259456) (a := 2147483648) (by decide +kernel) (by decide) (by decide) ?_
    refine x_putI (np := 5) (x := 4878) (f := 14) (by decide +kernel) (by decide +kernel) (by decide) (Or.inr ⟨by decide, by omega, by omega⟩) ?_
    have j84 := jU (e := 14) (v := 2147483648) 0 j77 rg_63_14_0_1 (by omega) (by omega) (by omega)
    have f86 := jF (e := 14) (v := 2147483648) 0 f81 rg_63_14_0_1 (by omega) (by omega) (by decide)
    generalize e85 : x_up h76 63 14 2147483648 = h83 at j84 f86 ⊢
    refine x_retV (np := 6) (x := 0) (by decide +kernel) (by decide +kernel) ⟨rfl, ?_⟩
    refine x_aload (np := 19) (x := 0) (by decide +kernel) rfl (x_nc_le (by decide)) ?_
    have q87 : h83 0 6 = 69 := by have z := jB (e := 6) 0 j84 rg_0_6_0_1 (by decide) (by decide); omega
    refine x_getR (np := 22) (x := 646) (f := 6) (q := 69) (by decide +kernel) (by decide) (by decide +kernel) q87 ?_
    refine x_nV (t := 8) (mj := 270) (n := 1) (rc := 6) (ml := 1) (nr := 0) (np := 25) (as := [x_r 69]) (rest := []) (lo1 := [x_r 69]) (by decide +kernel) (by decide) (by decide +kernel) (x_rb_of (by decide +kernel)) rfl rfl (x_wr (by decide) x_wn) x_wn (by decide) rfl ?_
    refine x_aload (np := 1) (x := 0) (by decide +kernel) rfl (x_nc_le (by decide)) ?_
    refine x_const (np := 2) (x := 9223372039002259456) (a := 2147483648) (by decide +kernel) (by decide) (by decide) ?_
    refine x_putI (np := 5) (x := 4878) (f := 14) (by decide +kernel) (by decide +kernel) (by decide) (Or.inr ⟨by decide, by omega, by omega⟩) ?_
    have j89 := jU (e := 14) (v := 2147483648) 0 j84 rg_69_14_0_1 (by omega) (by omega) (by omega)
    have f91 := jF (e := 14) (v := 2147483648) 0 f86 rg_69_14_0_1 (by omega) (by omega) (by decide)
    generalize e90 : x_up h83 69 14 2147483648 = h88 at j89 f91 ⊢
    refine x_retV (np := 6) (x := 0) (by decide +kernel) (by decide +kernel) ⟨rfl, ?_⟩
    refine x_retV (np := 26) (x := 0) (by decide +kernel) (by decide +kernel) ⟨rfl, ?_⟩
    refine x_aload (np := 54) (x := 0) (by decide +kernel) rfl (x_nc_le (by decide)) ?_
    have q92 : h88 0 8 = h83 0 8 := by rw [← e90]; exact x_up_k (by decide)
    have q93 : h83 0 8 = h76 0 8 := by rw [← e85]; exact x_up_k (by decide)
    have q94 : h76 0 8 = h66 0 8 := f78 0 8 (by decide +kernel)
    have q95 : h66 0 8 = h62 0 8 := by rw [← e68]; exact x_up_i (by omega)
    have q96 : h62 0 8 = (h 0 9) := by rw [← e64]; exact x_up_at
    refine x_getR (np := 57) (x := 648) (f := 8) (q := (h 0 9)) (by decide +kernel) (by decide) (by decide +kernel) ((((q92.trans q93).trans q94).trans q95).trans q96) ?_
    have q97 : h88 (h 0 9) 6 = ((h 0 9) + 11) := tf_0_6 j89 t1
    refine x_getR (np := 60) (x := 518) (f := 6) (q := ((h 0 9) + 11)) (by decide +kernel) (by decide) (tg_0_518_6_1 t1) q97 ?_
    have q98 : h88 ((h 0 9) + 11) 3 = h83 ((h 0 9) + 11) 3 := by rw [← e90]; exact x_up_k (tne_11_69 t1)
    have q99 : h83 ((h 0 9) + 11) 3 = h76 ((h 0 9) + 11) 3 := by rw [← e85]; exact x_up_k (tne_11_63 t1)
    have q100 : h76 ((h 0 9) + 11) 3 = h66 ((h 0 9) + 11) 3 := jK 0 f78 (rg_T11_3_0_1 t1) (by omega) (by omega) (by decide)
    have q101 : h66 ((h 0 9) + 11) 3 = h62 ((h 0 9) + 11) 3 := by rw [← e68]; exact x_up_k (tne_11_0 t1)
    have q102 : h62 ((h 0 9) + 11) 3 = h48 ((h 0 9) + 11) 3 := by rw [← e64]; exact x_up_k (tne_11_0 t1)
    have q103 : h48 ((h 0 9) + 11) 3 = h43 ((h 0 9) + 11) 3 := by rw [← e50]; exact x_up_k (tne_11_1 t1)
    have q104 : h43 ((h 0 9) + 11) 3 = h19 ((h 0 9) + 11) 3 := by rw [← e45]; exact x_up_k (tne_11_0 t1)
    refine x_getC (np := 63) (x := 131) (f := 3) (q := (h19 ((h 0 9) + 11) 3)) (by decide +kernel) (by decide) (tg_11_131_3_0 t1) ((((((q98.trans q99).trans q100).trans q101).trans q102).trans q103).trans q104) (fun l105 => ?_)
    have q106 : h88 1 1 = h83 1 1 := by rw [← e90]; exact x_up_k (by decide)
    have q107 : h83 1 1 = h76 1 1 := by rw [← e85]; exact x_up_k (by decide)
    have q108 : h76 1 1 = h66 1 1 := jK 0 f78 rg_1_1_0_1 (by omega) (by omega) (by decide)
    have q109 : h66 1 1 = h62 1 1 := by rw [← e68]; exact x_up_k (by decide)
    have q110 : h62 1 1 = h48 1 1 := by rw [← e64]; exact x_up_k (by decide)
    have q111 : h48 1 1 = 2147483648 := by rw [← e50]; exact x_up_at
    have e112 : ln9 h19 = (h19 ((h 0 9) + 11) 3) := (congrArg (fun z => h19 z 3) c24).trans rfl
    refine x_retI (np := 64) (x := 0) (by decide +kernel) l105 (Or.inl (by decide +kernel)) (Or.inl ⟨_, rfl, l105, ?_⟩)
    exact ⟨j89, f91, (by omega), (by omega), (Cu.of1 c23 (by omega) (by omega))⟩
  have q53 : ¬ (v15 ≠ 2147483648) := q53
  exfalso; omega
set_option maxHeartbeats 0 in
/-- LentNamesModel.blanks()V -/
theorem c168_75n {sc : Nat × Nat} {d  : Nat} {h : xh} {tB : Nat → Nat} {tN : Nat} (hJ : J h) (hT : Tq tB tN h) : X sc 168 (d + 1) (xV fun h' => J h' ∧ Fr 5242881 h h' ∧ (h 75 7 + 0 ≤ h' 75 7) ∧ (h' 75 9 = h' 75 7) ∧ h' 75 7 = sk tB tN (h 75 7)) 0 0 0 [x_r 75] [] h := by
  have hF := Fr.refl 5242881 h
  have p76 : ∀ (n : Nat) (h73 : xh), 4294967296 - h73 75 7 < n → h 75 7 ≤ h73 75 7 → J h73 → Fr 1048576 h h73 → sk tB tN (h 75 7) = sk tB tN (h73 75 7) → X sc 168 (d + 1) (xV fun h' => J h' ∧ Fr 5242881 h h' ∧ (h 75 7 + 0 ≤ h' 75 7) ∧ (h' 75 9 = h' 75 7) ∧ h' 75 7 = sk tB tN (h 75 7)) 0 0 0 [x_r 75] [] h73 := by
    intro n
    induction n with
    | zero => intro h73 q79; exact absurd q79 (Nat.not_lt_zero _)
    | succ n i80 =>
      intro h73 q79 b77 j75 f74 m78
      have f81 := Fr.trans hF f74 (by decide)
      refine x_aload (np := 1) (x := 0) (by decide +kernel) rfl (x_nc_le (by decide)) ?_
      refine x_const (np := 3) (x := 9223372176441212960) (a := 2147483680) (by decide +kernel) (by decide) (by decide) ?_
      refine x_const (np := 5) (x := 9223372176441212960) (a := 2147483680) (by decide +kernel) (by decide) (by decide) ?_
      refine x_nI (t := 6) (mj := 167) (n := 3) (rc := 12) (ml := 3) (nr := 0) (np := 8) (as := [x_r 75, iv_c 2147483680, iv_c 2147483680]) (rest := []) (lo1 := [x_r 75, iv_c 2147483680, iv_c 2147483680]) (by decide +kernel) (by decide) (by decide +kernel) (x_rb_of (by decide +kernel)) rfl rfl (x_wr (by decide) (x_wi (by decide) (x_wi (by decide) x_wn))) x_wn (by decide) rfl ?_
      refine x_aload (np := 1) (x := 0) (by decide +kernel) rfl (x_nc_le (by decide)) ?_
      have b82 := jB (e := 7) 0 j75 rg_75_7_0_1 (by omega) (by omega)
      refine x_getC (np := 4) (x := 711) (f := 7) (q := (h73 75 7)) (by decide +kernel) (by decide) (by decide +kernel) rfl (fun l83 => ?_)
      refine x_aload (np := 5) (x := 0) (by decide +kernel) rfl (x_nc_le (by decide)) ?_
      have q84 : h73 75 8 = h 75 8 := jK 0 f74 rg_75_8_0_1 (by omega) (by omega) (by decide)
      have b85 := jB (e := 8) 0 hJ rg_75_8_0_1 (by omega) (by omega)
      refine x_getC (np := 8) (x := 712) (f := 8) (q := (h 75 8)) (by decide +kernel) (by decide) (by decide +kernel) q84 (fun l86 => ?_)
      refine x_icmp (k := 3) (tg := 41) (np := 11) (by decide +kernel) (by decide) l83 l86 (fun q87 => ?_) (fun q88 => ?_)
      · have q87 : (h 75 8) ≤ (h73 75 7) := q87
        refine x_const (np := 42) (x := 9223372039002259456) (a := 2147483648) (by decide +kernel) (by decide) (by decide) ?_
        refine x_retI (np := 43) (x := 0) (by decide +kernel) (by decide) (Or.inr ⟨by decide +kernel, by omega, by omega⟩) ⟨_, rfl, (by decide), ?_⟩
        refine x_ifz (k := 0) (tg := 24) (np := 11) (by decide +kernel) (by decide) (by decide) (fun q89 => ?_) (fun q90 => ?_)
        · have q89 : 2147483648 = 2147483648 := q89
          refine x_aload (np := 25) (x := 0) (by decide +kernel) rfl (x_nc_le (by decide)) ?_
          refine x_aload (np := 26) (x := 0) (by decide +kernel) rfl (x_nc_le (by decide)) ?_
          refine x_getC (np := 29) (x := 711) (f := 7) (q := (h73 75 7)) (by decide +kernel) (by decide) (by decide +kernel) rfl (fun l91 => ?_)
          refine x_putI (np := 32) (x := 713) (f := 9) (by decide +kernel) (by decide +kernel) l83 (Or.inl (by decide)) ?_
          have j93 := jU (e := 9) (v := (h73 75 7)) 0 j75 rg_75_9_0_1 (by omega) (by omega) (by omega)
          have f95 := jF (e := 9) (v := (h73 75 7)) 0 f81 rg_75_9_0_1 (by omega) (by omega) (by decide)
          generalize e94 : x_up h73 75 9 (h73 75 7) = h92 at j93 f95 ⊢
          have b96 := jB (e := 7) 0 hJ rg_75_7_0_1 (by omega) (by omega)
          have q97 : h92 75 7 = h73 75 7 := by rw [← e94]; exact x_up_i (by omega)
          have q98 : h92 75 7 = h73 75 7 := by rw [← e94]; exact x_up_i (by omega)
          have q99 : h92 75 9 = (h73 75 7) := by rw [← e94]; exact x_up_at
          have q100 : h92 75 7 = h73 75 7 := by rw [← e94]; exact x_up_i (by omega)
          have q101 : h73 75 8 = h 75 8 := jK 0 f74 rg_75_8_0_1 (by omega) (by omega) (by decide)
          have m103 := Tq.fr hT f74 (by decide) (by decide)
          have z102 := m103.1
          refine x_retV (np := 33) (x := 0) (by decide +kernel) (by decide +kernel) ⟨rfl, ?_⟩
          exact ⟨j93, f95, (by omega), (by omega), ((show h92 75 7 = h73 75 7 by omega).trans (m78.trans (sk_stop (by omega))).symm)⟩
        have q90 : ¬ (2147483648 = 2147483648) := q90
        exfalso; omega
      have q88 : ¬ ((h 75 8) ≤ (h73 75 7)) := q88
      refine x_aload (np := 12) (x := 0) (by decide +kernel) rfl (x_nc_le (by decide)) ?_
      have q104 : h73 75 5 = 79 := by have z := jB (e := 5) 0 j75 rg_75_5_0_1 (by decide) (by decide); omega
      refine x_getR (np := 15) (x := 709) (f := 5) (q := 79) (by decide +kernel) (by decide) (by decide +kernel) q104 ?_
      refine x_aload (np := 16) (x := 0) (by decide +kernel) rfl (x_nc_le (by decide)) ?_
      refine x_getC (np := 19) (x := 711) (f := 7) (q := (h73 75 7)) (by decide +kernel) (by decide) (by decide +kernel) rfl (fun l105 => ?_)
      obtain ⟨u106, q107⟩ : ∃ z, (h73 75 7) = 2147483648 + z := ⟨(h73 75 7) - 2147483648, by omega⟩
      have q108 : h73 79 u106 = h 79 u106 := jK u106 f74 rg_79_0_1_400 (by omega) (by omega) (by decide)
      have b109 := jB (e := u106) u106 hJ rg_79_0_1_400 (by omega) (by omega)
      refine x_baldC (np := 20) (x := 0) (n := 400) (i := u106) (q := (h 79 u106)) (by decide +kernel) (by decide +kernel) (by omega) (by omega) (by decide) q108 (fun l110 => ?_)
      refine x_iload (np := 21) (x := 1) (by decide +kernel) rfl (by decide) ?_
      refine x_icmp (k := 2) (tg := 41) (np := 24) (by decide +kernel) (by decide) l110 (by decide) (fun q111 => ?_) (fun q112 => ?_)
      · have q111 : (h 79 u106) < 2147483680 := q111
        refine x_const (np := 42) (x := 9223372039002259456) (a := 2147483648) (by decide +kernel) (by decide) (by decide) ?_
        refine x_retI (np := 43) (x := 0) (by decide +kernel) (by decide) (Or.inr ⟨by decide +kernel, by omega, by omega⟩) ⟨_, rfl, (by decide), ?_⟩
        refine x_ifz (k := 0) (tg := 24) (np := 11) (by decide +kernel) (by decide) (by decide) (fun q113 => ?_) (fun q114 => ?_)
        · have q113 : 2147483648 = 2147483648 := q113
          refine x_aload (np := 25) (x := 0) (by decide +kernel) rfl (x_nc_le (by decide)) ?_
          refine x_aload (np := 26) (x := 0) (by decide +kernel) rfl (x_nc_le (by decide)) ?_
          refine x_getC (np := 29) (x := 711) (f := 7) (q := (h73 75 7)) (by decide +kernel) (by decide) (by decide +kernel) rfl (fun l115 => ?_)
          refine x_putI (np := 32) (x := 713) (f := 9) (by decide +kernel) (by decide +kernel) l83 (Or.inl (by decide)) ?_
          have j117 := jU (e := 9) (v := (h73 75 7)) 0 j75 rg_75_9_0_1 (by omega) (by omega) (by omega)
          have f119 := jF (e := 9) (v := (h73 75 7)) 0 f81 rg_75_9_0_1 (by omega) (by omega) (by decide)
          generalize e118 : x_up h73 75 9 (h73 75 7) = h116 at j117 f119 ⊢
          have b120 := jB (e := 7) 0 hJ rg_75_7_0_1 (by omega) (by omega)
          have q121 : h116 75 7 = h73 75 7 := by rw [← e118]; exact x_up_i (by omega)
          have q122 : h116 75 7 = h73 75 7 := by rw [← e118]; exact x_up_i (by omega)
          have q123 : h116 75 9 = (h73 75 7) := by rw [← e118]; exact x_up_at
          have q124 : h116 75 7 = h73 75 7 := by rw [← e118]; exact x_up_i (by omega)
          have q125 : h73 75 8 = h 75 8 := jK 0 f74 rg_75_8_0_1 (by omega) (by omega) (by decide)
          have m127 := Tq.fr hT f74 (by decide) (by decide)
          have z126 := m127.1
          have q128 : h73 79 u106 = h 79 u106 := jK u106 f74 rg_79_0_1_400 (by omega) (by omega) (by decide)
          have z129 := Tq.at (p := (h73 75 7)) (u := u106) m127 (by omega) (by omega)
          refine x_retV (np := 33) (x := 0) (by decide +kernel) (by decide +kernel) ⟨rfl, ?_⟩
          exact ⟨j117, f119, (by omega), (by omega), ((show h116 75 7 = h73 75 7 by omega).trans (m78.trans (sk_stop (by omega))).symm)⟩
        have q114 : ¬ (2147483648 = 2147483648) := q114
        exfalso; omega
      have q112 : ¬ ((h 79 u106) < 2147483680) := q112
      refine x_aload (np := 25) (x := 0) (by decide +kernel) rfl (x_nc_le (by decide)) ?_
      have q130 : h73 75 5 = 79 := by have z := jB (e := 5) 0 j75 rg_75_5_0_1 (by decide) (by decide); omega
      refine x_getR (np := 28) (x := 709) (f := 5) (q := 79) (by decide +kernel) (by decide) (by decide +kernel) q130 ?_
      refine x_aload (np := 29) (x := 0) (by decide +kernel) rfl (x_nc_le (by decide)) ?_
      refine x_getC (np := 32) (x := 711) (f := 7) (q := (h73 75 7)) (by decide +kernel) (by decide) (by decide +kernel) rfl (fun l131 => ?_)
      have q132 : h73 79 u106 = h 79 u106 := jK u106 f74 rg_79_0_1_400 (by omega) (by omega) (by decide)
      refine x_baldC (np := 33) (x := 0) (n := 400) (i := u106) (q := (h 79 u106)) (by decide +kernel) (by decide +kernel) (by omega) (by omega) (by decide) q132 (fun l133 => ?_)
      refine x_iload (np := 34) (x := 2) (by decide +kernel) rfl (by decide) ?_
      refine x_icmp (k := 4) (tg := 41) (np := 37) (by decide +kernel) (by decide) l110 (by decide) (fun q134 => ?_) (fun q135 => ?_)
      · have q134 : 2147483680 < (h 79 u106) := q134
        refine x_const (np := 42) (x := 9223372039002259456) (a := 2147483648) (by decide +kernel) (by decide) (by decide) ?_
        refine x_retI (np := 43) (x := 0) (by decide +kernel) (by decide) (Or.inr ⟨by decide +kernel, by omega, by omega⟩) ⟨_, rfl, (by decide), ?_⟩
        refine x_ifz (k := 0) (tg := 24) (np := 11) (by decide +kernel) (by decide) (by decide) (fun q136 => ?_) (fun q137 => ?_)
        · have q136 : 2147483648 = 2147483648 := q136
          refine x_aload (np := 25) (x := 0) (by decide +kernel) rfl (x_nc_le (by decide)) ?_
          refine x_aload (np := 26) (x := 0) (by decide +kernel) rfl (x_nc_le (by decide)) ?_
          refine x_getC (np := 29) (x := 711) (f := 7) (q := (h73 75 7)) (by decide +kernel) (by decide) (by decide +kernel) rfl (fun l138 => ?_)
          refine x_putI (np := 32) (x := 713) (f := 9) (by decide +kernel) (by decide +kernel) l83 (Or.inl (by decide)) ?_
          have j140 := jU (e := 9) (v := (h73 75 7)) 0 j75 rg_75_9_0_1 (by omega) (by omega) (by omega)
          have f142 := jF (e := 9) (v := (h73 75 7)) 0 f81 rg_75_9_0_1 (by omega) (by omega) (by decide)
          generalize e141 : x_up h73 75 9 (h73 75 7) = h139 at j140 f142 ⊢
          have b143 := jB (e := 7) 0 hJ rg_75_7_0_1 (by omega) (by omega)
          have q144 : h139 75 7 = h73 75 7 := by rw [← e141]; exact x_up_i (by omega)
          have q145 : h139 75 7 = h73 75 7 := by rw [← e141]; exact x_up_i (by omega)
          have q146 : h139 75 9 = (h73 75 7) := by rw [← e141]; exact x_up_at
          have q147 : h139 75 7 = h73 75 7 := by rw [← e141]; exact x_up_i (by omega)
          have q148 : h73 75 8 = h 75 8 := jK 0 f74 rg_75_8_0_1 (by omega) (by omega) (by decide)
          have m150 := Tq.fr hT f74 (by decide) (by decide)
          have z149 := m150.1
          have q151 : h73 79 u106 = h 79 u106 := jK u106 f74 rg_79_0_1_400 (by omega) (by omega) (by decide)
          have z152 := Tq.at (p := (h73 75 7)) (u := u106) m150 (by omega) (by omega)
          refine x_retV (np := 33) (x := 0) (by decide +kernel) (by decide +kernel) ⟨rfl, ?_⟩
          exact ⟨j140, f142, (by omega), (by omega), ((show h139 75 7 = h73 75 7 by omega).trans (m78.trans (sk_stop (by omega))).symm)⟩
        have q137 : ¬ (2147483648 = 2147483648) := q137
        exfalso; omega
      have q135 : ¬ (2147483680 < (h 79 u106)) := q135
      refine x_const (np := 38) (x := 9223372043297226753) (a := 2147483649) (by decide +kernel) (by decide) (by decide) ?_
      refine x_goto (np := 41) (x := 42) (by decide +kernel) ?_
      refine x_retI (np := 43) (x := 0) (by decide +kernel) (by decide) (Or.inr ⟨by decide +kernel, by omega, by omega⟩) ⟨_, rfl, (by decide), ?_⟩
      refine x_ifz (k := 0) (tg := 24) (np := 11) (by decide +kernel) (by decide) (by decide) (fun q153 => ?_) (fun q154 => ?_)
      · have q153 : 2147483649 = 2147483648 := q153
        exfalso; omega
      have q154 : ¬ (2147483649 = 2147483648) := q154
      refine x_aload (np := 12) (x := 0) (by decide +kernel) rfl (x_nc_le (by decide)) ?_
      refine x_dup (np := 13) (x := 0) (by decide +kernel) (by have z := x_nc_le (k := 75) (by decide); unfold x_r; omega) ?_
      refine x_getC (np := 16) (x := 711) (f := 7) (q := (h73 75 7)) (by decide +kernel) (by decide) (by decide +kernel) rfl (fun l155 => ?_)
      refine x_const (np := 17) (x := 9223372043297226753) (a := 2147483649) (by decide +kernel) (by decide) (by decide) ?_
      refine x_iadd (np := 18) (x := 0) (v := (1 + (h73 75 7))) (by decide +kernel) l83 (by decide) (by omega) (by omega) ?_
      refine x_putI (np := 21) (x := 711) (f := 7) (by decide +kernel) (by decide +kernel) (by omega) (Or.inl (by decide)) ?_
      have j157 := jU (e := 7) (v := (1 + (h73 75 7))) 0 j75 rg_75_7_0_1 (by omega) (by omega) (by omega)
      have f159 := jF (e := 7) (v := (1 + (h73 75 7))) 0 f81 rg_75_7_0_1 (by omega) (by omega) (by decide)
      have f160 := jF (e := 7) (v := (1 + (h73 75 7))) 0 f74 rg_75_7_0_1 (by omega) (by omega) (by decide)
      generalize e158 : x_up h73 75 7 (1 + (h73 75 7)) = h156 at j157 f159 f160 ⊢
      refine x_goto (np := 24) (x := 0) (by decide +kernel) ?_
      have q161 : h156 75 7 = (1 + (h73 75 7)) := by rw [← e158]; exact x_up_at
      have b162 := jB (e := 7) 0 hJ rg_75_7_0_1 (by omega) (by omega)
      have q163 : h156 75 7 = (1 + (h73 75 7)) := by rw [← e158]; exact x_up_at
      have q164 : h73 75 8 = h 75 8 := jK 0 f74 rg_75_8_0_1 (by omega) (by omega) (by decide)
      have m166 := Tq.fr hT f74 (by decide) (by decide)
      have z165 := m166.1
      have q167 : h73 79 u106 = h 79 u106 := jK u106 f74 rg_79_0_1_400 (by omega) (by omega) (by decide)
      have z168 := Tq.at (p := (h73 75 7)) (u := u106) m166 (by omega) (by omega)
      have q169 : h156 75 7 = (1 + (h73 75 7)) := by rw [← e158]; exact x_up_at
      exact i80  h156 (by omega) (by omega) j157 f160 (m78.trans ((sk_step (by omega) (by omega)).trans (congrArg (sk tB tN) (show h73 75 7 + 1 = h156 75 7 by omega))))
  have b170 := jB (e := 7) 0 hJ rg_75_7_0_1 (by omega) (by omega)
  exact p76 _  h (Nat.lt_succ_self _) (by omega) hJ (Fr.refl _ _) rfl
set_option maxHeartbeats 0 in
/-- LentNamesModel.letters()V -/
theorem c169_75n {sc : Nat × Nat} {d  : Nat} {h : xh} {tB : Nat → Nat} {tN : Nat} (hJ : J h) (hT : Tq tB tN h) : X sc 169 (d + 2) (xV fun h' => J h' ∧ Fr 5242881 h h' ∧ (h 75 7 ≤ h' 75 9) ∧ (h' 75 9 ≤ h' 75 7) ∧ h' 75 9 = sk tB tN (h 75 7) ∧ h' 75 7 = le9 tB tN (h' 75 9)) 0 0 0 [x_r 75] [] h := by
  have hF := Fr.refl 5242881 h
  refine x_aload (np := 1) (x := 0) (by decide +kernel) rfl (x_nc_le (by decide)) ?_
  refine x_cV (t := 6) (mj := 168) (n := 1) (rc := 12) (ml := 1) (nr := 0) (np := 4) (as := [x_r 75]) (rest := []) (lo1 := [x_r 75]) (by decide +kernel) (by decide) (by decide +kernel) (x_rb_of (by decide +kernel)) rfl rfl (x_wr (by decide) x_wn) x_wn (by decide) rfl (c168_75n hJ  hT) (fun h4 q3 => ?_)
  obtain ⟨j5, f6, c9, c10, c11⟩ := q3
  have f12 := Fr.trans hF f6 (by decide)
  have b13 := jB (e := 7) 0 hJ rg_75_7_0_1 (by omega) (by omega)
  have b14 := jB (e := 7) 0 j5 rg_75_7_0_1 (by omega) (by omega)
  have b15 := jB (e := 9) 0 j5 rg_75_9_0_1 (by omega) (by omega)
  have p96 : ∀ (n : Nat) (h93 : xh), 4294967296 - h93 75 7 < n → h 75 7 ≤ h93 75 9 → h93 75 9 ≤ h93 75 7 → J h93 → Fr 1048576 h4 h93 → h93 75 9 = sk tB tN (h 75 7) ∧ le9 tB tN (h93 75 9) = le9 tB tN (h93 75 7) → X sc 169 (d + 2) (xV fun h' => J h' ∧ Fr 5242881 h h' ∧ (h 75 7 ≤ h' 75 9) ∧ (h' 75 9 ≤ h' 75 7) ∧ h' 75 9 = sk tB tN (h 75 7) ∧ h' 75 7 = le9 tB tN (h' 75 9)) 0 0 4 [x_r 75] [] h93 := by
    intro n
    induction n with
    | zero => intro h93 q100; exact absurd q100 (Nat.not_lt_zero _)
    | succ n i101 =>
      intro h93 q100 b97 b98 j95 f94 m99
      have f102 := Fr.trans f12 f94 (by decide)
      refine x_aload (np := 5) (x := 0) (by decide +kernel) rfl (x_nc_le (by decide)) ?_
      refine x_const (np := 7) (x := 9223372455614087265) (a := 2147483745) (by decide +kernel) (by decide) (by decide) ?_
      refine x_const (np := 9) (x := 9223372562988269690) (a := 2147483770) (by decide +kernel) (by decide) (by decide) ?_
      refine x_nI (t := 6) (mj := 167) (n := 3) (rc := 12) (ml := 3) (nr := 0) (np := 12) (as := [x_r 75, iv_c 2147483745, iv_c 2147483770]) (rest := []) (lo1 := [x_r 75, iv_c 2147483745, iv_c 2147483770]) (by decide +kernel) (by decide) (by decide +kernel) (x_rb_of (by decide +kernel)) rfl rfl (x_wr (by decide) (x_wi (by decide) (x_wi (by decide) x_wn))) x_wn (by decide) rfl ?_
      refine x_aload (np := 1) (x := 0) (by decide +kernel) rfl (x_nc_le (by decide)) ?_
      have b103 := jB (e := 7) 0 j95 rg_75_7_0_1 (by omega) (by omega)
      refine x_getC (np := 4) (x := 711) (f := 7) (q := (h93 75 7)) (by decide +kernel) (by decide) (by decide +kernel) rfl (fun l104 => ?_)
      refine x_aload (np := 5) (x := 0) (by decide +kernel) rfl (x_nc_le (by decide)) ?_
      have q105 : h93 75 8 = h4 75 8 := jK 0 f94 rg_75_8_0_1 (by omega) (by omega) (by decide)
      have q106 : h4 75 8 = h 75 8 := jK 0 f6 rg_75_8_0_1 (by omega) (by omega) (by decide)
      have b107 := jB (e := 8) 0 hJ rg_75_8_0_1 (by omega) (by omega)
      refine x_getC (np := 8) (x := 712) (f := 8) (q := (h 75 8)) (by decide +kernel) (by decide) (by decide +kernel) (q105.trans q106) (fun l108 => ?_)
      refine x_icmp (k := 3) (tg := 41) (np := 11) (by decide +kernel) (by decide) l104 l108 (fun q109 => ?_) (fun q110 => ?_)
      · have q109 : (h 75 8) ≤ (h93 75 7) := q109
        refine x_const (np := 42) (x := 9223372039002259456) (a := 2147483648) (by decide +kernel) (by decide) (by decide) ?_
        refine x_retI (np := 43) (x := 0) (by decide +kernel) (by decide) (Or.inr ⟨by decide +kernel, by omega, by omega⟩) ⟨_, rfl, (by decide), ?_⟩
        refine x_ifz (k := 0) (tg := 28) (np := 15) (by decide +kernel) (by decide) (by decide) (fun q111 => ?_) (fun q112 => ?_)
        · have q111 : 2147483648 = 2147483648 := q111
          have q113 : h93 75 9 = h4 75 9 := jK 0 f94 rg_75_9_0_1 (by omega) (by omega) (by decide)
          have q114 : h93 75 9 = h4 75 9 := jK 0 f94 rg_75_9_0_1 (by omega) (by omega) (by decide)
          have q115 : h93 75 8 = h4 75 8 := jK 0 f94 rg_75_8_0_1 (by omega) (by omega) (by decide)
          have q116 : h4 75 8 = h 75 8 := jK 0 f6 rg_75_8_0_1 (by omega) (by omega) (by decide)
          have m119 := Tq.fr hT f6 (by decide) (by decide)
          have m118 := Tq.fr m119 f94 (by decide) (by decide)
          have z117 := m118.1
          refine x_retV (np := 29) (x := 0) (by decide +kernel) (by decide +kernel) ⟨rfl, ?_⟩
          exact ⟨j95, f102, (by omega), (by omega), m99.1, ((m99.2.trans (le9_stop (fun z => by have z1 := z.1; have z2 := z.2.1; have z3 := z.2.2; omega))).symm)⟩
        have q112 : ¬ (2147483648 = 2147483648) := q112
        exfalso; omega
      have q110 : ¬ ((h 75 8) ≤ (h93 75 7)) := q110
      refine x_aload (np := 12) (x := 0) (by decide +kernel) rfl (x_nc_le (by decide)) ?_
      have q120 : h93 75 5 = 79 := by have z := jB (e := 5) 0 j95 rg_75_5_0_1 (by decide) (by decide); omega
      refine x_getR (np := 15) (x := 709) (f := 5) (q := 79) (by decide +kernel) (by decide) (by decide +kernel) q120 ?_
      refine x_aload (np := 16) (x := 0) (by decide +kernel) rfl (x_nc_le (by decide)) ?_
      refine x_getC (np := 19) (x := 711) (f := 7) (q := (h93 75 7)) (by decide +kernel) (by decide) (by decide +kernel) rfl (fun l121 => ?_)
      obtain ⟨u122, q123⟩ : ∃ z, (h93 75 7) = 2147483648 + z := ⟨(h93 75 7) - 2147483648, by omega⟩
      have q124 : h93 79 u122 = h4 79 u122 := jK u122 f94 rg_79_0_1_400 (by omega) (by omega) (by decide)
      have q125 : h4 79 u122 = h 79 u122 := jK u122 f6 rg_79_0_1_400 (by omega) (by omega) (by decide)
      have b126 := jB (e := u122) u122 hJ rg_79_0_1_400 (by omega) (by omega)
      refine x_baldC (np := 20) (x := 0) (n := 400) (i := u122) (q := (h 79 u122)) (by decide +kernel) (by decide +kernel) (by omega) (by omega) (by decide) (q124.trans q125) (fun l127 => ?_)
      refine x_iload (np := 21) (x := 1) (by decide +kernel) rfl (by decide) ?_
      refine x_icmp (k := 2) (tg := 41) (np := 24) (by decide +kernel) (by decide) l127 (by decide) (fun q128 => ?_) (fun q129 => ?_)
      · have q128 : (h 79 u122) < 2147483745 := q128
        refine x_const (np := 42) (x := 9223372039002259456) (a := 2147483648) (by decide +kernel) (by decide) (by decide) ?_
        refine x_retI (np := 43) (x := 0) (by decide +kernel) (by decide) (Or.inr ⟨by decide +kernel, by omega, by omega⟩) ⟨_, rfl, (by decide), ?_⟩
        refine x_ifz (k := 0) (tg := 28) (np := 15) (by decide +kernel) (by decide) (by decide) (fun q130 => ?_) (fun q131 => ?_)
        · have q130 : 2147483648 = 2147483648 := q130
          have q132 : h93 75 9 = h4 75 9 := jK 0 f94 rg_75_9_0_1 (by omega) (by omega) (by decide)
          have q133 : h93 75 9 = h4 75 9 := jK 0 f94 rg_75_9_0_1 (by omega) (by omega) (by decide)
          have q134 : h93 75 8 = h4 75 8 := jK 0 f94 rg_75_8_0_1 (by omega) (by omega) (by decide)
          have q135 : h4 75 8 = h 75 8 := jK 0 f6 rg_75_8_0_1 (by omega) (by omega) (by decide)
          have m138 := Tq.fr hT f6 (by decide) (by decide)
          have m137 := Tq.fr m138 f94 (by decide) (by decide)
          have z136 := m137.1
          have q139 : h93 79 u122 = h4 79 u122 := jK u122 f94 rg_79_0_1_400 (by omega) (by omega) (by decide)
          have q140 : h4 79 u122 = h 79 u122 := jK u122 f6 rg_79_0_1_400 (by omega) (by omega) (by decide)
          have z141 := Tq.at (p := (h93 75 7)) (u := u122) m137 (by omega) (by omega)
          refine x_retV (np := 29) (x := 0) (by decide +kernel) (by decide +kernel) ⟨rfl, ?_⟩
          exact ⟨j95, f102, (by omega), (by omega), m99.1, ((m99.2.trans (le9_stop (fun z => by have z1 := z.1; have z2 := z.2.1; have z3 := z.2.2; omega))).symm)⟩
        have q131 : ¬ (2147483648 = 2147483648) := q131
        exfalso; omega
      have q129 : ¬ ((h 79 u122) < 2147483745) := q129
      refine x_aload (np := 25) (x := 0) (by decide +kernel) rfl (x_nc_le (by decide)) ?_
      have q142 : h93 75 5 = 79 := by have z := jB (e := 5) 0 j95 rg_75_5_0_1 (by decide) (by decide); omega
      refine x_getR (np := 28) (x := 709) (f := 5) (q := 79) (by decide +kernel) (by decide) (by decide +kernel) q142 ?_
      refine x_aload (np := 29) (x := 0) (by decide +kernel) rfl (x_nc_le (by decide)) ?_
      refine x_getC (np := 32) (x := 711) (f := 7) (q := (h93 75 7)) (by decide +kernel) (by decide) (by decide +kernel) rfl (fun l143 => ?_)
      have q144 : h93 79 u122 = h4 79 u122 := jK u122 f94 rg_79_0_1_400 (by omega) (by omega) (by decide)
      have q145 : h4 79 u122 = h 79 u122 := jK u122 f6 rg_79_0_1_400 (by omega) (by omega) (by decide)
      refine x_baldC (np := 33) (x := 0) (n := 400) (i := u122) (q := (h 79 u122)) (by decide +kernel) (by decide +kernel) (by omega) (by omega) (by decide) (q144.trans q145) (fun l146 => ?_)
      refine x_iload (np := 34) (x := 2) (by decide +kernel) rfl (by decide) ?_
      refine x_icmp (k := 4) (tg := 41) (np := 37) (by decide +kernel) (by decide) l127 (by decide) (fun q147 => ?_) (fun q148 => ?_)
      · have q147 : 2147483770 < (h 79 u122) := q147
        refine x_const (np := 42) (x := 9223372039002259456) (a := 2147483648) (by decide +kernel) (by decide) (by decide) ?_
        refine x_retI (np := 43) (x := 0) (by decide +kernel) (by decide) (Or.inr ⟨by decide +kernel, by omega, by omega⟩) ⟨_, rfl, (by decide), ?_⟩
        refine x_ifz (k := 0) (tg := 28) (np := 15) (by decide +kernel) (by decide) (by decide) (fun q149 => ?_) (fun q150 => ?_)
        · have q149 : 2147483648 = 2147483648 := q149
          have q151 : h93 75 9 = h4 75 9 := jK 0 f94 rg_75_9_0_1 (by omega) (by omega) (by decide)
          have q152 : h93 75 9 = h4 75 9 := jK 0 f94 rg_75_9_0_1 (by omega) (by omega) (by decide)
          have q153 : h93 75 8 = h4 75 8 := jK 0 f94 rg_75_8_0_1 (by omega) (by omega) (by decide)
          have q154 : h4 75 8 = h 75 8 := jK 0 f6 rg_75_8_0_1 (by omega) (by omega) (by decide)
          have m157 := Tq.fr hT f6 (by decide) (by decide)
          have m156 := Tq.fr m157 f94 (by decide) (by decide)
          have z155 := m156.1
          have q158 : h93 79 u122 = h4 79 u122 := jK u122 f94 rg_79_0_1_400 (by omega) (by omega) (by decide)
          have q159 : h4 79 u122 = h 79 u122 := jK u122 f6 rg_79_0_1_400 (by omega) (by omega) (by decide)
          have z160 := Tq.at (p := (h93 75 7)) (u := u122) m156 (by omega) (by omega)
          refine x_retV (np := 29) (x := 0) (by decide +kernel) (by decide +kernel) ⟨rfl, ?_⟩
          exact ⟨j95, f102, (by omega), (by omega), m99.1, ((m99.2.trans (le9_stop (fun z => by have z1 := z.1; have z2 := z.2.1; have z3 := z.2.2; omega))).symm)⟩
        have q150 : ¬ (2147483648 = 2147483648) := q150
        exfalso; omega
      have q148 : ¬ (2147483770 < (h 79 u122)) := q148
      refine x_const (np := 38) (x := 9223372043297226753) (a := 2147483649) (by decide +kernel) (by decide) (by decide) ?_
      refine x_goto (np := 41) (x := 42) (by decide +kernel) ?_
      refine x_retI (np := 43) (x := 0) (by decide +kernel) (by decide) (Or.inr ⟨by decide +kernel, by omega, by omega⟩) ⟨_, rfl, (by decide), ?_⟩
      refine x_ifz (k := 0) (tg := 28) (np := 15) (by decide +kernel) (by decide) (by decide) (fun q161 => ?_) (fun q162 => ?_)
      · have q161 : 2147483649 = 2147483648 := q161
        exfalso; omega
      have q162 : ¬ (2147483649 = 2147483648) := q162
      refine x_aload (np := 16) (x := 0) (by decide +kernel) rfl (x_nc_le (by decide)) ?_
      refine x_dup (np := 17) (x := 0) (by decide +kernel) (by have z := x_nc_le (k := 75) (by decide); unfold x_r; omega) ?_
      refine x_getC (np := 20) (x := 711) (f := 7) (q := (h93 75 7)) (by decide +kernel) (by decide) (by decide +kernel) rfl (fun l163 => ?_)
      refine x_const (np := 21) (x := 9223372043297226753) (a := 2147483649) (by decide +kernel) (by decide) (by decide) ?_
      refine x_iadd (np := 22) (x := 0) (v := (1 + (h93 75 7))) (by decide +kernel) l104 (by decide) (by omega) (by omega) ?_
      refine x_putI (np := 25) (x := 711) (f := 7) (by decide +kernel) (by decide +kernel) (by omega) (Or.inl (by decide)) ?_
      have j165 := jU (e := 7) (v := (1 + (h93 75 7))) 0 j95 rg_75_7_0_1 (by omega) (by omega) (by omega)
      have f167 := jF (e := 7) (v := (1 + (h93 75 7))) 0 f102 rg_75_7_0_1 (by omega) (by omega) (by decide)
      have f168 := jF (e := 7) (v := (1 + (h93 75 7))) 0 f94 rg_75_7_0_1 (by omega) (by omega) (by decide)
      generalize e166 : x_up h93 75 7 (1 + (h93 75 7)) = h164 at j165 f167 f168 ⊢
      refine x_goto (np := 28) (x := 4) (by decide +kernel) ?_
      have q169 : h164 75 7 = (1 + (h93 75 7)) := by rw [← e166]; exact x_up_at
      have q170 : h164 75 7 = (1 + (h93 75 7)) := by rw [← e166]; exact x_up_at
      have q171 : h164 75 9 = h93 75 9 := by rw [← e166]; exact x_up_i (by omega)
      have q172 : h93 75 9 = h4 75 9 := jK 0 f94 rg_75_9_0_1 (by omega) (by omega) (by decide)
      have q173 : h93 75 8 = h4 75 8 := jK 0 f94 rg_75_8_0_1 (by omega) (by omega) (by decide)
      have q174 : h4 75 8 = h 75 8 := jK 0 f6 rg_75_8_0_1 (by omega) (by omega) (by decide)
      have m177 := Tq.fr hT f6 (by decide) (by decide)
      have m176 := Tq.fr m177 f94 (by decide) (by decide)
      have z175 := m176.1
      have q178 : h93 79 u122 = h4 79 u122 := jK u122 f94 rg_79_0_1_400 (by omega) (by omega) (by decide)
      have q179 : h4 79 u122 = h 79 u122 := jK u122 f6 rg_79_0_1_400 (by omega) (by omega) (by decide)
      have z180 := Tq.at (p := (h93 75 7)) (u := u122) m176 (by omega) (by omega)
      have q181 : h164 75 7 = (1 + (h93 75 7)) := by rw [← e166]; exact x_up_at
      have q182 : h164 75 9 = h93 75 9 := by rw [← e166]; exact x_up_i (by omega)
      have q183 : h93 75 9 = h4 75 9 := jK 0 f94 rg_75_9_0_1 (by omega) (by omega) (by decide)
      have q184 : h93 75 9 = h4 75 9 := jK 0 f94 rg_75_9_0_1 (by omega) (by omega) (by decide)
      exact i101  h164 (by omega) (by omega) (by omega) j165 f168 ⟨(show h164 75 9 = h93 75 9 by omega).trans m99.1, (congrArg (le9 tB tN) (show h164 75 9 = h93 75 9 by omega)).trans (m99.2.trans ((le9_step ⟨by omega, by omega, by omega⟩).trans (congrArg (le9 tB tN) (show h93 75 7 + 1 = h164 75 7 by omega))))⟩
  exact p96 _  h4 (Nat.lt_succ_self _) (by omega) (by omega) j5 (Fr.refl _ _) ⟨(show h4 75 9 = h4 75 7 by omega).trans c11, congrArg (le9 tB tN) (show h4 75 9 = h4 75 7 by omega)⟩
set_option maxHeartbeats 0 in
/-- LentNamesModel.isWord(Ljava/lang/String;)Z -/
theorem c170_75_S0n {sc : Nat × Nat} {d ia1 : Nat} {h : xh} {tB : Nat → Nat} {tN : Nat} (hJ : J h) (hia1 : ia1 < 32) (hT : Tq tB tN h) : X sc 170 (d + 4) (xI fun r h' => h' = h ∧ (2147483648 ≤ r ∧ r ≤ 2147483649) ∧ (r = 2147483649 → h 75 7 = h 75 9 + iv_tl ia1) ∧ Is (Wm tB ia1 (h 75 9) (h 75 7)) r) 0 0 0 [x_r 75, x_b (ia1 + 1), 147573952589676412928, 147573952589676412928] [] h := by
  refine x_aload (np := 1) (x := 0) (by decide +kernel) rfl (x_nc_le (by decide)) ?_
  have b1 := jB (e := 7) 0 hJ rg_75_7_0_1 (by omega) (by omega)
  refine x_getC (np := 4) (x := 711) (f := 7) (q := (h 75 7)) (by decide +kernel) (by decide) (by decide +kernel) rfl (fun l2 => ?_)
  refine x_aload (np := 5) (x := 0) (by decide +kernel) rfl (x_nc_le (by decide)) ?_
  have b3 := jB (e := 9) 0 hJ rg_75_9_0_1 (by omega) (by omega)
  refine x_getC (np := 8) (x := 713) (f := 9) (q := (h 75 9)) (by decide +kernel) (by decide) (by decide +kernel) rfl (fun l4 => ?_)
  obtain ⟨v5, q6⟩ : ∃ z, z + (h 75 9) = (h 75 7) + 2147483648 := ⟨(h 75 7) + 2147483648 - (h 75 9), by omega⟩
  refine x_isub (np := 9) (x := 0) (v := v5) (by decide +kernel) l2 l4 (by omega) (by omega) ?_
  refine x_aloadB (i := ia1) (k4 := 1) rfl hia1 (by rw [tb_b170]; decide +kernel) ?_
  have b7 := (iv_tl_lt ia1 hia1).1
  have b8 := iv_tl_ge ia1 hia1
  refine x_len (by decide +kernel) (by rw [tb_y170]; exact sl_Ml) hia1 (by rw [tb_b170]; decide +kernel) (Nat.le_trans (x_wi (by omega) x_wn) (by decide)) ?_
  refine x_icmp (k := 1) (tg := 20) (np := 16) (by decide +kernel) (by decide) (by omega) (by omega) (fun q9 => ?_) (fun q10 => ?_)
  · have q9 : v5 ≠ (2147483648 + (iv_tl ia1)) := q9
    refine x_const (np := 21) (x := 9223372039002259456) (a := 2147483648) (by decide +kernel) (by decide) (by decide) ?_
    refine x_istore (np := 22) (x := 2) (lo' := [x_r 75, x_b (ia1 + 1), iv_c 2147483648, 147573952589676412928]) (by decide +kernel) (by decide) (Nat.le_of_ble_eq_true rfl) rfl ?_
    refine x_const (np := 23) (x := 9223372039002259456) (a := 2147483648) (by decide +kernel) (by decide) (by decide) ?_
    refine x_istore (np := 24) (x := 3) (lo' := [x_r 75, x_b (ia1 + 1), iv_c 2147483648, iv_c 2147483648]) (by decide +kernel) (by decide) (Nat.le_of_ble_eq_true rfl) rfl ?_
    have p21 : ∀ (n : Nat) (v17 : Nat) (v19 : Nat), 0 < n → (2147483648 ≤ v17 ∧ v17 ≤ 2147483648) → (2147483648 ≤ v19 ∧ v19 ≤ 2147483648) → Wi tB ia1 (h 75 9) (h 75 7) v17 v19 → X sc 170 (d + 4) (xI fun r h' => h' = h ∧ (2147483648 ≤ r ∧ r ≤ 2147483649) ∧ (r = 2147483649 → h 75 7 = h 75 9 + iv_tl ia1) ∧ Is (Wm tB ia1 (h 75 9) (h 75 7)) r) 0 0 24 [x_r 75, x_b (ia1 + 1), iv_c v17, iv_c v19] [] h := by
      intro n
      induction n with
      | zero => intro v17 v19 q23; exact absurd q23 (Nat.not_lt_zero _)
      | succ n i24 =>
        intro v17 v19 q23 b18 b20 m22
        refine x_iload (np := 25) (x := 2) (by decide +kernel) rfl (by omega) ?_
        refine x_ifz (k := 0) (tg := 67) (np := 28) (by decide +kernel) (by decide) (by omega) (fun q25 => ?_) (fun q26 => ?_)
        · have q25 : v17 = 2147483648 := q25
          refine x_iload (np := 68) (x := 2) (by decide +kernel) rfl (by omega) ?_
          have b27 := iv_tl_ge ia1 hia1
          refine x_retI (np := 69) (x := 0) (by decide +kernel) (by omega) (Or.inr ⟨by decide +kernel, by omega, by omega⟩) ⟨_, rfl, (by omega), ?_⟩
          exact ⟨rfl, (by omega), (fun z => by omega), (Wi.is m22 (by omega) (by omega))⟩
        have q26 : ¬ (v17 = 2147483648) := q26
        exfalso; omega
    exact p21 _ 2147483648 2147483648 (Nat.lt_succ_self _) (by omega) (by omega) (Wi.in0 (by omega) (by omega))
  have q10 : ¬ (v5 ≠ (2147483648 + (iv_tl ia1))) := q10
  refine x_const (np := 17) (x := 9223372043297226753) (a := 2147483649) (by decide +kernel) (by decide) (by decide) ?_
  refine x_goto (np := 20) (x := 21) (by decide +kernel) ?_
  refine x_istore (np := 22) (x := 2) (lo' := [x_r 75, x_b (ia1 + 1), iv_c 2147483649, 147573952589676412928]) (by decide +kernel) (by decide) (Nat.le_of_ble_eq_true rfl) rfl ?_
  refine x_const (np := 23) (x := 9223372039002259456) (a := 2147483648) (by decide +kernel) (by decide) (by decide) ?_
  refine x_istore (np := 24) (x := 3) (lo' := [x_r 75, x_b (ia1 + 1), iv_c 2147483649, iv_c 2147483648]) (by decide +kernel) (by decide) (Nat.le_of_ble_eq_true rfl) rfl ?_
  have p354 : ∀ (n : Nat) (v350 : Nat) (v352 : Nat), 4294967296 - v352 < n → (2147483648 ≤ v350 ∧ v350 ≤ 2147483649) → (2147483648 ≤ v352 ∧ v352 ≤ 2147483667) → Wi tB ia1 (h 75 9) (h 75 7) v350 v352 → X sc 170 (d + 4) (xI fun r h' => h' = h ∧ (2147483648 ≤ r ∧ r ≤ 2147483649) ∧ (r = 2147483649 → h 75 7 = h 75 9 + iv_tl ia1) ∧ Is (Wm tB ia1 (h 75 9) (h 75 7)) r) 0 0 24 [x_r 75, x_b (ia1 + 1), iv_c v350, iv_c v352] [] h := by
    intro n
    induction n with
    | zero => intro v350 v352 q356; exact absurd q356 (Nat.not_lt_zero _)
    | succ n i357 =>
      intro v350 v352 q356 b351 b353 m355
      refine x_iload (np := 25) (x := 2) (by decide +kernel) rfl (by omega) ?_
      refine x_ifz (k := 0) (tg := 67) (np := 28) (by decide +kernel) (by decide) (by omega) (fun q358 => ?_) (fun q359 => ?_)
      · have q358 : v350 = 2147483648 := q358
        refine x_iload (np := 68) (x := 2) (by decide +kernel) rfl (by omega) ?_
        have b360 := iv_tl_ge ia1 hia1
        refine x_retI (np := 69) (x := 0) (by decide +kernel) (by omega) (Or.inr ⟨by decide +kernel, by omega, by omega⟩) ⟨_, rfl, (by omega), ?_⟩
        exact ⟨rfl, (by omega), (fun z => by omega), (Wi.is m355 (by omega) (by omega))⟩
      have q359 : ¬ (v350 = 2147483648) := q359
      refine x_iload (np := 29) (x := 3) (by decide +kernel) rfl (by omega) ?_
      refine x_aloadB (i := ia1) (k4 := 1) rfl hia1 (by rw [tb_b170]; decide +kernel) ?_
      have b361 := (iv_tl_lt ia1 hia1).1
      have b362 := iv_tl_ge ia1 hia1
      refine x_len (by decide +kernel) (by rw [tb_y170]; exact sl_Ml) hia1 (by rw [tb_b170]; decide +kernel) (Nat.le_trans (x_wi (by omega) x_wn) (by decide)) ?_
      refine x_icmp (k := 3) (tg := 67) (np := 36) (by decide +kernel) (by decide) (by omega) (by omega) (fun q363 => ?_) (fun q364 => ?_)
      · have q363 : (2147483648 + (iv_tl ia1)) ≤ v352 := q363
        refine x_iload (np := 68) (x := 2) (by decide +kernel) rfl (by omega) ?_
        have b365 := iv_tl_ge ia1 hia1
        refine x_retI (np := 69) (x := 0) (by decide +kernel) (by omega) (Or.inr ⟨by decide +kernel, by omega, by omega⟩) ⟨_, rfl, (by omega), ?_⟩
        exact ⟨rfl, (by omega), (fun z => by omega), (Wi.is m355 (by omega) (by omega))⟩
      have q364 : ¬ ((2147483648 + (iv_tl ia1)) ≤ v352) := q364
      refine x_aload (np := 37) (x := 0) (by decide +kernel) rfl (x_nc_le (by decide)) ?_
      have q366 : h 75 5 = 79 := by have z := jB (e := 5) 0 hJ rg_75_5_0_1 (by decide) (by decide); omega
      refine x_getR (np := 40) (x := 709) (f := 5) (q := 79) (by decide +kernel) (by decide) (by decide +kernel) q366 ?_
      refine x_aload (np := 41) (x := 0) (by decide +kernel) rfl (x_nc_le (by decide)) ?_
      refine x_getC (np := 44) (x := 713) (f := 9) (q := (h 75 9)) (by decide +kernel) (by decide) (by decide +kernel) rfl (fun l367 => ?_)
      refine x_iload (np := 45) (x := 3) (by decide +kernel) rfl (by omega) ?_
      obtain ⟨v368, q369⟩ : ∃ z, z + 2147483648 = (h 75 9) + v352 := ⟨(h 75 9) + v352 - 2147483648, by omega⟩
      refine x_iadd (np := 46) (x := 0) (v := v368) (by decide +kernel) l4 (by omega) (by omega) (by omega) ?_
      obtain ⟨u370, q371⟩ : ∃ z, v368 = 2147483648 + z := ⟨v368 - 2147483648, by omega⟩
      have b372 := jB (e := u370) u370 hJ rg_79_0_1_400 (by omega) (by omega)
      refine x_baldC (np := 47) (x := 0) (n := 400) (i := u370) (q := (h 79 u370)) (by decide +kernel) (by decide +kernel) (by omega) (by omega) (by decide) rfl (fun l373 => ?_)
      refine x_aloadB (i := ia1) (k4 := 1) rfl hia1 (by rw [tb_b170]; decide +kernel) ?_
      refine x_iload (np := 49) (x := 3) (by decide +kernel) rfl (by omega) ?_
      obtain ⟨u375, q376⟩ : ∃ z, v352 = 2147483648 + z := ⟨v352 - 2147483648, by omega⟩
      have b374 := (iv_tl_lt ia1 hia1).2 u375 (by omega)
      refine x_chr (j := u375) (by decide +kernel) (by rw [tb_y170]; exact sl_Mc) hia1 (by omega) (by omega) (by rw [tb_b170]; decide +kernel) (Nat.le_trans (x_wi l373 x_wn) (by decide)) ?_
      refine x_icmp (k := 1) (tg := 59) (np := 55) (by decide +kernel) (by decide) l373 (by omega) (fun q377 => ?_) (fun q378 => ?_)
      · have q377 : (h 79 u370) ≠ (2147483648 + (iv_tc ia1 u375)) := q377
        refine x_const (np := 60) (x := 9223372039002259456) (a := 2147483648) (by decide +kernel) (by decide) (by decide) ?_
        refine x_istore (np := 61) (x := 2) (lo' := [x_r 75, x_b (ia1 + 1), iv_c 2147483648, iv_c v352]) (by decide +kernel) (by decide) (Nat.le_of_ble_eq_true rfl) rfl ?_
        refine x_iinc (np := 64) (i := 3) (j := 2147483649) (v := (1 + v352)) (lo' := [x_r 75, x_b (ia1 + 1), iv_c 2147483648, iv_c (1 + v352)]) (by decide +kernel) (by decide) (by decide) rfl (by omega) (by omega) (by omega) rfl ?_
        refine x_goto (np := 67) (x := 24) (by decide +kernel) ?_
        have z379 := Tq.at (p := (h 75 9 + u375)) (u := u370) hT (by omega) (by omega)
        exact i357 2147483648 (1 + v352) (by omega) (by omega) (by omega) (Wi.st0 (x := u375) (by omega) (by omega) (by omega))
      have q378 : ¬ ((h 79 u370) ≠ (2147483648 + (iv_tc ia1 u375))) := q378
      refine x_const (np := 56) (x := 9223372043297226753) (a := 2147483649) (by decide +kernel) (by decide) (by decide) ?_
      refine x_goto (np := 59) (x := 60) (by decide +kernel) ?_
      refine x_istore (np := 61) (x := 2) (lo' := [x_r 75, x_b (ia1 + 1), iv_c 2147483649, iv_c v352]) (by decide +kernel) (by decide) (Nat.le_of_ble_eq_true rfl) rfl ?_
      refine x_iinc (np := 64) (i := 3) (j := 2147483649) (v := (1 + v352)) (lo' := [x_r 75, x_b (ia1 + 1), iv_c 2147483649, iv_c (1 + v352)]) (by decide +kernel) (by decide) (by decide) rfl (by omega) (by omega) (by omega) rfl ?_
      refine x_goto (np := 67) (x := 24) (by decide +kernel) ?_
      have z380 := Tq.at (p := (h 75 9 + u375)) (u := u370) hT (by omega) (by omega)
      exact i357 2147483649 (1 + v352) (by omega) (by omega) (by omega) (Wi.st1 (x := u375) m355 (by omega) (by omega) (by omega) (by omega) (by omega))
  exact p354 _ 2147483649 2147483648 (Nat.lt_succ_self _) (by omega) (by omega) (Wi.in1 (by omega) (by omega) (by omega))
set_option maxHeartbeats 0 in
/-- LentNamesModel.passes(Ljava/lang/String;)Z -/
theorem c171_75_S0n {sc : Nat × Nat} {d ia1 : Nat} {h : xh} {tB : Nat → Nat} {tN : Nat} (hJ : J h) (hia1 : ia1 < 32) (hT : Tq tB tN h) : X sc 171 (d + 5) (xI fun r h' => J h' ∧ Fr 5242881 h h' ∧ (2147483648 ≤ r ∧ r ≤ 2147483649) ∧ (h 75 7 + 0 ≤ h' 75 7) ∧ (r = 2147483649 → h 75 7 + 2 ≤ h' 75 7) ∧ Tk (Wd tB tN ia1 (sk tB tN (h 75 7))) tB tN (sk tB tN (h 75 7)) (iv_tl ia1) r (sk tB tN (h' 75 7))) 0 0 0 [x_r 75, x_b (ia1 + 1)] [] h := by
  have hF := Fr.refl 5242881 h
  refine x_aload (np := 1) (x := 0) (by decide +kernel) rfl (x_nc_le (by decide)) ?_
  refine x_cV (t := 6) (mj := 169) (n := 1) (rc := 12) (ml := 1) (nr := 0) (np := 4) (as := [x_r 75]) (rest := []) (lo1 := [x_r 75]) (by decide +kernel) (by decide) (by decide +kernel) (x_rb_of (by decide +kernel)) rfl rfl (x_wr (by decide) x_wn) x_wn (by decide) rfl (c169_75n hJ  hT) (fun h4 q3 => ?_)
  obtain ⟨j5, f6, c9, c10, c11, c12⟩ := q3
  have f13 := Fr.trans hF f6 (by decide)
  have b14 := jB (e := 7) 0 hJ rg_75_7_0_1 (by omega) (by omega)
  have b15 := jB (e := 9) 0 j5 rg_75_9_0_1 (by omega) (by omega)
  have b16 := jB (e := 7) 0 j5 rg_75_7_0_1 (by omega) (by omega)
  refine x_aload (np := 5) (x := 0) (by decide +kernel) rfl (x_nc_le (by decide)) ?_
  refine x_aloadB (i := ia1) (k4 := 1) rfl hia1 (by rw [tb_b171]; decide +kernel) ?_
  have m20 := Tq.fr hT f6 (by decide) (by decide)
  refine x_cP (t := 6) (mj := 170) (n := 2) (rc := 12) (ml := 4) (nr := 0) (np := 9) (as := [x_r 75, x_b (ia1 + 1)]) (rest := []) (lo1 := [x_r 75, x_b (ia1 + 1), 147573952589676412928, 147573952589676412928]) (by decide +kernel) (by decide) (by decide +kernel) (x_rb_of (by decide +kernel)) rfl rfl (x_wr (by decide) (x_wB hia1 x_wn)) x_wn (by decide) rfl (c170_75_S0n j5  hia1 m20) (fun v17 l18 q19 => ?_)
  obtain ⟨b23, c21, c22⟩ := q19
  have b24 := iv_tl_ge ia1 hia1
  refine x_ifz (k := 0) (tg := 14) (np := 12) (by decide +kernel) (by decide) l18 (fun q25 => ?_) (fun q26 => ?_)
  · have q25 : v17 = 2147483648 := q25
    refine x_aload (np := 15) (x := 0) (by decide +kernel) rfl (x_nc_le (by decide)) ?_
    refine x_aload (np := 16) (x := 0) (by decide +kernel) rfl (x_nc_le (by decide)) ?_
    refine x_getC (np := 19) (x := 713) (f := 9) (q := (h4 75 9)) (by decide +kernel) (by decide) (by decide +kernel) rfl (fun l27 => ?_)
    refine x_putI (np := 22) (x := 711) (f := 7) (by decide +kernel) (by decide +kernel) l27 (Or.inl (by decide)) ?_
    have j29 := jU (e := 7) (v := (h4 75 9)) 0 j5 rg_75_7_0_1 (by omega) (by omega) (by omega)
    have f31 := jF (e := 7) (v := (h4 75 9)) 0 f13 rg_75_7_0_1 (by omega) (by omega) (by decide)
    generalize e30 : x_up h4 75 7 (h4 75 9) = h28 at j29 f31 ⊢
    refine x_const (np := 23) (x := 9223372039002259456) (a := 2147483648) (by decide +kernel) (by decide) (by decide) ?_
    have q32 : h28 75 7 = (h4 75 9) := by rw [← e30]; exact x_up_at
    have q33 : h28 75 7 = (h4 75 9) := by rw [← e30]; exact x_up_at
    have q34 : h28 75 7 = (h4 75 9) := by rw [← e30]; exact x_up_at
    refine x_retI (np := 24) (x := 0) (by decide +kernel) (by decide) (Or.inr ⟨by decide +kernel, by omega, by omega⟩) ⟨_, rfl, (by decide), ?_⟩
    exact ⟨j29, f31, (by omega), (by omega), (fun z => by omega), (ps0 c11 c12 c22 (by omega) hia1 (by omega) (by omega))⟩
  have q26 : ¬ (v17 = 2147483648) := q26
  have b35 := c21 (by omega)
  refine x_const (np := 13) (x := 9223372043297226753) (a := 2147483649) (by decide +kernel) (by decide) (by decide) ?_
  refine x_retI (np := 14) (x := 0) (by decide +kernel) (by decide) (Or.inr ⟨by decide +kernel, by omega, by omega⟩) ⟨_, rfl, (by decide), ?_⟩
  exact ⟨j5, f13, (by omega), (by omega), (fun z => by omega), (ps1 c11 c12 c22 (by omega) hia1 (by omega))⟩
set_option maxHeartbeats 0 in
/-- LentNamesModel.sign(I)Z -/
theorem c173_75n {sc : Nat × Nat} {d a1 : Nat} {h : xh} {tB : Nat → Nat} {tN : Nat} (hJ : J h) (ba1 : 2147483648 ≤ a1 ∧ a1 ≤ 2147483775) (hT : Tq tB tN h) : X sc 173 (d + 2) (xI fun r h' => J h' ∧ Fr 5242881 h h' ∧ (2147483648 ≤ r ∧ r ≤ 2147483649) ∧ (h 75 7 + 0 ≤ h' 75 7) ∧ (r = 2147483649 → h 75 7 + 1 ≤ h' 75 7) ∧ Tk (Sg tB tN a1 (sk tB tN (h 75 7))) tB tN (sk tB tN (h 75 7)) 1 r (sk tB tN (h' 75 7))) 0 0 0 [x_r 75, iv_c a1] [] h := by
  have la1 : a1 < 4294967296 := by omega
  have hF := Fr.refl 5242881 h
  refine x_aload (np := 1) (x := 0) (by decide +kernel) rfl (x_nc_le (by decide)) ?_
  refine x_cV (t := 6) (mj := 168) (n := 1) (rc := 12) (ml := 1) (nr := 0) (np := 4) (as := [x_r 75]) (rest := []) (lo1 := [x_r 75]) (by decide +kernel) (by decide) (by decide +kernel) (x_rb_of (by decide +kernel)) rfl rfl (x_wr (by decide) x_wn) x_wn (by decide) rfl (c168_75n hJ  hT) (fun h4 q3 => ?_)
  obtain ⟨j5, f6, c9, c10, c11⟩ := q3
  have f12 := Fr.trans hF f6 (by decide)
  have b13 := jB (e := 7) 0 hJ rg_75_7_0_1 (by omega) (by omega)
  have b14 := jB (e := 7) 0 j5 rg_75_7_0_1 (by omega) (by omega)
  have b15 := jB (e := 9) 0 j5 rg_75_9_0_1 (by omega) (by omega)
  refine x_aload (np := 5) (x := 0) (by decide +kernel) rfl (x_nc_le (by decide)) ?_
  refine x_iload (np := 6) (x := 1) (by decide +kernel) rfl la1 ?_
  refine x_iload (np := 7) (x := 1) (by decide +kernel) rfl la1 ?_
  refine x_nI (t := 6) (mj := 167) (n := 3) (rc := 12) (ml := 3) (nr := 0) (np := 10) (as := [x_r 75, iv_c a1, iv_c a1]) (rest := []) (lo1 := [x_r 75, iv_c a1, iv_c a1]) (by decide +kernel) (by decide) (by decide +kernel) (x_rb_of (by decide +kernel)) rfl rfl (x_wr (by decide) (x_wi la1 (x_wi la1 x_wn))) x_wn (by decide) rfl ?_
  refine x_aload (np := 1) (x := 0) (by decide +kernel) rfl (x_nc_le (by decide)) ?_
  refine x_getC (np := 4) (x := 711) (f := 7) (q := (h4 75 7)) (by decide +kernel) (by decide) (by decide +kernel) rfl (fun l16 => ?_)
  refine x_aload (np := 5) (x := 0) (by decide +kernel) rfl (x_nc_le (by decide)) ?_
  have q17 : h4 75 8 = h 75 8 := jK 0 f6 rg_75_8_0_1 (by omega) (by omega) (by decide)
  have b18 := jB (e := 8) 0 hJ rg_75_8_0_1 (by omega) (by omega)
  refine x_getC (np := 8) (x := 712) (f := 8) (q := (h 75 8)) (by decide +kernel) (by decide) (by decide +kernel) q17 (fun l19 => ?_)
  refine x_icmp (k := 3) (tg := 41) (np := 11) (by decide +kernel) (by decide) l16 l19 (fun q20 => ?_) (fun q21 => ?_)
  · have q20 : (h 75 8) ≤ (h4 75 7) := q20
    refine x_const (np := 42) (x := 9223372039002259456) (a := 2147483648) (by decide +kernel) (by decide) (by decide) ?_
    refine x_retI (np := 43) (x := 0) (by decide +kernel) (by decide) (Or.inr ⟨by decide +kernel, by omega, by omega⟩) ⟨_, rfl, (by decide), ?_⟩
    refine x_ifz (k := 1) (tg := 15) (np := 13) (by decide +kernel) (by decide) (by decide) (fun q22 => ?_) (fun q23 => ?_)
    · have q22 : 2147483648 ≠ 2147483648 := q22
      exfalso; omega
    have q23 : ¬ (2147483648 ≠ 2147483648) := q23
    refine x_const (np := 14) (x := 9223372039002259456) (a := 2147483648) (by decide +kernel) (by decide) (by decide) ?_
    have q24 : h4 75 8 = h 75 8 := jK 0 f6 rg_75_8_0_1 (by omega) (by omega) (by decide)
    have m26 := Tq.fr hT f6 (by decide) (by decide)
    have z25 := m26.1
    refine x_retI (np := 15) (x := 0) (by decide +kernel) (by decide) (Or.inr ⟨by decide +kernel, by omega, by omega⟩) ⟨_, rfl, (by decide), ?_⟩
    exact ⟨j5, f12, (by omega), (by omega), (fun z => by omega), (sg0 c11 (fun z => by have z1 := z.1; have z2 := z.2; omega) (by omega) (by omega))⟩
  have q21 : ¬ ((h 75 8) ≤ (h4 75 7)) := q21
  refine x_aload (np := 12) (x := 0) (by decide +kernel) rfl (x_nc_le (by decide)) ?_
  have q27 : h4 75 5 = 79 := by have z := jB (e := 5) 0 j5 rg_75_5_0_1 (by decide) (by decide); omega
  refine x_getR (np := 15) (x := 709) (f := 5) (q := 79) (by decide +kernel) (by decide) (by decide +kernel) q27 ?_
  refine x_aload (np := 16) (x := 0) (by decide +kernel) rfl (x_nc_le (by decide)) ?_
  refine x_getC (np := 19) (x := 711) (f := 7) (q := (h4 75 7)) (by decide +kernel) (by decide) (by decide +kernel) rfl (fun l28 => ?_)
  obtain ⟨u29, q30⟩ : ∃ z, (h4 75 7) = 2147483648 + z := ⟨(h4 75 7) - 2147483648, by omega⟩
  have q31 : h4 79 u29 = h 79 u29 := jK u29 f6 rg_79_0_1_400 (by omega) (by omega) (by decide)
  have b32 := jB (e := u29) u29 hJ rg_79_0_1_400 (by omega) (by omega)
  refine x_baldC (np := 20) (x := 0) (n := 400) (i := u29) (q := (h 79 u29)) (by decide +kernel) (by decide +kernel) (by omega) (by omega) (by decide) q31 (fun l33 => ?_)
  refine x_iload (np := 21) (x := 1) (by decide +kernel) rfl la1 ?_
  refine x_icmp (k := 2) (tg := 41) (np := 24) (by decide +kernel) (by decide) l33 la1 (fun q34 => ?_) (fun q35 => ?_)
  · have q34 : (h 79 u29) < a1 := q34
    refine x_const (np := 42) (x := 9223372039002259456) (a := 2147483648) (by decide +kernel) (by decide) (by decide) ?_
    refine x_retI (np := 43) (x := 0) (by decide +kernel) (by decide) (Or.inr ⟨by decide +kernel, by omega, by omega⟩) ⟨_, rfl, (by decide), ?_⟩
    refine x_ifz (k := 1) (tg := 15) (np := 13) (by decide +kernel) (by decide) (by decide) (fun q36 => ?_) (fun q37 => ?_)
    · have q36 : 2147483648 ≠ 2147483648 := q36
      exfalso; omega
    have q37 : ¬ (2147483648 ≠ 2147483648) := q37
    refine x_const (np := 14) (x := 9223372039002259456) (a := 2147483648) (by decide +kernel) (by decide) (by decide) ?_
    have q38 : h4 75 8 = h 75 8 := jK 0 f6 rg_75_8_0_1 (by omega) (by omega) (by decide)
    have m40 := Tq.fr hT f6 (by decide) (by decide)
    have z39 := m40.1
    have q41 : h4 79 u29 = h 79 u29 := jK u29 f6 rg_79_0_1_400 (by omega) (by omega) (by decide)
    have z42 := Tq.at (p := (h4 75 7)) (u := u29) m40 (by omega) (by omega)
    refine x_retI (np := 15) (x := 0) (by decide +kernel) (by decide) (Or.inr ⟨by decide +kernel, by omega, by omega⟩) ⟨_, rfl, (by decide), ?_⟩
    exact ⟨j5, f12, (by omega), (by omega), (fun z => by omega), (sg0 c11 (fun z => by have z1 := z.1; have z2 := z.2; omega) (by omega) (by omega))⟩
  have q35 : ¬ ((h 79 u29) < a1) := q35
  refine x_aload (np := 25) (x := 0) (by decide +kernel) rfl (x_nc_le (by decide)) ?_
  have q43 : h4 75 5 = 79 := by have z := jB (e := 5) 0 j5 rg_75_5_0_1 (by decide) (by decide); omega
  refine x_getR (np := 28) (x := 709) (f := 5) (q := 79) (by decide +kernel) (by decide) (by decide +kernel) q43 ?_
  refine x_aload (np := 29) (x := 0) (by decide +kernel) rfl (x_nc_le (by decide)) ?_
  refine x_getC (np := 32) (x := 711) (f := 7) (q := (h4 75 7)) (by decide +kernel) (by decide) (by decide +kernel) rfl (fun l44 => ?_)
  have q45 : h4 79 u29 = h 79 u29 := jK u29 f6 rg_79_0_1_400 (by omega) (by omega) (by decide)
  refine x_baldC (np := 33) (x := 0) (n := 400) (i := u29) (q := (h 79 u29)) (by decide +kernel) (by decide +kernel) (by omega) (by omega) (by decide) q45 (fun l46 => ?_)
  refine x_iload (np := 34) (x := 2) (by decide +kernel) rfl la1 ?_
  refine x_icmp (k := 4) (tg := 41) (np := 37) (by decide +kernel) (by decide) l33 la1 (fun q47 => ?_) (fun q48 => ?_)
  · have q47 : a1 < (h 79 u29) := q47
    refine x_const (np := 42) (x := 9223372039002259456) (a := 2147483648) (by decide +kernel) (by decide) (by decide) ?_
    refine x_retI (np := 43) (x := 0) (by decide +kernel) (by decide) (Or.inr ⟨by decide +kernel, by omega, by omega⟩) ⟨_, rfl, (by decide), ?_⟩
    refine x_ifz (k := 1) (tg := 15) (np := 13) (by decide +kernel) (by decide) (by decide) (fun q49 => ?_) (fun q50 => ?_)
    · have q49 : 2147483648 ≠ 2147483648 := q49
      exfalso; omega
    have q50 : ¬ (2147483648 ≠ 2147483648) := q50
    refine x_const (np := 14) (x := 9223372039002259456) (a := 2147483648) (by decide +kernel) (by decide) (by decide) ?_
    have q51 : h4 75 8 = h 75 8 := jK 0 f6 rg_75_8_0_1 (by omega) (by omega) (by decide)
    have m53 := Tq.fr hT f6 (by decide) (by decide)
    have z52 := m53.1
    have q54 : h4 79 u29 = h 79 u29 := jK u29 f6 rg_79_0_1_400 (by omega) (by omega) (by decide)
    have z55 := Tq.at (p := (h4 75 7)) (u := u29) m53 (by omega) (by omega)
    refine x_retI (np := 15) (x := 0) (by decide +kernel) (by decide) (Or.inr ⟨by decide +kernel, by omega, by omega⟩) ⟨_, rfl, (by decide), ?_⟩
    exact ⟨j5, f12, (by omega), (by omega), (fun z => by omega), (sg0 c11 (fun z => by have z1 := z.1; have z2 := z.2; omega) (by omega) (by omega))⟩
  have q48 : ¬ (a1 < (h 79 u29)) := q48
  refine x_const (np := 38) (x := 9223372043297226753) (a := 2147483649) (by decide +kernel) (by decide) (by decide) ?_
  refine x_goto (np := 41) (x := 42) (by decide +kernel) ?_
  refine x_retI (np := 43) (x := 0) (by decide +kernel) (by decide) (Or.inr ⟨by decide +kernel, by omega, by omega⟩) ⟨_, rfl, (by decide), ?_⟩
  refine x_ifz (k := 1) (tg := 15) (np := 13) (by decide +kernel) (by decide) (by decide) (fun q56 => ?_) (fun q57 => ?_)
  · have q56 : 2147483649 ≠ 2147483648 := q56
    refine x_aload (np := 16) (x := 0) (by decide +kernel) rfl (x_nc_le (by decide)) ?_
    refine x_dup (np := 17) (x := 0) (by decide +kernel) (by have z := x_nc_le (k := 75) (by decide); unfold x_r; omega) ?_
    refine x_getC (np := 20) (x := 711) (f := 7) (q := (h4 75 7)) (by decide +kernel) (by decide) (by decide +kernel) rfl (fun l58 => ?_)
    refine x_const (np := 21) (x := 9223372043297226753) (a := 2147483649) (by decide +kernel) (by decide) (by decide) ?_
    refine x_iadd (np := 22) (x := 0) (v := (1 + (h4 75 7))) (by decide +kernel) l16 (by decide) (by omega) (by omega) ?_
    refine x_putI (np := 25) (x := 711) (f := 7) (by decide +kernel) (by decide +kernel) (by omega) (Or.inl (by decide)) ?_
    have j60 := jU (e := 7) (v := (1 + (h4 75 7))) 0 j5 rg_75_7_0_1 (by omega) (by omega) (by omega)
    have f62 := jF (e := 7) (v := (1 + (h4 75 7))) 0 f12 rg_75_7_0_1 (by omega) (by omega) (by decide)
    generalize e61 : x_up h4 75 7 (1 + (h4 75 7)) = h59 at j60 f62 ⊢
    refine x_const (np := 26) (x := 9223372043297226753) (a := 2147483649) (by decide +kernel) (by decide) (by decide) ?_
    have q63 : h59 75 7 = (1 + (h4 75 7)) := by rw [← e61]; exact x_up_at
    have q64 : h59 75 7 = (1 + (h4 75 7)) := by rw [← e61]; exact x_up_at
    have q65 : h59 75 7 = (1 + (h4 75 7)) := by rw [← e61]; exact x_up_at
    have q66 : h4 75 8 = h 75 8 := jK 0 f6 rg_75_8_0_1 (by omega) (by omega) (by decide)
    have m68 := Tq.fr hT f6 (by decide) (by decide)
    have z67 := m68.1
    have q69 : h4 79 u29 = h 79 u29 := jK u29 f6 rg_79_0_1_400 (by omega) (by omega) (by decide)
    have z70 := Tq.at (p := (h4 75 7)) (u := u29) m68 (by omega) (by omega)
    refine x_retI (np := 27) (x := 0) (by decide +kernel) (by decide) (Or.inr ⟨by decide +kernel, by omega, by omega⟩) ⟨_, rfl, (by decide), ?_⟩
    exact ⟨j60, f62, (by omega), (by omega), (fun z => by omega), (sg1 c11 ⟨by omega, by omega⟩ (by omega) (by omega))⟩
  have q57 : ¬ (2147483649 ≠ 2147483648) := q57
  exfalso; omega
set_option maxHeartbeats 0 in
/-- LentNamesModel.number(II)I -/
theorem c174_75n {sc : Nat × Nat} {d a1 a2 : Nat} {h : xh} {tB : Nat → Nat} {tN : Nat} (hJ : J h) (ba1 : 2147483648 ≤ a1 ∧ a1 ≤ 2147483648) (ba2 : 2147484479 ≤ a2 ∧ a2 ≤ 2147484769) (hT : Tq tB tN h) : X sc 174 (d + 2) (xI fun r h' => J h' ∧ Fr 5242881 h h' ∧ (2147483647 ≤ r ∧ r ≤ 2147484769) ∧ (h 75 7 + 0 ≤ h' 75 7) ∧ (2147483648 ≤ r → h 75 7 + 1 ≤ h' 75 7) ∧ (2147483648 ≤ r → r ≤ a2) ∧ (2147483648 ≤ r → a1 ≤ r) ∧ (2147483647 ≤ a2 → r ≤ a2) ∧ Nr tB tN a1 a2 (sk tB tN (h 75 7)) r (sk tB tN (h' 75 7))) 0 0 0 [x_r 75, iv_c a1, iv_c a2, 147573952589676412928] [] h := by
  have la1 : a1 < 4294967296 := by omega
  have la2 : a2 < 4294967296 := by omega
  have hF := Fr.refl 5242881 h
  refine x_aload (np := 1) (x := 0) (by decide +kernel) rfl (x_nc_le (by decide)) ?_
  refine x_cV (t := 6) (mj := 168) (n := 1) (rc := 12) (ml := 1) (nr := 0) (np := 4) (as := [x_r 75]) (rest := []) (lo1 := [x_r 75]) (by decide +kernel) (by decide) (by decide +kernel) (x_rb_of (by decide +kernel)) rfl rfl (x_wr (by decide) x_wn) x_wn (by decide) rfl (c168_75n hJ  hT) (fun h4 q3 => ?_)
  obtain ⟨j5, f6, c9, c10, c11⟩ := q3
  have f12 := Fr.trans hF f6 (by decide)
  have b13 := jB (e := 7) 0 hJ rg_75_7_0_1 (by omega) (by omega)
  have b14 := jB (e := 7) 0 j5 rg_75_7_0_1 (by omega) (by omega)
  have b15 := jB (e := 9) 0 j5 rg_75_9_0_1 (by omega) (by omega)
  refine x_const (np := 5) (x := 9223372039002259456) (a := 2147483648) (by decide +kernel) (by decide) (by decide) ?_
  refine x_istore (np := 6) (x := 3) (lo' := [x_r 75, iv_c a1, iv_c a2, iv_c 2147483648]) (by decide +kernel) (by decide) (Nat.le_of_ble_eq_true rfl) rfl ?_
  have p285 : ∀ (n : Nat) (v280 : Nat) (h282 : xh), 4294967296 - h282 75 7 < n → (2147483648 ≤ v280 ∧ v280 ≤ 2147484769) → h 75 7 ≤ h282 75 9 → h282 75 9 ≤ h282 75 7 → J h282 → Fr 1048576 h4 h282 → Ni tB tN (h282 75 9) (h282 75 7) v280 → X sc 174 (d + 2) (xI fun r h' => J h' ∧ Fr 5242881 h h' ∧ (2147483647 ≤ r ∧ r ≤ 2147484769) ∧ (h 75 7 + 0 ≤ h' 75 7) ∧ (2147483648 ≤ r → h 75 7 + 1 ≤ h' 75 7) ∧ (2147483648 ≤ r → r ≤ a2) ∧ (2147483648 ≤ r → a1 ≤ r) ∧ (2147483647 ≤ a2 → r ≤ a2) ∧ Nr tB tN a1 a2 (sk tB tN (h 75 7)) r (sk tB tN (h' 75 7))) 0 0 6 [x_r 75, iv_c a1, iv_c a2, iv_c v280] [] h282 := by
    intro n
    induction n with
    | zero => intro v280 h282 q289; exact absurd q289 (Nat.not_lt_zero _)
    | succ n i290 =>
      intro v280 h282 q289 b281 b286 b287 j284 f283 m288
      have f291 := Fr.trans f12 f283 (by decide)
      refine x_aload (np := 7) (x := 0) (by decide +kernel) rfl (x_nc_le (by decide)) ?_
      refine x_const (np := 9) (x := 9223372245160689712) (a := 2147483696) (by decide +kernel) (by decide) (by decide) ?_
      refine x_const (np := 11) (x := 9223372283815395385) (a := 2147483705) (by decide +kernel) (by decide) (by decide) ?_
      refine x_nI (t := 6) (mj := 167) (n := 3) (rc := 12) (ml := 3) (nr := 0) (np := 14) (as := [x_r 75, iv_c 2147483696, iv_c 2147483705]) (rest := []) (lo1 := [x_r 75, iv_c 2147483696, iv_c 2147483705]) (by decide +kernel) (by decide) (by decide +kernel) (x_rb_of (by decide +kernel)) rfl rfl (x_wr (by decide) (x_wi (by decide) (x_wi (by decide) x_wn))) x_wn (by decide) rfl ?_
      refine x_aload (np := 1) (x := 0) (by decide +kernel) rfl (x_nc_le (by decide)) ?_
      have b292 := jB (e := 7) 0 j284 rg_75_7_0_1 (by omega) (by omega)
      refine x_getC (np := 4) (x := 711) (f := 7) (q := (h282 75 7)) (by decide +kernel) (by decide) (by decide +kernel) rfl (fun l293 => ?_)
      refine x_aload (np := 5) (x := 0) (by decide +kernel) rfl (x_nc_le (by decide)) ?_
      have q294 : h282 75 8 = h4 75 8 := jK 0 f283 rg_75_8_0_1 (by omega) (by omega) (by decide)
      have q295 : h4 75 8 = h 75 8 := jK 0 f6 rg_75_8_0_1 (by omega) (by omega) (by decide)
      have b296 := jB (e := 8) 0 hJ rg_75_8_0_1 (by omega) (by omega)
      refine x_getC (np := 8) (x := 712) (f := 8) (q := (h 75 8)) (by decide +kernel) (by decide) (by decide +kernel) (q294.trans q295) (fun l297 => ?_)
      refine x_icmp (k := 3) (tg := 41) (np := 11) (by decide +kernel) (by decide) l293 l297 (fun q298 => ?_) (fun q299 => ?_)
      · have q298 : (h 75 8) ≤ (h282 75 7) := q298
        refine x_const (np := 42) (x := 9223372039002259456) (a := 2147483648) (by decide +kernel) (by decide) (by decide) ?_
        refine x_retI (np := 43) (x := 0) (by decide +kernel) (by decide) (Or.inr ⟨by decide +kernel, by omega, by omega⟩) ⟨_, rfl, (by decide), ?_⟩
        refine x_ifz (k := 0) (tg := 65) (np := 17) (by decide +kernel) (by decide) (by decide) (fun q300 => ?_) (fun q301 => ?_)
        · have q300 : 2147483648 = 2147483648 := q300
          refine x_aload (np := 66) (x := 0) (by decide +kernel) rfl (x_nc_le (by decide)) ?_
          refine x_getC (np := 69) (x := 711) (f := 7) (q := (h282 75 7)) (by decide +kernel) (by decide) (by decide +kernel) rfl (fun l302 => ?_)
          refine x_aload (np := 70) (x := 0) (by decide +kernel) rfl (x_nc_le (by decide)) ?_
          have q303 : h282 75 9 = h4 75 9 := jK 0 f283 rg_75_9_0_1 (by omega) (by omega) (by decide)
          refine x_getC (np := 73) (x := 713) (f := 9) (q := (h4 75 9)) (by decide +kernel) (by decide) (by decide +kernel) q303 (fun l304 => ?_)
          refine x_icmp (k := 0) (tg := 99) (np := 76) (by decide +kernel) (by decide) l293 l304 (fun q305 => ?_) (fun q306 => ?_)
          · have q305 : (h282 75 7) = (h4 75 9) := q305
            refine x_const (np := 100) (x := 9223372034707292159) (a := 2147483647) (by decide +kernel) (by decide) (by decide) ?_
            refine x_goto (np := 103) (x := 104) (by decide +kernel) ?_
            have q307 : h282 75 9 = h4 75 9 := jK 0 f283 rg_75_9_0_1 (by omega) (by omega) (by decide)
            have q308 : h282 75 8 = h4 75 8 := jK 0 f283 rg_75_8_0_1 (by omega) (by omega) (by decide)
            have q309 : h4 75 8 = h 75 8 := jK 0 f6 rg_75_8_0_1 (by omega) (by omega) (by decide)
            have m312 := Tq.fr hT f6 (by decide) (by decide)
            have m311 := Tq.fr m312 f283 (by decide) (by decide)
            have z310 := m311.1
            have e313 : h282 75 9 = sk tB tN (h 75 7) := (show h282 75 9 = h4 75 7 by omega).trans c11
            refine x_retI (np := 105) (x := 0) (by decide +kernel) (by decide) (Or.inl (by decide +kernel)) ⟨_, rfl, (by decide), ?_⟩
            exact ⟨j284, f291, (by omega), (by omega), (fun z => by omega), (fun z => by omega), (fun z => by omega), (fun z => by omega), (Nr.cast (Nr.nob (by omega) (Ni.nb0 m288 (by omega) (fun z => by have z1 := z.1; have z2 := z.2.1; have z3 := z.2.2; omega))) e313)⟩
          have q306 : ¬ ((h282 75 7) = (h4 75 9)) := q306
          refine x_aload (np := 77) (x := 0) (by decide +kernel) rfl (x_nc_le (by decide)) ?_
          refine x_getC (np := 80) (x := 711) (f := 7) (q := (h282 75 7)) (by decide +kernel) (by decide) (by decide +kernel) rfl (fun l314 => ?_)
          refine x_aload (np := 81) (x := 0) (by decide +kernel) rfl (x_nc_le (by decide)) ?_
          have q315 : h282 75 9 = h4 75 9 := jK 0 f283 rg_75_9_0_1 (by omega) (by omega) (by decide)
          refine x_getC (np := 84) (x := 713) (f := 9) (q := (h4 75 9)) (by decide +kernel) (by decide) (by decide +kernel) q315 (fun l316 => ?_)
          obtain ⟨v317, q318⟩ : ∃ z, z + (h4 75 9) = (h282 75 7) + 2147483648 := ⟨(h282 75 7) + 2147483648 - (h4 75 9), by omega⟩
          refine x_isub (np := 85) (x := 0) (v := v317) (by decide +kernel) l293 l304 (by omega) (by omega) ?_
          refine x_const (np := 86) (x := 9223372051887161347) (a := 2147483651) (by decide +kernel) (by decide) (by decide) ?_
          refine x_icmp (k := 4) (tg := 99) (np := 89) (by decide +kernel) (by decide) (by omega) (by decide) (fun q319 => ?_) (fun q320 => ?_)
          · have q319 : 2147483651 < v317 := q319
            refine x_const (np := 100) (x := 9223372034707292159) (a := 2147483647) (by decide +kernel) (by decide) (by decide) ?_
            refine x_goto (np := 103) (x := 104) (by decide +kernel) ?_
            have q321 : h282 75 9 = h4 75 9 := jK 0 f283 rg_75_9_0_1 (by omega) (by omega) (by decide)
            have q322 : h282 75 8 = h4 75 8 := jK 0 f283 rg_75_8_0_1 (by omega) (by omega) (by decide)
            have q323 : h4 75 8 = h 75 8 := jK 0 f6 rg_75_8_0_1 (by omega) (by omega) (by decide)
            have m326 := Tq.fr hT f6 (by decide) (by decide)
            have m325 := Tq.fr m326 f283 (by decide) (by decide)
            have z324 := m325.1
            have e327 : h282 75 9 = sk tB tN (h 75 7) := (show h282 75 9 = h4 75 7 by omega).trans c11
            refine x_retI (np := 105) (x := 0) (by decide +kernel) (by decide) (Or.inl (by decide +kernel)) ⟨_, rfl, (by decide), ?_⟩
            exact ⟨j284, f291, (by omega), (by omega), (fun z => by omega), (fun z => by omega), (fun z => by omega), (fun z => by omega), (Nr.cast (Nr.nob (by omega) (Ni.nb4 m288 (by omega))) e327)⟩
          have q320 : ¬ (2147483651 < v317) := q320
          refine x_iload (np := 90) (x := 3) (by decide +kernel) rfl (by omega) ?_
          refine x_iload (np := 91) (x := 1) (by decide +kernel) rfl la1 ?_
          refine x_icmp (k := 2) (tg := 99) (np := 94) (by decide +kernel) (by decide) (by omega) la1 (fun q328 => ?_) (fun q329 => ?_)
          · have q328 : v280 < a1 := q328
            exfalso; omega
          have q329 : ¬ (v280 < a1) := q329
          refine x_iload (np := 95) (x := 3) (by decide +kernel) rfl (by omega) ?_
          refine x_iload (np := 96) (x := 2) (by decide +kernel) rfl la2 ?_
          refine x_icmp (k := 5) (tg := 103) (np := 99) (by decide +kernel) (by decide) (by omega) la2 (fun q330 => ?_) (fun q331 => ?_)
          · have q330 : v280 ≤ a2 := q330
            refine x_iload (np := 104) (x := 3) (by decide +kernel) rfl (by omega) ?_
            have q332 : h282 75 9 = h4 75 9 := jK 0 f283 rg_75_9_0_1 (by omega) (by omega) (by decide)
            have q333 : h282 75 8 = h4 75 8 := jK 0 f283 rg_75_8_0_1 (by omega) (by omega) (by decide)
            have q334 : h4 75 8 = h 75 8 := jK 0 f6 rg_75_8_0_1 (by omega) (by omega) (by decide)
            have m337 := Tq.fr hT f6 (by decide) (by decide)
            have m336 := Tq.fr m337 f283 (by decide) (by decide)
            have z335 := m336.1
            have e338 : h282 75 9 = sk tB tN (h 75 7) := (show h282 75 9 = h4 75 7 by omega).trans c11
            refine x_retI (np := 105) (x := 0) (by decide +kernel) (by omega) (Or.inl (by decide +kernel)) ⟨_, rfl, (by omega), ?_⟩
            exact ⟨j284, f291, (by omega), (by omega), (fun z => by omega), (fun z => by omega), (fun z => by omega), (fun z => by omega), (Nr.cast (Ni.val m288 (by omega) (by omega) (fun z => by have z1 := z.1; have z2 := z.2.1; have z3 := z.2.2; omega) (by omega) (by omega) (by omega) (by omega)) e338)⟩
          have q331 : ¬ (v280 ≤ a2) := q331
          refine x_const (np := 100) (x := 9223372034707292159) (a := 2147483647) (by decide +kernel) (by decide) (by decide) ?_
          refine x_goto (np := 103) (x := 104) (by decide +kernel) ?_
          have q339 : h282 75 9 = h4 75 9 := jK 0 f283 rg_75_9_0_1 (by omega) (by omega) (by decide)
          have q340 : h282 75 8 = h4 75 8 := jK 0 f283 rg_75_8_0_1 (by omega) (by omega) (by decide)
          have q341 : h4 75 8 = h 75 8 := jK 0 f6 rg_75_8_0_1 (by omega) (by omega) (by decide)
          have m344 := Tq.fr hT f6 (by decide) (by decide)
          have m343 := Tq.fr m344 f283 (by decide) (by decide)
          have z342 := m343.1
          have e345 : h282 75 9 = sk tB tN (h 75 7) := (show h282 75 9 = h4 75 7 by omega).trans c11
          refine x_retI (np := 105) (x := 0) (by decide +kernel) (by decide) (Or.inl (by decide +kernel)) ⟨_, rfl, (by decide), ?_⟩
          exact ⟨j284, f291, (by omega), (by omega), (fun z => by omega), (fun z => by omega), (fun z => by omega), (fun z => by omega), (Nr.cast (Ni.rng m288 (by omega) (by omega) (fun z => by have z1 := z.1; have z2 := z.2.1; have z3 := z.2.2; omega) (by omega) (by omega)) e345)⟩
        have q301 : ¬ (2147483648 = 2147483648) := q301
        exfalso; omega
      have q299 : ¬ ((h 75 8) ≤ (h282 75 7)) := q299
      refine x_aload (np := 12) (x := 0) (by decide +kernel) rfl (x_nc_le (by decide)) ?_
      have q346 : h282 75 5 = 79 := by have z := jB (e := 5) 0 j284 rg_75_5_0_1 (by decide) (by decide); omega
      refine x_getR (np := 15) (x := 709) (f := 5) (q := 79) (by decide +kernel) (by decide) (by decide +kernel) q346 ?_
      refine x_aload (np := 16) (x := 0) (by decide +kernel) rfl (x_nc_le (by decide)) ?_
      refine x_getC (np := 19) (x := 711) (f := 7) (q := (h282 75 7)) (by decide +kernel) (by decide) (by decide +kernel) rfl (fun l347 => ?_)
      obtain ⟨u348, q349⟩ : ∃ z, (h282 75 7) = 2147483648 + z := ⟨(h282 75 7) - 2147483648, by omega⟩
      have q350 : h282 79 u348 = h4 79 u348 := jK u348 f283 rg_79_0_1_400 (by omega) (by omega) (by decide)
      have q351 : h4 79 u348 = h 79 u348 := jK u348 f6 rg_79_0_1_400 (by omega) (by omega) (by decide)
      have b352 := jB (e := u348) u348 hJ rg_79_0_1_400 (by omega) (by omega)
      refine x_baldC (np := 20) (x := 0) (n := 400) (i := u348) (q := (h 79 u348)) (by decide +kernel) (by decide +kernel) (by omega) (by omega) (by decide) (q350.trans q351) (fun l353 => ?_)
      refine x_iload (np := 21) (x := 1) (by decide +kernel) rfl (by decide) ?_
      refine x_icmp (k := 2) (tg := 41) (np := 24) (by decide +kernel) (by decide) l353 (by decide) (fun q354 => ?_) (fun q355 => ?_)
      · have q354 : (h 79 u348) < 2147483696 := q354
        refine x_const (np := 42) (x := 9223372039002259456) (a := 2147483648) (by decide +kernel) (by decide) (by decide) ?_
        refine x_retI (np := 43) (x := 0) (by decide +kernel) (by decide) (Or.inr ⟨by decide +kernel, by omega, by omega⟩) ⟨_, rfl, (by decide), ?_⟩
        refine x_ifz (k := 0) (tg := 65) (np := 17) (by decide +kernel) (by decide) (by decide) (fun q356 => ?_) (fun q357 => ?_)
        · have q356 : 2147483648 = 2147483648 := q356
          refine x_aload (np := 66) (x := 0) (by decide +kernel) rfl (x_nc_le (by decide)) ?_
          refine x_getC (np := 69) (x := 711) (f := 7) (q := (h282 75 7)) (by decide +kernel) (by decide) (by decide +kernel) rfl (fun l358 => ?_)
          refine x_aload (np := 70) (x := 0) (by decide +kernel) rfl (x_nc_le (by decide)) ?_
          have q359 : h282 75 9 = h4 75 9 := jK 0 f283 rg_75_9_0_1 (by omega) (by omega) (by decide)
          refine x_getC (np := 73) (x := 713) (f := 9) (q := (h4 75 9)) (by decide +kernel) (by decide) (by decide +kernel) q359 (fun l360 => ?_)
          refine x_icmp (k := 0) (tg := 99) (np := 76) (by decide +kernel) (by decide) l293 l360 (fun q361 => ?_) (fun q362 => ?_)
          · have q361 : (h282 75 7) = (h4 75 9) := q361
            refine x_const (np := 100) (x := 9223372034707292159) (a := 2147483647) (by decide +kernel) (by decide) (by decide) ?_
            refine x_goto (np := 103) (x := 104) (by decide +kernel) ?_
            have q363 : h282 75 9 = h4 75 9 := jK 0 f283 rg_75_9_0_1 (by omega) (by omega) (by decide)
            have q364 : h282 75 8 = h4 75 8 := jK 0 f283 rg_75_8_0_1 (by omega) (by omega) (by decide)
            have q365 : h4 75 8 = h 75 8 := jK 0 f6 rg_75_8_0_1 (by omega) (by omega) (by decide)
            have m368 := Tq.fr hT f6 (by decide) (by decide)
            have m367 := Tq.fr m368 f283 (by decide) (by decide)
            have z366 := m367.1
            have q369 : h282 79 u348 = h4 79 u348 := jK u348 f283 rg_79_0_1_400 (by omega) (by omega) (by decide)
            have q370 : h4 79 u348 = h 79 u348 := jK u348 f6 rg_79_0_1_400 (by omega) (by omega) (by decide)
            have z371 := Tq.at (p := (h282 75 7)) (u := u348) m367 (by omega) (by omega)
            have e372 : h282 75 9 = sk tB tN (h 75 7) := (show h282 75 9 = h4 75 7 by omega).trans c11
            refine x_retI (np := 105) (x := 0) (by decide +kernel) (by decide) (Or.inl (by decide +kernel)) ⟨_, rfl, (by decide), ?_⟩
            exact ⟨j284, f291, (by omega), (by omega), (fun z => by omega), (fun z => by omega), (fun z => by omega), (fun z => by omega), (Nr.cast (Nr.nob (by omega) (Ni.nb0 m288 (by omega) (fun z => by have z1 := z.1; have z2 := z.2.1; have z3 := z.2.2; omega))) e372)⟩
          have q362 : ¬ ((h282 75 7) = (h4 75 9)) := q362
          refine x_aload (np := 77) (x := 0) (by decide +kernel) rfl (x_nc_le (by decide)) ?_
          refine x_getC (np := 80) (x := 711) (f := 7) (q := (h282 75 7)) (by decide +kernel) (by decide) (by decide +kernel) rfl (fun l373 => ?_)
          refine x_aload (np := 81) (x := 0) (by decide +kernel) rfl (x_nc_le (by decide)) ?_
          have q374 : h282 75 9 = h4 75 9 := jK 0 f283 rg_75_9_0_1 (by omega) (by omega) (by decide)
          refine x_getC (np := 84) (x := 713) (f := 9) (q := (h4 75 9)) (by decide +kernel) (by decide) (by decide +kernel) q374 (fun l375 => ?_)
          obtain ⟨v376, q377⟩ : ∃ z, z + (h4 75 9) = (h282 75 7) + 2147483648 := ⟨(h282 75 7) + 2147483648 - (h4 75 9), by omega⟩
          refine x_isub (np := 85) (x := 0) (v := v376) (by decide +kernel) l293 l360 (by omega) (by omega) ?_
          refine x_const (np := 86) (x := 9223372051887161347) (a := 2147483651) (by decide +kernel) (by decide) (by decide) ?_
          refine x_icmp (k := 4) (tg := 99) (np := 89) (by decide +kernel) (by decide) (by omega) (by decide) (fun q378 => ?_) (fun q379 => ?_)
          · have q378 : 2147483651 < v376 := q378
            refine x_const (np := 100) (x := 9223372034707292159) (a := 2147483647) (by decide +kernel) (by decide) (by decide) ?_
            refine x_goto (np := 103) (x := 104) (by decide +kernel) ?_
            have q380 : h282 75 9 = h4 75 9 := jK 0 f283 rg_75_9_0_1 (by omega) (by omega) (by decide)
            have q381 : h282 75 8 = h4 75 8 := jK 0 f283 rg_75_8_0_1 (by omega) (by omega) (by decide)
            have q382 : h4 75 8 = h 75 8 := jK 0 f6 rg_75_8_0_1 (by omega) (by omega) (by decide)
            have m385 := Tq.fr hT f6 (by decide) (by decide)
            have m384 := Tq.fr m385 f283 (by decide) (by decide)
            have z383 := m384.1
            have q386 : h282 79 u348 = h4 79 u348 := jK u348 f283 rg_79_0_1_400 (by omega) (by omega) (by decide)
            have q387 : h4 79 u348 = h 79 u348 := jK u348 f6 rg_79_0_1_400 (by omega) (by omega) (by decide)
            have z388 := Tq.at (p := (h282 75 7)) (u := u348) m384 (by omega) (by omega)
            have e389 : h282 75 9 = sk tB tN (h 75 7) := (show h282 75 9 = h4 75 7 by omega).trans c11
            refine x_retI (np := 105) (x := 0) (by decide +kernel) (by decide) (Or.inl (by decide +kernel)) ⟨_, rfl, (by decide), ?_⟩
            exact ⟨j284, f291, (by omega), (by omega), (fun z => by omega), (fun z => by omega), (fun z => by omega), (fun z => by omega), (Nr.cast (Nr.nob (by omega) (Ni.nb4 m288 (by omega))) e389)⟩
          have q379 : ¬ (2147483651 < v376) := q379
          refine x_iload (np := 90) (x := 3) (by decide +kernel) rfl (by omega) ?_
          refine x_iload (np := 91) (x := 1) (by decide +kernel) rfl la1 ?_
          refine x_icmp (k := 2) (tg := 99) (np := 94) (by decide +kernel) (by decide) (by omega) la1 (fun q390 => ?_) (fun q391 => ?_)
          · have q390 : v280 < a1 := q390
            exfalso; omega
          have q391 : ¬ (v280 < a1) := q391
          refine x_iload (np := 95) (x := 3) (by decide +kernel) rfl (by omega) ?_
          refine x_iload (np := 96) (x := 2) (by decide +kernel) rfl la2 ?_
          refine x_icmp (k := 5) (tg := 103) (np := 99) (by decide +kernel) (by decide) (by omega) la2 (fun q392 => ?_) (fun q393 => ?_)
          · have q392 : v280 ≤ a2 := q392
            refine x_iload (np := 104) (x := 3) (by decide +kernel) rfl (by omega) ?_
            have q394 : h282 75 9 = h4 75 9 := jK 0 f283 rg_75_9_0_1 (by omega) (by omega) (by decide)
            have q395 : h282 75 8 = h4 75 8 := jK 0 f283 rg_75_8_0_1 (by omega) (by omega) (by decide)
            have q396 : h4 75 8 = h 75 8 := jK 0 f6 rg_75_8_0_1 (by omega) (by omega) (by decide)
            have m399 := Tq.fr hT f6 (by decide) (by decide)
            have m398 := Tq.fr m399 f283 (by decide) (by decide)
            have z397 := m398.1
            have q400 : h282 79 u348 = h4 79 u348 := jK u348 f283 rg_79_0_1_400 (by omega) (by omega) (by decide)
            have q401 : h4 79 u348 = h 79 u348 := jK u348 f6 rg_79_0_1_400 (by omega) (by omega) (by decide)
            have z402 := Tq.at (p := (h282 75 7)) (u := u348) m398 (by omega) (by omega)
            have e403 : h282 75 9 = sk tB tN (h 75 7) := (show h282 75 9 = h4 75 7 by omega).trans c11
            refine x_retI (np := 105) (x := 0) (by decide +kernel) (by omega) (Or.inl (by decide +kernel)) ⟨_, rfl, (by omega), ?_⟩
            exact ⟨j284, f291, (by omega), (by omega), (fun z => by omega), (fun z => by omega), (fun z => by omega), (fun z => by omega), (Nr.cast (Ni.val m288 (by omega) (by omega) (fun z => by have z1 := z.1; have z2 := z.2.1; have z3 := z.2.2; omega) (by omega) (by omega) (by omega) (by omega)) e403)⟩
          have q393 : ¬ (v280 ≤ a2) := q393
          refine x_const (np := 100) (x := 9223372034707292159) (a := 2147483647) (by decide +kernel) (by decide) (by decide) ?_
          refine x_goto (np := 103) (x := 104) (by decide +kernel) ?_
          have q404 : h282 75 9 = h4 75 9 := jK 0 f283 rg_75_9_0_1 (by omega) (by omega) (by decide)
          have q405 : h282 75 8 = h4 75 8 := jK 0 f283 rg_75_8_0_1 (by omega) (by omega) (by decide)
          have q406 : h4 75 8 = h 75 8 := jK 0 f6 rg_75_8_0_1 (by omega) (by omega) (by decide)
          have m409 := Tq.fr hT f6 (by decide) (by decide)
          have m408 := Tq.fr m409 f283 (by decide) (by decide)
          have z407 := m408.1
          have q410 : h282 79 u348 = h4 79 u348 := jK u348 f283 rg_79_0_1_400 (by omega) (by omega) (by decide)
          have q411 : h4 79 u348 = h 79 u348 := jK u348 f6 rg_79_0_1_400 (by omega) (by omega) (by decide)
          have z412 := Tq.at (p := (h282 75 7)) (u := u348) m408 (by omega) (by omega)
          have e413 : h282 75 9 = sk tB tN (h 75 7) := (show h282 75 9 = h4 75 7 by omega).trans c11
          refine x_retI (np := 105) (x := 0) (by decide +kernel) (by decide) (Or.inl (by decide +kernel)) ⟨_, rfl, (by decide), ?_⟩
          exact ⟨j284, f291, (by omega), (by omega), (fun z => by omega), (fun z => by omega), (fun z => by omega), (fun z => by omega), (Nr.cast (Ni.rng m288 (by omega) (by omega) (fun z => by have z1 := z.1; have z2 := z.2.1; have z3 := z.2.2; omega) (by omega) (by omega)) e413)⟩
        have q357 : ¬ (2147483648 = 2147483648) := q357
        exfalso; omega
      have q355 : ¬ ((h 79 u348) < 2147483696) := q355
      refine x_aload (np := 25) (x := 0) (by decide +kernel) rfl (x_nc_le (by decide)) ?_
      have q414 : h282 75 5 = 79 := by have z := jB (e := 5) 0 j284 rg_75_5_0_1 (by decide) (by decide); omega
      refine x_getR (np := 28) (x := 709) (f := 5) (q := 79) (by decide +kernel) (by decide) (by decide +kernel) q414 ?_
      refine x_aload (np := 29) (x := 0) (by decide +kernel) rfl (x_nc_le (by decide)) ?_
      refine x_getC (np := 32) (x := 711) (f := 7) (q := (h282 75 7)) (by decide +kernel) (by decide) (by decide +kernel) rfl (fun l415 => ?_)
      have q416 : h282 79 u348 = h4 79 u348 := jK u348 f283 rg_79_0_1_400 (by omega) (by omega) (by decide)
      have q417 : h4 79 u348 = h 79 u348 := jK u348 f6 rg_79_0_1_400 (by omega) (by omega) (by decide)
      refine x_baldC (np := 33) (x := 0) (n := 400) (i := u348) (q := (h 79 u348)) (by decide +kernel) (by decide +kernel) (by omega) (by omega) (by decide) (q416.trans q417) (fun l418 => ?_)
      refine x_iload (np := 34) (x := 2) (by decide +kernel) rfl (by decide) ?_
      refine x_icmp (k := 4) (tg := 41) (np := 37) (by decide +kernel) (by decide) l353 (by decide) (fun q419 => ?_) (fun q420 => ?_)
      · have q419 : 2147483705 < (h 79 u348) := q419
        refine x_const (np := 42) (x := 9223372039002259456) (a := 2147483648) (by decide +kernel) (by decide) (by decide) ?_
        refine x_retI (np := 43) (x := 0) (by decide +kernel) (by decide) (Or.inr ⟨by decide +kernel, by omega, by omega⟩) ⟨_, rfl, (by decide), ?_⟩
        refine x_ifz (k := 0) (tg := 65) (np := 17) (by decide +kernel) (by decide) (by decide) (fun q421 => ?_) (fun q422 => ?_)
        · have q421 : 2147483648 = 2147483648 := q421
          refine x_aload (np := 66) (x := 0) (by decide +kernel) rfl (x_nc_le (by decide)) ?_
          refine x_getC (np := 69) (x := 711) (f := 7) (q := (h282 75 7)) (by decide +kernel) (by decide) (by decide +kernel) rfl (fun l423 => ?_)
          refine x_aload (np := 70) (x := 0) (by decide +kernel) rfl (x_nc_le (by decide)) ?_
          have q424 : h282 75 9 = h4 75 9 := jK 0 f283 rg_75_9_0_1 (by omega) (by omega) (by decide)
          refine x_getC (np := 73) (x := 713) (f := 9) (q := (h4 75 9)) (by decide +kernel) (by decide) (by decide +kernel) q424 (fun l425 => ?_)
          refine x_icmp (k := 0) (tg := 99) (np := 76) (by decide +kernel) (by decide) l293 l425 (fun q426 => ?_) (fun q427 => ?_)
          · have q426 : (h282 75 7) = (h4 75 9) := q426
            refine x_const (np := 100) (x := 9223372034707292159) (a := 2147483647) (by decide +kernel) (by decide) (by decide) ?_
            refine x_goto (np := 103) (x := 104) (by decide +kernel) ?_
            have q428 : h282 75 9 = h4 75 9 := jK 0 f283 rg_75_9_0_1 (by omega) (by omega) (by decide)
            have q429 : h282 75 8 = h4 75 8 := jK 0 f283 rg_75_8_0_1 (by omega) (by omega) (by decide)
            have q430 : h4 75 8 = h 75 8 := jK 0 f6 rg_75_8_0_1 (by omega) (by omega) (by decide)
            have m433 := Tq.fr hT f6 (by decide) (by decide)
            have m432 := Tq.fr m433 f283 (by decide) (by decide)
            have z431 := m432.1
            have q434 : h282 79 u348 = h4 79 u348 := jK u348 f283 rg_79_0_1_400 (by omega) (by omega) (by decide)
            have q435 : h4 79 u348 = h 79 u348 := jK u348 f6 rg_79_0_1_400 (by omega) (by omega) (by decide)
            have z436 := Tq.at (p := (h282 75 7)) (u := u348) m432 (by omega) (by omega)
            have e437 : h282 75 9 = sk tB tN (h 75 7) := (show h282 75 9 = h4 75 7 by omega).trans c11
            refine x_retI (np := 105) (x := 0) (by decide +kernel) (by decide) (Or.inl (by decide +kernel)) ⟨_, rfl, (by decide), ?_⟩
            exact ⟨j284, f291, (by omega), (by omega), (fun z => by omega), (fun z => by omega), (fun z => by omega), (fun z => by omega), (Nr.cast (Nr.nob (by omega) (Ni.nb0 m288 (by omega) (fun z => by have z1 := z.1; have z2 := z.2.1; have z3 := z.2.2; omega))) e437)⟩
          have q427 : ¬ ((h282 75 7) = (h4 75 9)) := q427
          refine x_aload (np := 77) (x := 0) (by decide +kernel) rfl (x_nc_le (by decide)) ?_
          refine x_getC (np := 80) (x := 711) (f := 7) (q := (h282 75 7)) (by decide +kernel) (by decide) (by decide +kernel) rfl (fun l438 => ?_)
          refine x_aload (np := 81) (x := 0) (by decide +kernel) rfl (x_nc_le (by decide)) ?_
          have q439 : h282 75 9 = h4 75 9 := jK 0 f283 rg_75_9_0_1 (by omega) (by omega) (by decide)
          refine x_getC (np := 84) (x := 713) (f := 9) (q := (h4 75 9)) (by decide +kernel) (by decide) (by decide +kernel) q439 (fun l440 => ?_)
          obtain ⟨v441, q442⟩ : ∃ z, z + (h4 75 9) = (h282 75 7) + 2147483648 := ⟨(h282 75 7) + 2147483648 - (h4 75 9), by omega⟩
          refine x_isub (np := 85) (x := 0) (v := v441) (by decide +kernel) l293 l425 (by omega) (by omega) ?_
          refine x_const (np := 86) (x := 9223372051887161347) (a := 2147483651) (by decide +kernel) (by decide) (by decide) ?_
          refine x_icmp (k := 4) (tg := 99) (np := 89) (by decide +kernel) (by decide) (by omega) (by decide) (fun q443 => ?_) (fun q444 => ?_)
          · have q443 : 2147483651 < v441 := q443
            refine x_const (np := 100) (x := 9223372034707292159) (a := 2147483647) (by decide +kernel) (by decide) (by decide) ?_
            refine x_goto (np := 103) (x := 104) (by decide +kernel) ?_
            have q445 : h282 75 9 = h4 75 9 := jK 0 f283 rg_75_9_0_1 (by omega) (by omega) (by decide)
            have q446 : h282 75 8 = h4 75 8 := jK 0 f283 rg_75_8_0_1 (by omega) (by omega) (by decide)
            have q447 : h4 75 8 = h 75 8 := jK 0 f6 rg_75_8_0_1 (by omega) (by omega) (by decide)
            have m450 := Tq.fr hT f6 (by decide) (by decide)
            have m449 := Tq.fr m450 f283 (by decide) (by decide)
            have z448 := m449.1
            have q451 : h282 79 u348 = h4 79 u348 := jK u348 f283 rg_79_0_1_400 (by omega) (by omega) (by decide)
            have q452 : h4 79 u348 = h 79 u348 := jK u348 f6 rg_79_0_1_400 (by omega) (by omega) (by decide)
            have z453 := Tq.at (p := (h282 75 7)) (u := u348) m449 (by omega) (by omega)
            have e454 : h282 75 9 = sk tB tN (h 75 7) := (show h282 75 9 = h4 75 7 by omega).trans c11
            refine x_retI (np := 105) (x := 0) (by decide +kernel) (by decide) (Or.inl (by decide +kernel)) ⟨_, rfl, (by decide), ?_⟩
            exact ⟨j284, f291, (by omega), (by omega), (fun z => by omega), (fun z => by omega), (fun z => by omega), (fun z => by omega), (Nr.cast (Nr.nob (by omega) (Ni.nb4 m288 (by omega))) e454)⟩
          have q444 : ¬ (2147483651 < v441) := q444
          refine x_iload (np := 90) (x := 3) (by decide +kernel) rfl (by omega) ?_
          refine x_iload (np := 91) (x := 1) (by decide +kernel) rfl la1 ?_
          refine x_icmp (k := 2) (tg := 99) (np := 94) (by decide +kernel) (by decide) (by omega) la1 (fun q455 => ?_) (fun q456 => ?_)
          · have q455 : v280 < a1 := q455
            exfalso; omega
          have q456 : ¬ (v280 < a1) := q456
          refine x_iload (np := 95) (x := 3) (by decide +kernel) rfl (by omega) ?_
          refine x_iload (np := 96) (x := 2) (by decide +kernel) rfl la2 ?_
          refine x_icmp (k := 5) (tg := 103) (np := 99) (by decide +kernel) (by decide) (by omega) la2 (fun q457 => ?_) (fun q458 => ?_)
          · have q457 : v280 ≤ a2 := q457
            refine x_iload (np := 104) (x := 3) (by decide +kernel) rfl (by omega) ?_
            have q459 : h282 75 9 = h4 75 9 := jK 0 f283 rg_75_9_0_1 (by omega) (by omega) (by decide)
            have q460 : h282 75 8 = h4 75 8 := jK 0 f283 rg_75_8_0_1 (by omega) (by omega) (by decide)
            have q461 : h4 75 8 = h 75 8 := jK 0 f6 rg_75_8_0_1 (by omega) (by omega) (by decide)
            have m464 := Tq.fr hT f6 (by decide) (by decide)
            have m463 := Tq.fr m464 f283 (by decide) (by decide)
            have z462 := m463.1
            have q465 : h282 79 u348 = h4 79 u348 := jK u348 f283 rg_79_0_1_400 (by omega) (by omega) (by decide)
            have q466 : h4 79 u348 = h 79 u348 := jK u348 f6 rg_79_0_1_400 (by omega) (by omega) (by decide)
            have z467 := Tq.at (p := (h282 75 7)) (u := u348) m463 (by omega) (by omega)
            have e468 : h282 75 9 = sk tB tN (h 75 7) := (show h282 75 9 = h4 75 7 by omega).trans c11
            refine x_retI (np := 105) (x := 0) (by decide +kernel) (by omega) (Or.inl (by decide +kernel)) ⟨_, rfl, (by omega), ?_⟩
            exact ⟨j284, f291, (by omega), (by omega), (fun z => by omega), (fun z => by omega), (fun z => by omega), (fun z => by omega), (Nr.cast (Ni.val m288 (by omega) (by omega) (fun z => by have z1 := z.1; have z2 := z.2.1; have z3 := z.2.2; omega) (by omega) (by omega) (by omega) (by omega)) e468)⟩
          have q458 : ¬ (v280 ≤ a2) := q458
          refine x_const (np := 100) (x := 9223372034707292159) (a := 2147483647) (by decide +kernel) (by decide) (by decide) ?_
          refine x_goto (np := 103) (x := 104) (by decide +kernel) ?_
          have q469 : h282 75 9 = h4 75 9 := jK 0 f283 rg_75_9_0_1 (by omega) (by omega) (by decide)
          have q470 : h282 75 8 = h4 75 8 := jK 0 f283 rg_75_8_0_1 (by omega) (by omega) (by decide)
          have q471 : h4 75 8 = h 75 8 := jK 0 f6 rg_75_8_0_1 (by omega) (by omega) (by decide)
          have m474 := Tq.fr hT f6 (by decide) (by decide)
          have m473 := Tq.fr m474 f283 (by decide) (by decide)
          have z472 := m473.1
          have q475 : h282 79 u348 = h4 79 u348 := jK u348 f283 rg_79_0_1_400 (by omega) (by omega) (by decide)
          have q476 : h4 79 u348 = h 79 u348 := jK u348 f6 rg_79_0_1_400 (by omega) (by omega) (by decide)
          have z477 := Tq.at (p := (h282 75 7)) (u := u348) m473 (by omega) (by omega)
          have e478 : h282 75 9 = sk tB tN (h 75 7) := (show h282 75 9 = h4 75 7 by omega).trans c11
          refine x_retI (np := 105) (x := 0) (by decide +kernel) (by decide) (Or.inl (by decide +kernel)) ⟨_, rfl, (by decide), ?_⟩
          exact ⟨j284, f291, (by omega), (by omega), (fun z => by omega), (fun z => by omega), (fun z => by omega), (fun z => by omega), (Nr.cast (Ni.rng m288 (by omega) (by omega) (fun z => by have z1 := z.1; have z2 := z.2.1; have z3 := z.2.2; omega) (by omega) (by omega)) e478)⟩
        have q422 : ¬ (2147483648 = 2147483648) := q422
        exfalso; omega
      have q420 : ¬ (2147483705 < (h 79 u348)) := q420
      refine x_const (np := 38) (x := 9223372043297226753) (a := 2147483649) (by decide +kernel) (by decide) (by decide) ?_
      refine x_goto (np := 41) (x := 42) (by decide +kernel) ?_
      refine x_retI (np := 43) (x := 0) (by decide +kernel) (by decide) (Or.inr ⟨by decide +kernel, by omega, by omega⟩) ⟨_, rfl, (by decide), ?_⟩
      refine x_ifz (k := 0) (tg := 65) (np := 17) (by decide +kernel) (by decide) (by decide) (fun q479 => ?_) (fun q480 => ?_)
      · have q479 : 2147483649 = 2147483648 := q479
        exfalso; omega
      have q480 : ¬ (2147483649 = 2147483648) := q480
      refine x_aload (np := 18) (x := 0) (by decide +kernel) rfl (x_nc_le (by decide)) ?_
      refine x_getC (np := 21) (x := 711) (f := 7) (q := (h282 75 7)) (by decide +kernel) (by decide) (by decide +kernel) rfl (fun l481 => ?_)
      refine x_aload (np := 22) (x := 0) (by decide +kernel) rfl (x_nc_le (by decide)) ?_
      have q482 : h282 75 9 = h4 75 9 := jK 0 f283 rg_75_9_0_1 (by omega) (by omega) (by decide)
      refine x_getC (np := 25) (x := 713) (f := 9) (q := (h4 75 9)) (by decide +kernel) (by decide) (by decide +kernel) q482 (fun l483 => ?_)
      obtain ⟨v484, q485⟩ : ∃ z, z + (h4 75 9) = (h282 75 7) + 2147483648 := ⟨(h282 75 7) + 2147483648 - (h4 75 9), by omega⟩
      refine x_isub (np := 26) (x := 0) (v := v484) (by decide +kernel) l293 l483 (by omega) (by omega) ?_
      refine x_const (np := 27) (x := 9223372051887161347) (a := 2147483651) (by decide +kernel) (by decide) (by decide) ?_
      refine x_icmp (k := 3) (tg := 50) (np := 30) (by decide +kernel) (by decide) (by omega) (by decide) (fun q486 => ?_) (fun q487 => ?_)
      · have q486 : 2147483651 ≤ v484 := q486
        refine x_iload (np := 51) (x := 3) (by decide +kernel) rfl (by omega) ?_
        refine x_istore (np := 52) (x := 3) (lo' := [x_r 75, iv_c a1, iv_c a2, iv_c v280]) (by decide +kernel) (by omega) (Nat.le_of_ble_eq_true rfl) rfl ?_
        refine x_aload (np := 53) (x := 0) (by decide +kernel) rfl (x_nc_le (by decide)) ?_
        refine x_dup (np := 54) (x := 0) (by decide +kernel) (by have z := x_nc_le (k := 75) (by decide); unfold x_r; omega) ?_
        refine x_getC (np := 57) (x := 711) (f := 7) (q := (h282 75 7)) (by decide +kernel) (by decide) (by decide +kernel) rfl (fun l488 => ?_)
        refine x_const (np := 58) (x := 9223372043297226753) (a := 2147483649) (by decide +kernel) (by decide) (by decide) ?_
        refine x_iadd (np := 59) (x := 0) (v := (1 + (h282 75 7))) (by decide +kernel) l293 (by decide) (by omega) (by omega) ?_
        refine x_putI (np := 62) (x := 711) (f := 7) (by decide +kernel) (by decide +kernel) (by omega) (Or.inl (by decide)) ?_
        have j490 := jU (e := 7) (v := (1 + (h282 75 7))) 0 j284 rg_75_7_0_1 (by omega) (by omega) (by omega)
        have f492 := jF (e := 7) (v := (1 + (h282 75 7))) 0 f291 rg_75_7_0_1 (by omega) (by omega) (by decide)
        have f493 := jF (e := 7) (v := (1 + (h282 75 7))) 0 f283 rg_75_7_0_1 (by omega) (by omega) (by decide)
        generalize e491 : x_up h282 75 7 (1 + (h282 75 7)) = h489 at j490 f492 f493 ⊢
        refine x_goto (np := 65) (x := 6) (by decide +kernel) ?_
        have q494 : h489 75 7 = (1 + (h282 75 7)) := by rw [← e491]; exact x_up_at
        have q495 : h489 75 7 = (1 + (h282 75 7)) := by rw [← e491]; exact x_up_at
        have q496 : h489 75 9 = h282 75 9 := by rw [← e491]; exact x_up_i (by omega)
        have q497 : h282 75 9 = h4 75 9 := jK 0 f283 rg_75_9_0_1 (by omega) (by omega) (by decide)
        have q498 : h282 75 9 = h4 75 9 := jK 0 f283 rg_75_9_0_1 (by omega) (by omega) (by decide)
        have q499 : h489 75 7 = (1 + (h282 75 7)) := by rw [← e491]; exact x_up_at
        have q500 : h489 75 9 = h282 75 9 := by rw [← e491]; exact x_up_i (by omega)
        have q501 : h282 75 9 = h4 75 9 := jK 0 f283 rg_75_9_0_1 (by omega) (by omega) (by decide)
        have q502 : h282 75 8 = h4 75 8 := jK 0 f283 rg_75_8_0_1 (by omega) (by omega) (by decide)
        have q503 : h4 75 8 = h 75 8 := jK 0 f6 rg_75_8_0_1 (by omega) (by omega) (by decide)
        have m506 := Tq.fr hT f6 (by decide) (by decide)
        have m505 := Tq.fr m506 f283 (by decide) (by decide)
        have z504 := m505.1
        have q507 : h282 79 u348 = h4 79 u348 := jK u348 f283 rg_79_0_1_400 (by omega) (by omega) (by decide)
        have q508 : h4 79 u348 = h 79 u348 := jK u348 f6 rg_79_0_1_400 (by omega) (by omega) (by decide)
        have z509 := Tq.at (p := (h282 75 7)) (u := u348) m505 (by omega) (by omega)
        have q510 : h282 75 9 = h4 75 9 := jK 0 f283 rg_75_9_0_1 (by omega) (by omega) (by decide)
        exact i290 v280 h489 (by omega) (by omega) (by omega) (by omega) j490 f493 (Ni.st3 m288 (by omega) ⟨by omega, by omega, by omega⟩ (by omega) (by omega) (by omega))
      have q487 : ¬ (2147483651 ≤ v484) := q487
      have q511 : h282 75 9 = h4 75 9 := jK 0 f283 rg_75_9_0_1 (by omega) (by omega) (by decide)
      have b512 := Ni.lt m288 (by omega)
      have b513 := Ni.ge m288
      refine x_const (np := 32) (x := 9223372081951932426) (a := 2147483658) (by decide +kernel) (by decide) (by decide) ?_
      refine x_iload (np := 33) (x := 3) (by decide +kernel) rfl (by omega) ?_
      obtain ⟨u514, q515⟩ : ∃ z, v280 = 2147483648 + z := ⟨v280 - 2147483648, by omega⟩
      refine x_imul (np := 34) (x := 0) (i := 10) (j := u514) (v := (2147483648 + 10 * u514)) (by decide +kernel) (by omega) (by omega) (by omega) (by omega) (by decide) (by omega) ?_
      refine x_aload (np := 35) (x := 0) (by decide +kernel) rfl (x_nc_le (by decide)) ?_
      have q517 : h282 75 5 = 79 := by have z := jB (e := 5) 0 j284 rg_75_5_0_1 (by decide) (by decide); omega
      refine x_getR (np := 38) (x := 709) (f := 5) (q := 79) (by decide +kernel) (by decide) (by decide +kernel) q517 ?_
      refine x_aload (np := 39) (x := 0) (by decide +kernel) rfl (x_nc_le (by decide)) ?_
      refine x_getC (np := 42) (x := 711) (f := 7) (q := (h282 75 7)) (by decide +kernel) (by decide) (by decide +kernel) rfl (fun l518 => ?_)
      have q519 : h282 79 u348 = h4 79 u348 := jK u348 f283 rg_79_0_1_400 (by omega) (by omega) (by decide)
      have q520 : h4 79 u348 = h 79 u348 := jK u348 f6 rg_79_0_1_400 (by omega) (by omega) (by decide)
      refine x_baldC (np := 43) (x := 0) (n := 400) (i := u348) (q := (h 79 u348)) (by decide +kernel) (by decide +kernel) (by omega) (by omega) (by decide) (q519.trans q520) (fun l521 => ?_)
      refine x_iadd (np := 44) (x := 0) (v := (10 * u514 + (h 79 u348))) (by decide +kernel) (by omega) l353 (by omega) (by omega) ?_
      refine x_const (np := 46) (x := 9223372245160689712) (a := 2147483696) (by decide +kernel) (by decide) (by decide) ?_
      obtain ⟨v522, q523⟩ : ∃ z, z + 2147483696 = (10 * u514 + (h 79 u348)) + 2147483648 := ⟨(10 * u514 + (h 79 u348)) + 2147483648 - 2147483696, by omega⟩
      refine x_isub (np := 47) (x := 0) (v := v522) (by decide +kernel) (by omega) (by decide) (by omega) (by omega) ?_
      refine x_goto (np := 50) (x := 51) (by decide +kernel) ?_
      refine x_istore (np := 52) (x := 3) (lo' := [x_r 75, iv_c a1, iv_c a2, iv_c v522]) (by decide +kernel) (by omega) (Nat.le_of_ble_eq_true rfl) rfl ?_
      refine x_aload (np := 53) (x := 0) (by decide +kernel) rfl (x_nc_le (by decide)) ?_
      refine x_dup (np := 54) (x := 0) (by decide +kernel) (by have z := x_nc_le (k := 75) (by decide); unfold x_r; omega) ?_
      refine x_getC (np := 57) (x := 711) (f := 7) (q := (h282 75 7)) (by decide +kernel) (by decide) (by decide +kernel) rfl (fun l524 => ?_)
      refine x_const (np := 58) (x := 9223372043297226753) (a := 2147483649) (by decide +kernel) (by decide) (by decide) ?_
      refine x_iadd (np := 59) (x := 0) (v := (1 + (h282 75 7))) (by decide +kernel) l293 (by decide) (by omega) (by omega) ?_
      refine x_putI (np := 62) (x := 711) (f := 7) (by decide +kernel) (by decide +kernel) (by omega) (Or.inl (by decide)) ?_
      have j526 := jU (e := 7) (v := (1 + (h282 75 7))) 0 j284 rg_75_7_0_1 (by omega) (by omega) (by omega)
      have f528 := jF (e := 7) (v := (1 + (h282 75 7))) 0 f291 rg_75_7_0_1 (by omega) (by omega) (by decide)
      have f529 := jF (e := 7) (v := (1 + (h282 75 7))) 0 f283 rg_75_7_0_1 (by omega) (by omega) (by decide)
      generalize e527 : x_up h282 75 7 (1 + (h282 75 7)) = h525 at j526 f528 f529 ⊢
      refine x_goto (np := 65) (x := 6) (by decide +kernel) ?_
      have q530 : h525 75 7 = (1 + (h282 75 7)) := by rw [← e527]; exact x_up_at
      have q531 : h525 75 7 = (1 + (h282 75 7)) := by rw [← e527]; exact x_up_at
      have q532 : h525 75 9 = h282 75 9 := by rw [← e527]; exact x_up_i (by omega)
      have q533 : h282 75 9 = h4 75 9 := jK 0 f283 rg_75_9_0_1 (by omega) (by omega) (by decide)
      have q534 : h282 75 9 = h4 75 9 := jK 0 f283 rg_75_9_0_1 (by omega) (by omega) (by decide)
      have q535 : h525 75 7 = (1 + (h282 75 7)) := by rw [← e527]; exact x_up_at
      have q536 : h525 75 9 = h282 75 9 := by rw [← e527]; exact x_up_i (by omega)
      have q537 : h282 75 9 = h4 75 9 := jK 0 f283 rg_75_9_0_1 (by omega) (by omega) (by decide)
      have q538 : h282 75 8 = h4 75 8 := jK 0 f283 rg_75_8_0_1 (by omega) (by omega) (by decide)
      have q539 : h4 75 8 = h 75 8 := jK 0 f6 rg_75_8_0_1 (by omega) (by omega) (by decide)
      have m542 := Tq.fr hT f6 (by decide) (by decide)
      have m541 := Tq.fr m542 f283 (by decide) (by decide)
      have z540 := m541.1
      have q543 : h282 79 u348 = h4 79 u348 := jK u348 f283 rg_79_0_1_400 (by omega) (by omega) (by decide)
      have q544 : h4 79 u348 = h 79 u348 := jK u348 f6 rg_79_0_1_400 (by omega) (by omega) (by decide)
      have z545 := Tq.at (p := (h282 75 7)) (u := u348) m541 (by omega) (by omega)
      have q546 : h282 75 9 = h4 75 9 := jK 0 f283 rg_75_9_0_1 (by omega) (by omega) (by decide)
      exact i290 v522 h525 (by omega) (by omega) (by omega) (by omega) j526 f529 (Ni.st m288 (by omega) ⟨by omega, by omega, by omega⟩ (by omega) (by omega) (by omega))
  exact p285 _ 2147483648 h4 (Nat.lt_succ_self _) (by omega) (by omega) (by omega) j5 (Fr.refl _ _) (Ni.zero (by omega) (by omega))
set_option maxHeartbeats 0 in
/-- LentNamesModel.readPart()Z -/
theorem c188_75n {sc : Nat × Nat} {d  : Nat} {h : xh} {tB : Nat → Nat} {tN : Nat} (hJ : J h) (hr0 : (h 75 13) + 5 ≤ (h 75 7)) (hT : Tq tB tN h) : X sc 188 (d + 5) (xI fun r h' => J h' ∧ Fr 89128961 h h' ∧ (2147483648 ≤ r ∧ r ≤ 2147483649) ∧ (r = 2147483649 → h' 75 13 + h 75 7 ≤ h' 75 7 + h 75 13) ∧ (r = 2147483649 → h 75 7 + 0 ≤ h' 75 7) ∧ (r = 2147483649 → h 75 13 ≤ h' 75 13) ∧ Kp h h' (h 75 13 - 2147483648) ∧ (r = 2147483649 → Seg (sg h') (h 75 13 - 2147483648) (h' 75 13 - 2147483648)) ∧ (∀ l, G tB tN Kd.part l (sk tB tN (h 75 7)) (rs r (sk tB tN (h' 75 7))))) 0 0 0 [x_r 75, 147573952589676412928] [] h := by
  have hF := Fr.refl 89128961 h
  have b1 := jB (e := 13) 0 hJ rg_75_13_0_1 (by omega) (by omega)
  have b2 := jB (e := 7) 0 hJ rg_75_7_0_1 (by omega) (by omega)
  refine x_aload (np := 1) (x := 0) (by decide +kernel) rfl (x_nc_le (by decide)) ?_
  refine x_cV (t := 6) (mj := 169) (n := 1) (rc := 12) (ml := 1) (nr := 0) (np := 4) (as := [x_r 75]) (rest := []) (lo1 := [x_r 75]) (by decide +kernel) (by decide) (by decide +kernel) (x_rb_of (by decide +kernel)) rfl rfl (x_wr (by decide) x_wn) x_wn (by decide) rfl (c169_75n hJ  hT) (fun h6 q5 => ?_)
  obtain ⟨j7, f8, c11, c12, c13, c14⟩ := q5
  have f15 := Fr.trans hF f8 (by decide)
  have b16 := jB (e := 9) 0 j7 rg_75_9_0_1 (by omega) (by omega)
  have b17 := jB (e := 7) 0 j7 rg_75_7_0_1 (by omega) (by omega)
  refine x_aload (np := 5) (x := 0) (by decide +kernel) rfl (x_nc_le (by decide)) ?_
  refine x_getC (np := 8) (x := 711) (f := 7) (q := (h6 75 7)) (by decide +kernel) (by decide) (by decide +kernel) rfl (fun l18 => ?_)
  refine x_aload (np := 9) (x := 0) (by decide +kernel) rfl (x_nc_le (by decide)) ?_
  refine x_getC (np := 12) (x := 713) (f := 9) (q := (h6 75 9)) (by decide +kernel) (by decide) (by decide +kernel) rfl (fun l19 => ?_)
  refine x_icmp (k := 1) (tg := 34) (np := 15) (by decide +kernel) (by decide) l18 l19 (fun q20 => ?_) (fun q21 => ?_)
  · have q20 : (h6 75 7) ≠ (h6 75 9) := q20
    refine x_aload (np := 35) (x := 0) (by decide +kernel) rfl (x_nc_le (by decide)) ?_
    refine x_ldcB (i := 2) (idx := 147) (tx := "day") (by rw [tb_y188]; exact List.mem_of_getElem? (i := 37) rfl) (by decide) (by rw [tb_b188]; decide +kernel) ?_
    have m25 := Tq.fr hT f8 (by decide) (by decide)
    refine x_cP (t := 6) (mj := 170) (n := 2) (rc := 12) (ml := 4) (nr := 0) (np := 40) (as := [x_r 75, x_b (2 + 1)]) (rest := []) (lo1 := [x_r 75, x_b (2 + 1), 147573952589676412928, 147573952589676412928]) (by decide +kernel) (by decide) (by decide +kernel) (x_rb_of (by decide +kernel)) rfl rfl (x_wr (by decide) (x_wB (by decide) x_wn)) x_wn (by decide) rfl (c170_75_S0n j7  (by decide) m25) (fun v22 l23 q24 => ?_)
    obtain ⟨b28, c26, c27⟩ := q24
    have b29 : iv_tl 2 = 3 := by decide
    refine x_ifz (k := 0) (tg := 47) (np := 43) (by decide +kernel) (by decide) l23 (fun q30 => ?_) (fun q31 => ?_)
    · have q30 : v22 = 2147483648 := q30
      refine x_aload (np := 48) (x := 0) (by decide +kernel) rfl (x_nc_le (by decide)) ?_
      refine x_ldcB (i := 27) (idx := 226) (tx := "days") (by rw [tb_y188]; exact List.mem_of_getElem? (i := 62) rfl) (by decide) (by rw [tb_b188]; decide +kernel) ?_
      refine x_cP (t := 6) (mj := 170) (n := 2) (rc := 12) (ml := 4) (nr := 0) (np := 53) (as := [x_r 75, x_b (27 + 1)]) (rest := []) (lo1 := [x_r 75, x_b (27 + 1), 147573952589676412928, 147573952589676412928]) (by decide +kernel) (by decide) (by decide +kernel) (x_rb_of (by decide +kernel)) rfl rfl (x_wr (by decide) (x_wB (by decide) x_wn)) x_wn (by decide) rfl (c170_75_S0n j7  (by decide) m25) (fun v32 l33 q34 => ?_)
      obtain ⟨b37, c35, c36⟩ := q34
      have b38 : iv_tl 27 = 4 := by decide
      refine x_ifz (k := 0) (tg := 60) (np := 56) (by decide +kernel) (by decide) l33 (fun q39 => ?_) (fun q40 => ?_)
      · have q39 : v32 = 2147483648 := q39
        refine x_aload (np := 61) (x := 0) (by decide +kernel) rfl (x_nc_le (by decide)) ?_
        refine x_ldcB (i := 5) (idx := 158) (tx := "pledge") (by rw [tb_y188]; exact List.mem_of_getElem? (i := 40) rfl) (by decide) (by rw [tb_b188]; decide +kernel) ?_
        refine x_cP (t := 6) (mj := 170) (n := 2) (rc := 12) (ml := 4) (nr := 0) (np := 66) (as := [x_r 75, x_b (5 + 1)]) (rest := []) (lo1 := [x_r 75, x_b (5 + 1), 147573952589676412928, 147573952589676412928]) (by decide +kernel) (by decide) (by decide +kernel) (x_rb_of (by decide +kernel)) rfl rfl (x_wr (by decide) (x_wB (by decide) x_wn)) x_wn (by decide) rfl (c170_75_S0n j7  (by decide) m25) (fun v41 l42 q43 => ?_)
        obtain ⟨b46, c44, c45⟩ := q43
        have b47 : iv_tl 5 = 6 := by decide
        refine x_ifz (k := 0) (tg := 73) (np := 69) (by decide +kernel) (by decide) l42 (fun q48 => ?_) (fun q49 => ?_)
        · have q48 : v41 = 2147483648 := q48
          refine x_aload (np := 74) (x := 0) (by decide +kernel) rfl (x_nc_le (by decide)) ?_
          refine x_ldcB (i := 28) (idx := 228) (tx := "deep") (by rw [tb_y188]; exact List.mem_of_getElem? (i := 63) rfl) (by decide) (by rw [tb_b188]; decide +kernel) ?_
          refine x_cP (t := 6) (mj := 170) (n := 2) (rc := 12) (ml := 4) (nr := 0) (np := 79) (as := [x_r 75, x_b (28 + 1)]) (rest := []) (lo1 := [x_r 75, x_b (28 + 1), 147573952589676412928, 147573952589676412928]) (by decide +kernel) (by decide) (by decide +kernel) (x_rb_of (by decide +kernel)) rfl rfl (x_wr (by decide) (x_wB (by decide) x_wn)) x_wn (by decide) rfl (c170_75_S0n j7  (by decide) m25) (fun v50 l51 q52 => ?_)
          obtain ⟨b55, c53, c54⟩ := q52
          have b56 : iv_tl 28 = 4 := by decide
          refine x_ifz (k := 0) (tg := 86) (np := 82) (by decide +kernel) (by decide) l51 (fun q57 => ?_) (fun q58 => ?_)
          · have q57 : v50 = 2147483648 := q57
            refine x_aload (np := 87) (x := 0) (by decide +kernel) rfl (x_nc_le (by decide)) ?_
            refine x_ldcB (i := 29) (idx := 230) (tx := "gives") (by rw [tb_y188]; exact List.mem_of_getElem? (i := 64) rfl) (by decide) (by rw [tb_b188]; decide +kernel) ?_
            refine x_cP (t := 6) (mj := 170) (n := 2) (rc := 12) (ml := 4) (nr := 0) (np := 92) (as := [x_r 75, x_b (29 + 1)]) (rest := []) (lo1 := [x_r 75, x_b (29 + 1), 147573952589676412928, 147573952589676412928]) (by decide +kernel) (by decide) (by decide +kernel) (x_rb_of (by decide +kernel)) rfl rfl (x_wr (by decide) (x_wB (by decide) x_wn)) x_wn (by decide) rfl (c170_75_S0n j7  (by decide) m25) (fun v59 l60 q61 => ?_)
            obtain ⟨b64, c62, c63⟩ := q61
            have b65 : iv_tl 29 = 5 := by decide
            refine x_ifz (k := 0) (tg := 99) (np := 95) (by decide +kernel) (by decide) l60 (fun q66 => ?_) (fun q67 => ?_)
            · have q66 : v59 = 2147483648 := q66
              refine x_aload (np := 100) (x := 0) (by decide +kernel) rfl (x_nc_le (by decide)) ?_
              refine x_ldcB (i := 30) (idx := 232) (tx := "takes") (by rw [tb_y188]; exact List.mem_of_getElem? (i := 65) rfl) (by decide) (by rw [tb_b188]; decide +kernel) ?_
              refine x_cP (t := 6) (mj := 170) (n := 2) (rc := 12) (ml := 4) (nr := 0) (np := 105) (as := [x_r 75, x_b (30 + 1)]) (rest := []) (lo1 := [x_r 75, x_b (30 + 1), 147573952589676412928, 147573952589676412928]) (by decide +kernel) (by decide) (by decide +kernel) (x_rb_of (by decide +kernel)) rfl rfl (x_wr (by decide) (x_wB (by decide) x_wn)) x_wn (by decide) rfl (c170_75_S0n j7  (by decide) m25) (fun v68 l69 q70 => ?_)
              obtain ⟨b73, c71, c72⟩ := q70
              have b74 : iv_tl 30 = 5 := by decide
              refine x_ifz (k := 0) (tg := 112) (np := 108) (by decide +kernel) (by decide) l69 (fun q75 => ?_) (fun q76 => ?_)
              · have q75 : v68 = 2147483648 := q75
                refine x_const (np := 113) (x := 9223372034707292159) (a := 2147483647) (by decide +kernel) (by decide) (by decide) ?_
                refine x_istore (np := 114) (x := 1) (lo' := [x_r 75, iv_c 2147483647]) (by decide +kernel) (by decide) (Nat.le_of_ble_eq_true rfl) rfl ?_
                refine x_aload (np := 115) (x := 0) (by decide +kernel) rfl (x_nc_le (by decide)) ?_
                refine x_iload (np := 116) (x := 1) (by decide +kernel) rfl (by decide) ?_
                refine x_const (np := 117) (x := 9223372039002259456) (a := 2147483648) (by decide +kernel) (by decide) (by decide) ?_
                refine x_nV (t := 6) (mj := 187) (n := 3) (rc := 12) (ml := 3) (nr := 0) (np := 120) (as := [x_r 75, iv_c 2147483647, iv_c 2147483648]) (rest := []) (lo1 := [x_r 75, iv_c 2147483647, iv_c 2147483648]) (by decide +kernel) (by decide) (by decide +kernel) (x_rb_of (by decide +kernel)) rfl rfl (x_wr (by decide) (x_wi (by decide) (x_wi (by decide) x_wn))) x_wn (by decide) rfl ?_
                refine x_aload (np := 1) (x := 0) (by decide +kernel) rfl (x_nc_le (by decide)) ?_
                have q77 : h6 75 1 = 76 := by have z := jB (e := 1) 0 j7 rg_75_1_0_1 (by decide) (by decide); omega
                refine x_getR (np := 4) (x := 705) (f := 1) (q := 76) (by decide +kernel) (by decide) (by decide +kernel) q77 ?_
                refine x_const (np := 7) (x := 9223376986804585600) (a := 2147484800) (by decide +kernel) (by decide) (by decide) ?_
                refine x_const (np := 8) (x := 9223372047592194050) (a := 2147483650) (by decide +kernel) (by decide) (by decide) ?_
                refine x_aload (np := 9) (x := 0) (by decide +kernel) rfl (x_nc_le (by decide)) ?_
                have q78 : h6 75 13 = h 75 13 := jK 0 f8 rg_75_13_0_1 (by omega) (by omega) (by decide)
                refine x_getC (np := 12) (x := 717) (f := 13) (q := (h 75 13)) (by decide +kernel) (by decide) (by decide +kernel) q78 (fun l79 => ?_)
                obtain ⟨u80, q81⟩ : ∃ z, (h 75 13) = 2147483648 + z := ⟨(h 75 13) - 2147483648, by omega⟩
                refine x_imul (np := 13) (x := 0) (i := 2) (j := u80) (v := (2147483648 + 2 * u80)) (by decide +kernel) (by omega) (by omega) (by omega) (by omega) (by decide) l79 ?_
                refine x_iadd (np := 14) (x := 0) (v := (2147484800 + 2 * u80)) (by decide +kernel) (by decide) (by omega) (by omega) (by omega) ?_
                refine x_iload (np := 15) (x := 1) (by decide +kernel) rfl (by decide) ?_
                refine x_ast (np := 16) (x := 0) (kd := 1) (n := 1952) (i := (1152 + 2 * u80)) (by decide +kernel) (Or.inl rfl) (by decide +kernel) (by omega) (by omega) (by decide) (by decide) (fun z => absurd z (by decide)) ?_
                have j84 := jU (e := (1152 + 2 * u80)) (v := 2147483647) u80 j7 rg_76_1152_2_395 (by omega) (by omega) (by omega)
                have f86 := jF (e := (1152 + 2 * u80)) (v := 2147483647) u80 f15 rg_76_1152_2_395 (by omega) (by omega) (by decide)
                generalize e85 : x_up h6 76 (1152 + 2 * u80) 2147483647 = h83 at j84 f86 ⊢
                refine x_aload (np := 17) (x := 0) (by decide +kernel) rfl (x_nc_le (by decide)) ?_
                have q87 : h83 75 1 = 76 := by have z := jB (e := 1) 0 j84 rg_75_1_0_1 (by decide) (by decide); omega
                refine x_getR (np := 20) (x := 705) (f := 1) (q := 76) (by decide +kernel) (by decide) (by decide +kernel) q87 ?_
                refine x_const (np := 23) (x := 9223376986804585600) (a := 2147484800) (by decide +kernel) (by decide) (by decide) ?_
                refine x_const (np := 24) (x := 9223372047592194050) (a := 2147483650) (by decide +kernel) (by decide) (by decide) ?_
                refine x_aload (np := 25) (x := 0) (by decide +kernel) rfl (x_nc_le (by decide)) ?_
                have q88 : h83 75 13 = h6 75 13 := by rw [← e85]; exact x_up_k (by decide)
                have q89 : h6 75 13 = h 75 13 := jK 0 f8 rg_75_13_0_1 (by omega) (by omega) (by decide)
                refine x_getC (np := 28) (x := 717) (f := 13) (q := (h 75 13)) (by decide +kernel) (by decide) (by decide +kernel) (q88.trans q89) (fun l90 => ?_)
                refine x_imul (np := 29) (x := 0) (i := 2) (j := u80) (v := (2147483648 + 2 * u80)) (by decide +kernel) (by omega) (by omega) (by omega) (by omega) (by decide) l79 ?_
                refine x_iadd (np := 30) (x := 0) (v := (2147484800 + 2 * u80)) (by decide +kernel) (by decide) (by omega) (by omega) (by omega) ?_
                refine x_const (np := 31) (x := 9223372043297226753) (a := 2147483649) (by decide +kernel) (by decide) (by decide) ?_
                refine x_iadd (np := 32) (x := 0) (v := (2147484801 + 2 * u80)) (by decide +kernel) (by omega) (by decide) (by omega) (by omega) ?_
                refine x_iload (np := 33) (x := 2) (by decide +kernel) rfl (by decide) ?_
                refine x_ast (np := 34) (x := 0) (kd := 1) (n := 1952) (i := (1153 + 2 * u80)) (by decide +kernel) (Or.inl rfl) (by decide +kernel) (by omega) (by omega) (by decide) (by decide) (fun z => absurd z (by decide)) ?_
                have j93 := jU (e := (1153 + 2 * u80)) (v := 2147483648) u80 j84 rg_76_1153_2_395 (by omega) (by omega) (by omega)
                have f95 := jF (e := (1153 + 2 * u80)) (v := 2147483648) u80 f86 rg_76_1153_2_395 (by omega) (by omega) (by decide)
                generalize e94 : x_up h83 76 (1153 + 2 * u80) 2147483648 = h92 at j93 f95 ⊢
                refine x_aload (np := 35) (x := 0) (by decide +kernel) rfl (x_nc_le (by decide)) ?_
                refine x_dup (np := 36) (x := 0) (by decide +kernel) (by have z := x_nc_le (k := 75) (by decide); unfold x_r; omega) ?_
                have q96 : h92 75 13 = h83 75 13 := by rw [← e94]; exact x_up_k (by decide)
                have q97 : h83 75 13 = h6 75 13 := by rw [← e85]; exact x_up_k (by decide)
                have q98 : h6 75 13 = h 75 13 := jK 0 f8 rg_75_13_0_1 (by omega) (by omega) (by decide)
                refine x_getC (np := 39) (x := 717) (f := 13) (q := (h 75 13)) (by decide +kernel) (by decide) (by decide +kernel) ((q96.trans q97).trans q98) (fun l99 => ?_)
                refine x_const (np := 40) (x := 9223372043297226753) (a := 2147483649) (by decide +kernel) (by decide) (by decide) ?_
                refine x_iadd (np := 41) (x := 0) (v := (1 + (h 75 13))) (by decide +kernel) l79 (by decide) (by omega) (by omega) ?_
                refine x_putI (np := 44) (x := 717) (f := 13) (by decide +kernel) (by decide +kernel) (by omega) (Or.inl (by decide)) ?_
                have j101 := jU (e := 13) (v := (1 + (h 75 13))) 0 j93 rg_75_13_0_1 (by omega) (by omega) (by omega)
                have f103 := jF (e := 13) (v := (1 + (h 75 13))) 0 f95 rg_75_13_0_1 (by omega) (by omega) (by decide)
                generalize e102 : x_up h92 75 13 (1 + (h 75 13)) = h100 at j101 f103 ⊢
                refine x_retV (np := 45) (x := 0) (by decide +kernel) (by decide +kernel) ⟨rfl, ?_⟩
                have q104 : h100 75 13 = (1 + (h 75 13)) := by rw [← e102]; exact x_up_at
                refine x_iload (np := 121) (x := 1) (by decide +kernel) rfl (by decide) ?_
                refine x_ifz (k := 2) (tg := 128) (np := 124) (by decide +kernel) (by decide) (by decide) (fun q105 => ?_) (fun q106 => ?_)
                · have q105 : 2147483647 < 2147483648 := q105
                  refine x_const (np := 129) (x := 9223372039002259456) (a := 2147483648) (by decide +kernel) (by decide) (by decide) ?_
                  have q107 : h100 75 13 = (1 + (h 75 13)) := by rw [← e102]; exact x_up_at
                  have q108 : h100 75 7 = h92 75 7 := by rw [← e102]; exact x_up_i (by omega)
                  have q109 : h92 75 7 = h83 75 7 := by rw [← e94]; exact x_up_k (by decide)
                  have q110 : h83 75 7 = h6 75 7 := by rw [← e85]; exact x_up_k (by decide)
                  have q111 : h100 75 7 = h92 75 7 := by rw [← e102]; exact x_up_i (by omega)
                  have q112 : h92 75 7 = h83 75 7 := by rw [← e94]; exact x_up_k (by decide)
                  have q113 : h83 75 7 = h6 75 7 := by rw [← e85]; exact x_up_k (by decide)
                  have q114 : h100 75 13 = (1 + (h 75 13)) := by rw [← e102]; exact x_up_at
                  have k118 : Kp h h6 (h 75 13 - 2147483648) := Kp.fr Kp.refl f8 (by omega) (by decide)
                  have k117 : Kp h h83 (h 75 13 - 2147483648) := by rw [← e85]; exact Kp.up k118 (by omega) (fun i hi => by omega)
                  have k116 : Kp h h92 (h 75 13 - 2147483648) := by rw [← e94]; exact Kp.up k117 (by omega) (fun i hi => by omega)
                  have k115 : Kp h h100 (h 75 13 - 2147483648) := by rw [← e102]; exact Kp.oth k116 (by decide)
                  have w119 : ¬ Wd tB tN 2 (sk tB tN (h 75 7)) := by rw [← c13]; exact Wd.no (by decide) (Is.no c27 (by omega)) c14
                  have w120 : ¬ Wd tB tN 27 (sk tB tN (h 75 7)) := by rw [← c13]; exact Wd.no (by decide) (Is.no c36 (by omega)) c14
                  have w121 : ¬ Wd tB tN 5 (sk tB tN (h 75 7)) := by rw [← c13]; exact Wd.no (by decide) (Is.no c45 (by omega)) c14
                  have w122 : ¬ Wd tB tN 28 (sk tB tN (h 75 7)) := by rw [← c13]; exact Wd.no (by decide) (Is.no c54 (by omega)) c14
                  have w123 : ¬ Wd tB tN 29 (sk tB tN (h 75 7)) := by rw [← c13]; exact Wd.no (by decide) (Is.no c63 (by omega)) c14
                  have w124 : ¬ Wd tB tN 30 (sk tB tN (h 75 7)) := by rw [← c13]; exact Wd.no (by decide) (Is.no c72 (by omega)) c14
                  have n125 : Ltr tB tN (sk tB tN (h 75 7)) := by rw [← c13]; exact ltr_of (by rw [← c14]; omega)
                  refine x_retI (np := 130) (x := 0) (by decide +kernel) (by decide) (Or.inr ⟨by decide +kernel, by omega, by omega⟩) ⟨_, rfl, (by decide), ?_⟩
                  exact ⟨j101, f103, (by omega), (fun z => by omega), (fun z => by omega), (fun z => by omega), k115, (fun z => absurd z (by omega)), (fun l => gP_no (ltr_nb n125) w119 w120 w121 w122 w123 w124 (by omega))⟩
                have q106 : ¬ (2147483647 < 2147483648) := q106
                exfalso; omega
              have q76 : ¬ (v68 = 2147483648) := q76
              have b126 := c71 (by omega)
              refine x_const (np := 109) (x := 9223372060477095941) (a := 2147483653) (by decide +kernel) (by decide) (by decide) ?_
              refine x_goto (np := 112) (x := 113) (by decide +kernel) ?_
              refine x_istore (np := 114) (x := 1) (lo' := [x_r 75, iv_c 2147483653]) (by decide +kernel) (by decide) (Nat.le_of_ble_eq_true rfl) rfl ?_
              refine x_aload (np := 115) (x := 0) (by decide +kernel) rfl (x_nc_le (by decide)) ?_
              refine x_iload (np := 116) (x := 1) (by decide +kernel) rfl (by decide) ?_
              refine x_const (np := 117) (x := 9223372039002259456) (a := 2147483648) (by decide +kernel) (by decide) (by decide) ?_
              refine x_nV (t := 6) (mj := 187) (n := 3) (rc := 12) (ml := 3) (nr := 0) (np := 120) (as := [x_r 75, iv_c 2147483653, iv_c 2147483648]) (rest := []) (lo1 := [x_r 75, iv_c 2147483653, iv_c 2147483648]) (by decide +kernel) (by decide) (by decide +kernel) (x_rb_of (by decide +kernel)) rfl rfl (x_wr (by decide) (x_wi (by decide) (x_wi (by decide) x_wn))) x_wn (by decide) rfl ?_
              refine x_aload (np := 1) (x := 0) (by decide +kernel) rfl (x_nc_le (by decide)) ?_
              have q127 : h6 75 1 = 76 := by have z := jB (e := 1) 0 j7 rg_75_1_0_1 (by decide) (by decide); omega
              refine x_getR (np := 4) (x := 705) (f := 1) (q := 76) (by decide +kernel) (by decide) (by decide +kernel) q127 ?_
              refine x_const (np := 7) (x := 9223376986804585600) (a := 2147484800) (by decide +kernel) (by decide) (by decide) ?_
              refine x_const (np := 8) (x := 9223372047592194050) (a := 2147483650) (by decide +kernel) (by decide) (by decide) ?_
              refine x_aload (np := 9) (x := 0) (by decide +kernel) rfl (x_nc_le (by decide)) ?_
              have q128 : h6 75 13 = h 75 13 := jK 0 f8 rg_75_13_0_1 (by omega) (by omega) (by decide)
              refine x_getC (np := 12) (x := 717) (f := 13) (q := (h 75 13)) (by decide +kernel) (by decide) (by decide +kernel) q128 (fun l129 => ?_)
              obtain ⟨u130, q131⟩ : ∃ z, (h 75 13) = 2147483648 + z := ⟨(h 75 13) - 2147483648, by omega⟩
              refine x_imul (np := 13) (x := 0) (i := 2) (j := u130) (v := (2147483648 + 2 * u130)) (by decide +kernel) (by omega) (by omega) (by omega) (by omega) (by decide) l129 ?_
              refine x_iadd (np := 14) (x := 0) (v := (2147484800 + 2 * u130)) (by decide +kernel) (by decide) (by omega) (by omega) (by omega) ?_
              refine x_iload (np := 15) (x := 1) (by decide +kernel) rfl (by decide) ?_
              refine x_ast (np := 16) (x := 0) (kd := 1) (n := 1952) (i := (1152 + 2 * u130)) (by decide +kernel) (Or.inl rfl) (by decide +kernel) (by omega) (by omega) (by decide) (by decide) (fun z => absurd z (by decide)) ?_
              have j134 := jU (e := (1152 + 2 * u130)) (v := 2147483653) u130 j7 rg_76_1152_2_391 (by omega) (by omega) (by omega)
              have f136 := jF (e := (1152 + 2 * u130)) (v := 2147483653) u130 f15 rg_76_1152_2_391 (by omega) (by omega) (by decide)
              generalize e135 : x_up h6 76 (1152 + 2 * u130) 2147483653 = h133 at j134 f136 ⊢
              refine x_aload (np := 17) (x := 0) (by decide +kernel) rfl (x_nc_le (by decide)) ?_
              have q137 : h133 75 1 = 76 := by have z := jB (e := 1) 0 j134 rg_75_1_0_1 (by decide) (by decide); omega
              refine x_getR (np := 20) (x := 705) (f := 1) (q := 76) (by decide +kernel) (by decide) (by decide +kernel) q137 ?_
              refine x_const (np := 23) (x := 9223376986804585600) (a := 2147484800) (by decide +kernel) (by decide) (by decide) ?_
              refine x_const (np := 24) (x := 9223372047592194050) (a := 2147483650) (by decide +kernel) (by decide) (by decide) ?_
              refine x_aload (np := 25) (x := 0) (by decide +kernel) rfl (x_nc_le (by decide)) ?_
              have q138 : h133 75 13 = h6 75 13 := by rw [← e135]; exact x_up_k (by decide)
              have q139 : h6 75 13 = h 75 13 := jK 0 f8 rg_75_13_0_1 (by omega) (by omega) (by decide)
              refine x_getC (np := 28) (x := 717) (f := 13) (q := (h 75 13)) (by decide +kernel) (by decide) (by decide +kernel) (q138.trans q139) (fun l140 => ?_)
              refine x_imul (np := 29) (x := 0) (i := 2) (j := u130) (v := (2147483648 + 2 * u130)) (by decide +kernel) (by omega) (by omega) (by omega) (by omega) (by decide) l129 ?_
              refine x_iadd (np := 30) (x := 0) (v := (2147484800 + 2 * u130)) (by decide +kernel) (by decide) (by omega) (by omega) (by omega) ?_
              refine x_const (np := 31) (x := 9223372043297226753) (a := 2147483649) (by decide +kernel) (by decide) (by decide) ?_
              refine x_iadd (np := 32) (x := 0) (v := (2147484801 + 2 * u130)) (by decide +kernel) (by omega) (by decide) (by omega) (by omega) ?_
              refine x_iload (np := 33) (x := 2) (by decide +kernel) rfl (by decide) ?_
              refine x_ast (np := 34) (x := 0) (kd := 1) (n := 1952) (i := (1153 + 2 * u130)) (by decide +kernel) (Or.inl rfl) (by decide +kernel) (by omega) (by omega) (by decide) (by decide) (fun z => absurd z (by decide)) ?_
              have j143 := jU (e := (1153 + 2 * u130)) (v := 2147483648) u130 j134 rg_76_1153_2_391 (by omega) (by omega) (by omega)
              have f145 := jF (e := (1153 + 2 * u130)) (v := 2147483648) u130 f136 rg_76_1153_2_391 (by omega) (by omega) (by decide)
              generalize e144 : x_up h133 76 (1153 + 2 * u130) 2147483648 = h142 at j143 f145 ⊢
              refine x_aload (np := 35) (x := 0) (by decide +kernel) rfl (x_nc_le (by decide)) ?_
              refine x_dup (np := 36) (x := 0) (by decide +kernel) (by have z := x_nc_le (k := 75) (by decide); unfold x_r; omega) ?_
              have q146 : h142 75 13 = h133 75 13 := by rw [← e144]; exact x_up_k (by decide)
              have q147 : h133 75 13 = h6 75 13 := by rw [← e135]; exact x_up_k (by decide)
              have q148 : h6 75 13 = h 75 13 := jK 0 f8 rg_75_13_0_1 (by omega) (by omega) (by decide)
              refine x_getC (np := 39) (x := 717) (f := 13) (q := (h 75 13)) (by decide +kernel) (by decide) (by decide +kernel) ((q146.trans q147).trans q148) (fun l149 => ?_)
              refine x_const (np := 40) (x := 9223372043297226753) (a := 2147483649) (by decide +kernel) (by decide) (by decide) ?_
              refine x_iadd (np := 41) (x := 0) (v := (1 + (h 75 13))) (by decide +kernel) l129 (by decide) (by omega) (by omega) ?_
              refine x_putI (np := 44) (x := 717) (f := 13) (by decide +kernel) (by decide +kernel) (by omega) (Or.inl (by decide)) ?_
              have j151 := jU (e := 13) (v := (1 + (h 75 13))) 0 j143 rg_75_13_0_1 (by omega) (by omega) (by omega)
              have f153 := jF (e := 13) (v := (1 + (h 75 13))) 0 f145 rg_75_13_0_1 (by omega) (by omega) (by decide)
              generalize e152 : x_up h142 75 13 (1 + (h 75 13)) = h150 at j151 f153 ⊢
              refine x_retV (np := 45) (x := 0) (by decide +kernel) (by decide +kernel) ⟨rfl, ?_⟩
              have q154 : h150 75 13 = (1 + (h 75 13)) := by rw [← e152]; exact x_up_at
              refine x_iload (np := 121) (x := 1) (by decide +kernel) rfl (by decide) ?_
              refine x_ifz (k := 2) (tg := 128) (np := 124) (by decide +kernel) (by decide) (by decide) (fun q155 => ?_) (fun q156 => ?_)
              · have q155 : 2147483653 < 2147483648 := q155
                exfalso; omega
              have q156 : ¬ (2147483653 < 2147483648) := q156
              refine x_const (np := 125) (x := 9223372043297226753) (a := 2147483649) (by decide +kernel) (by decide) (by decide) ?_
              refine x_goto (np := 128) (x := 129) (by decide +kernel) ?_
              have q157 : h150 75 13 = (1 + (h 75 13)) := by rw [← e152]; exact x_up_at
              have q158 : h150 75 7 = h142 75 7 := by rw [← e152]; exact x_up_i (by omega)
              have q159 : h142 75 7 = h133 75 7 := by rw [← e144]; exact x_up_k (by decide)
              have q160 : h133 75 7 = h6 75 7 := by rw [← e135]; exact x_up_k (by decide)
              have q161 : h150 75 7 = h142 75 7 := by rw [← e152]; exact x_up_i (by omega)
              have q162 : h142 75 7 = h133 75 7 := by rw [← e144]; exact x_up_k (by decide)
              have q163 : h133 75 7 = h6 75 7 := by rw [← e135]; exact x_up_k (by decide)
              have q164 : h150 75 13 = (1 + (h 75 13)) := by rw [← e152]; exact x_up_at
              have k168 : Kp h h6 (h 75 13 - 2147483648) := Kp.fr Kp.refl f8 (by omega) (by decide)
              have k167 : Kp h h133 (h 75 13 - 2147483648) := by rw [← e135]; exact Kp.up k168 (by omega) (fun i hi => by omega)
              have k166 : Kp h h142 (h 75 13 - 2147483648) := by rw [← e144]; exact Kp.up k167 (by omega) (fun i hi => by omega)
              have k165 : Kp h h150 (h 75 13 - 2147483648) := by rw [← e152]; exact Kp.oth k166 (by decide)
              have q169 : h150 75 13 = (1 + (h 75 13)) := by rw [← e152]; exact x_up_at
              have q171 : h150 76 (1152 + 2 * u130) = h142 76 (1152 + 2 * u130) := by rw [← e152]; exact x_up_k (by decide)
              have q172 : h142 76 (1152 + 2 * u130) = h133 76 (1152 + 2 * u130) := by rw [← e144]; exact x_up_i (by omega)
              have q173 : h133 76 (1152 + 2 * u130) = 2147483653 := by rw [← e135]; exact x_up_at
              have s170 : Seg (sg h150) u130 (u130 + 1) := Seg.push (show 2147483648 ≤ h150 76 (1152 + 2 * u130) by omega) (show h150 76 (1152 + 2 * u130) ≤ 2147483656 by omega)
              have s174 : Seg (sg h150) (h 75 13 - 2147483648) (h150 75 13 - 2147483648) := Seg.cast (Seg.kp s170 Kp.refl) (by omega) (by omega)
              have w175 : ¬ Wd tB tN 2 (sk tB tN (h 75 7)) := by rw [← c13]; exact Wd.no (by decide) (Is.no c27 (by omega)) c14
              have w176 : ¬ Wd tB tN 27 (sk tB tN (h 75 7)) := by rw [← c13]; exact Wd.no (by decide) (Is.no c36 (by omega)) c14
              have w177 : ¬ Wd tB tN 5 (sk tB tN (h 75 7)) := by rw [← c13]; exact Wd.no (by decide) (Is.no c45 (by omega)) c14
              have w178 : ¬ Wd tB tN 28 (sk tB tN (h 75 7)) := by rw [← c13]; exact Wd.no (by decide) (Is.no c54 (by omega)) c14
              have w179 : ¬ Wd tB tN 29 (sk tB tN (h 75 7)) := by rw [← c13]; exact Wd.no (by decide) (Is.no c63 (by omega)) c14
              have y180 := Is.yes c72 (by omega)
              have w181 : Wd tB tN 30 (sk tB tN (h 75 7)) := by rw [← c13]; exact Wd.of' (by decide) y180 c14
              have q183 : h150 75 7 = h142 75 7 := by rw [← e152]; exact x_up_i (by omega)
              have q184 : h142 75 7 = h133 75 7 := by rw [← e144]; exact x_up_k (by decide)
              have q185 : h133 75 7 = h6 75 7 := by rw [← e135]; exact x_up_k (by decide)
              have e182 : sk tB tN (h6 75 7) = sk tB tN (sk tB tN (h 75 7) + iv_tl 30) := by rw [← c13, ← y180.1]
              have q186 : h150 75 7 = h142 75 7 := by rw [← e152]; exact x_up_i (by omega)
              have q187 : h142 75 7 = h133 75 7 := by rw [← e144]; exact x_up_k (by decide)
              have q188 : h133 75 7 = h6 75 7 := by rw [← e135]; exact x_up_k (by decide)
              refine x_retI (np := 130) (x := 0) (by decide +kernel) (by decide) (Or.inr ⟨by decide +kernel, by omega, by omega⟩) ⟨_, rfl, (by decide), ?_⟩
              exact ⟨j151, f153, (by omega), (fun z => by omega), (fun z => by omega), (fun z => by omega), k165, (fun _ => s174), (fun l => gP_wd (i := 30) (by unfold six; decide) w181 rfl e182 (by omega) (congrArg (sk tB tN) (show h6 75 7 = h150 75 7 by omega)))⟩
            have q67 : ¬ (v59 = 2147483648) := q67
            have b189 := c62 (by omega)
            refine x_const (np := 96) (x := 9223372056182128644) (a := 2147483652) (by decide +kernel) (by decide) (by decide) ?_
            refine x_goto (np := 99) (x := 113) (by decide +kernel) ?_
            refine x_istore (np := 114) (x := 1) (lo' := [x_r 75, iv_c 2147483652]) (by decide +kernel) (by decide) (Nat.le_of_ble_eq_true rfl) rfl ?_
            refine x_aload (np := 115) (x := 0) (by decide +kernel) rfl (x_nc_le (by decide)) ?_
            refine x_iload (np := 116) (x := 1) (by decide +kernel) rfl (by decide) ?_
            refine x_const (np := 117) (x := 9223372039002259456) (a := 2147483648) (by decide +kernel) (by decide) (by decide) ?_
            refine x_nV (t := 6) (mj := 187) (n := 3) (rc := 12) (ml := 3) (nr := 0) (np := 120) (as := [x_r 75, iv_c 2147483652, iv_c 2147483648]) (rest := []) (lo1 := [x_r 75, iv_c 2147483652, iv_c 2147483648]) (by decide +kernel) (by decide) (by decide +kernel) (x_rb_of (by decide +kernel)) rfl rfl (x_wr (by decide) (x_wi (by decide) (x_wi (by decide) x_wn))) x_wn (by decide) rfl ?_
            refine x_aload (np := 1) (x := 0) (by decide +kernel) rfl (x_nc_le (by decide)) ?_
            have q190 : h6 75 1 = 76 := by have z := jB (e := 1) 0 j7 rg_75_1_0_1 (by decide) (by decide); omega
            refine x_getR (np := 4) (x := 705) (f := 1) (q := 76) (by decide +kernel) (by decide) (by decide +kernel) q190 ?_
            refine x_const (np := 7) (x := 9223376986804585600) (a := 2147484800) (by decide +kernel) (by decide) (by decide) ?_
            refine x_const (np := 8) (x := 9223372047592194050) (a := 2147483650) (by decide +kernel) (by decide) (by decide) ?_
            refine x_aload (np := 9) (x := 0) (by decide +kernel) rfl (x_nc_le (by decide)) ?_
            have q191 : h6 75 13 = h 75 13 := jK 0 f8 rg_75_13_0_1 (by omega) (by omega) (by decide)
            refine x_getC (np := 12) (x := 717) (f := 13) (q := (h 75 13)) (by decide +kernel) (by decide) (by decide +kernel) q191 (fun l192 => ?_)
            obtain ⟨u193, q194⟩ : ∃ z, (h 75 13) = 2147483648 + z := ⟨(h 75 13) - 2147483648, by omega⟩
            refine x_imul (np := 13) (x := 0) (i := 2) (j := u193) (v := (2147483648 + 2 * u193)) (by decide +kernel) (by omega) (by omega) (by omega) (by omega) (by decide) l192 ?_
            refine x_iadd (np := 14) (x := 0) (v := (2147484800 + 2 * u193)) (by decide +kernel) (by decide) (by omega) (by omega) (by omega) ?_
            refine x_iload (np := 15) (x := 1) (by decide +kernel) rfl (by decide) ?_
            refine x_ast (np := 16) (x := 0) (kd := 1) (n := 1952) (i := (1152 + 2 * u193)) (by decide +kernel) (Or.inl rfl) (by decide +kernel) (by omega) (by omega) (by decide) (by decide) (fun z => absurd z (by decide)) ?_
            have j197 := jU (e := (1152 + 2 * u193)) (v := 2147483652) u193 j7 rg_76_1152_2_391 (by omega) (by omega) (by omega)
            have f199 := jF (e := (1152 + 2 * u193)) (v := 2147483652) u193 f15 rg_76_1152_2_391 (by omega) (by omega) (by decide)
            generalize e198 : x_up h6 76 (1152 + 2 * u193) 2147483652 = h196 at j197 f199 ⊢
            refine x_aload (np := 17) (x := 0) (by decide +kernel) rfl (x_nc_le (by decide)) ?_
            have q200 : h196 75 1 = 76 := by have z := jB (e := 1) 0 j197 rg_75_1_0_1 (by decide) (by decide); omega
            refine x_getR (np := 20) (x := 705) (f := 1) (q := 76) (by decide +kernel) (by decide) (by decide +kernel) q200 ?_
            refine x_const (np := 23) (x := 9223376986804585600) (a := 2147484800) (by decide +kernel) (by decide) (by decide) ?_
            refine x_const (np := 24) (x := 9223372047592194050) (a := 2147483650) (by decide +kernel) (by decide) (by decide) ?_
            refine x_aload (np := 25) (x := 0) (by decide +kernel) rfl (x_nc_le (by decide)) ?_
            have q201 : h196 75 13 = h6 75 13 := by rw [← e198]; exact x_up_k (by decide)
            have q202 : h6 75 13 = h 75 13 := jK 0 f8 rg_75_13_0_1 (by omega) (by omega) (by decide)
            refine x_getC (np := 28) (x := 717) (f := 13) (q := (h 75 13)) (by decide +kernel) (by decide) (by decide +kernel) (q201.trans q202) (fun l203 => ?_)
            refine x_imul (np := 29) (x := 0) (i := 2) (j := u193) (v := (2147483648 + 2 * u193)) (by decide +kernel) (by omega) (by omega) (by omega) (by omega) (by decide) l192 ?_
            refine x_iadd (np := 30) (x := 0) (v := (2147484800 + 2 * u193)) (by decide +kernel) (by decide) (by omega) (by omega) (by omega) ?_
            refine x_const (np := 31) (x := 9223372043297226753) (a := 2147483649) (by decide +kernel) (by decide) (by decide) ?_
            refine x_iadd (np := 32) (x := 0) (v := (2147484801 + 2 * u193)) (by decide +kernel) (by omega) (by decide) (by omega) (by omega) ?_
            refine x_iload (np := 33) (x := 2) (by decide +kernel) rfl (by decide) ?_
            refine x_ast (np := 34) (x := 0) (kd := 1) (n := 1952) (i := (1153 + 2 * u193)) (by decide +kernel) (Or.inl rfl) (by decide +kernel) (by omega) (by omega) (by decide) (by decide) (fun z => absurd z (by decide)) ?_
            have j206 := jU (e := (1153 + 2 * u193)) (v := 2147483648) u193 j197 rg_76_1153_2_391 (by omega) (by omega) (by omega)
            have f208 := jF (e := (1153 + 2 * u193)) (v := 2147483648) u193 f199 rg_76_1153_2_391 (by omega) (by omega) (by decide)
            generalize e207 : x_up h196 76 (1153 + 2 * u193) 2147483648 = h205 at j206 f208 ⊢
            refine x_aload (np := 35) (x := 0) (by decide +kernel) rfl (x_nc_le (by decide)) ?_
            refine x_dup (np := 36) (x := 0) (by decide +kernel) (by have z := x_nc_le (k := 75) (by decide); unfold x_r; omega) ?_
            have q209 : h205 75 13 = h196 75 13 := by rw [← e207]; exact x_up_k (by decide)
            have q210 : h196 75 13 = h6 75 13 := by rw [← e198]; exact x_up_k (by decide)
            have q211 : h6 75 13 = h 75 13 := jK 0 f8 rg_75_13_0_1 (by omega) (by omega) (by decide)
            refine x_getC (np := 39) (x := 717) (f := 13) (q := (h 75 13)) (by decide +kernel) (by decide) (by decide +kernel) ((q209.trans q210).trans q211) (fun l212 => ?_)
            refine x_const (np := 40) (x := 9223372043297226753) (a := 2147483649) (by decide +kernel) (by decide) (by decide) ?_
            refine x_iadd (np := 41) (x := 0) (v := (1 + (h 75 13))) (by decide +kernel) l192 (by decide) (by omega) (by omega) ?_
            refine x_putI (np := 44) (x := 717) (f := 13) (by decide +kernel) (by decide +kernel) (by omega) (Or.inl (by decide)) ?_
            have j214 := jU (e := 13) (v := (1 + (h 75 13))) 0 j206 rg_75_13_0_1 (by omega) (by omega) (by omega)
            have f216 := jF (e := 13) (v := (1 + (h 75 13))) 0 f208 rg_75_13_0_1 (by omega) (by omega) (by decide)
            generalize e215 : x_up h205 75 13 (1 + (h 75 13)) = h213 at j214 f216 ⊢
            refine x_retV (np := 45) (x := 0) (by decide +kernel) (by decide +kernel) ⟨rfl, ?_⟩
            have q217 : h213 75 13 = (1 + (h 75 13)) := by rw [← e215]; exact x_up_at
            refine x_iload (np := 121) (x := 1) (by decide +kernel) rfl (by decide) ?_
            refine x_ifz (k := 2) (tg := 128) (np := 124) (by decide +kernel) (by decide) (by decide) (fun q218 => ?_) (fun q219 => ?_)
            · have q218 : 2147483652 < 2147483648 := q218
              exfalso; omega
            have q219 : ¬ (2147483652 < 2147483648) := q219
            refine x_const (np := 125) (x := 9223372043297226753) (a := 2147483649) (by decide +kernel) (by decide) (by decide) ?_
            refine x_goto (np := 128) (x := 129) (by decide +kernel) ?_
            have q220 : h213 75 13 = (1 + (h 75 13)) := by rw [← e215]; exact x_up_at
            have q221 : h213 75 7 = h205 75 7 := by rw [← e215]; exact x_up_i (by omega)
            have q222 : h205 75 7 = h196 75 7 := by rw [← e207]; exact x_up_k (by decide)
            have q223 : h196 75 7 = h6 75 7 := by rw [← e198]; exact x_up_k (by decide)
            have q224 : h213 75 7 = h205 75 7 := by rw [← e215]; exact x_up_i (by omega)
            have q225 : h205 75 7 = h196 75 7 := by rw [← e207]; exact x_up_k (by decide)
            have q226 : h196 75 7 = h6 75 7 := by rw [← e198]; exact x_up_k (by decide)
            have q227 : h213 75 13 = (1 + (h 75 13)) := by rw [← e215]; exact x_up_at
            have k231 : Kp h h6 (h 75 13 - 2147483648) := Kp.fr Kp.refl f8 (by omega) (by decide)
            have k230 : Kp h h196 (h 75 13 - 2147483648) := by rw [← e198]; exact Kp.up k231 (by omega) (fun i hi => by omega)
            have k229 : Kp h h205 (h 75 13 - 2147483648) := by rw [← e207]; exact Kp.up k230 (by omega) (fun i hi => by omega)
            have k228 : Kp h h213 (h 75 13 - 2147483648) := by rw [← e215]; exact Kp.oth k229 (by decide)
            have q232 : h213 75 13 = (1 + (h 75 13)) := by rw [← e215]; exact x_up_at
            have q234 : h213 76 (1152 + 2 * u193) = h205 76 (1152 + 2 * u193) := by rw [← e215]; exact x_up_k (by decide)
            have q235 : h205 76 (1152 + 2 * u193) = h196 76 (1152 + 2 * u193) := by rw [← e207]; exact x_up_i (by omega)
            have q236 : h196 76 (1152 + 2 * u193) = 2147483652 := by rw [← e198]; exact x_up_at
            have s233 : Seg (sg h213) u193 (u193 + 1) := Seg.push (show 2147483648 ≤ h213 76 (1152 + 2 * u193) by omega) (show h213 76 (1152 + 2 * u193) ≤ 2147483656 by omega)
            have s237 : Seg (sg h213) (h 75 13 - 2147483648) (h213 75 13 - 2147483648) := Seg.cast (Seg.kp s233 Kp.refl) (by omega) (by omega)
            have w238 : ¬ Wd tB tN 2 (sk tB tN (h 75 7)) := by rw [← c13]; exact Wd.no (by decide) (Is.no c27 (by omega)) c14
            have w239 : ¬ Wd tB tN 27 (sk tB tN (h 75 7)) := by rw [← c13]; exact Wd.no (by decide) (Is.no c36 (by omega)) c14
            have w240 : ¬ Wd tB tN 5 (sk tB tN (h 75 7)) := by rw [← c13]; exact Wd.no (by decide) (Is.no c45 (by omega)) c14
            have w241 : ¬ Wd tB tN 28 (sk tB tN (h 75 7)) := by rw [← c13]; exact Wd.no (by decide) (Is.no c54 (by omega)) c14
            have y242 := Is.yes c63 (by omega)
            have w243 : Wd tB tN 29 (sk tB tN (h 75 7)) := by rw [← c13]; exact Wd.of' (by decide) y242 c14
            have q245 : h213 75 7 = h205 75 7 := by rw [← e215]; exact x_up_i (by omega)
            have q246 : h205 75 7 = h196 75 7 := by rw [← e207]; exact x_up_k (by decide)
            have q247 : h196 75 7 = h6 75 7 := by rw [← e198]; exact x_up_k (by decide)
            have e244 : sk tB tN (h6 75 7) = sk tB tN (sk tB tN (h 75 7) + iv_tl 29) := by rw [← c13, ← y242.1]
            have q248 : h213 75 7 = h205 75 7 := by rw [← e215]; exact x_up_i (by omega)
            have q249 : h205 75 7 = h196 75 7 := by rw [← e207]; exact x_up_k (by decide)
            have q250 : h196 75 7 = h6 75 7 := by rw [← e198]; exact x_up_k (by decide)
            refine x_retI (np := 130) (x := 0) (by decide +kernel) (by decide) (Or.inr ⟨by decide +kernel, by omega, by omega⟩) ⟨_, rfl, (by decide), ?_⟩
            exact ⟨j214, f216, (by omega), (fun z => by omega), (fun z => by omega), (fun z => by omega), k228, (fun _ => s237), (fun l => gP_wd (i := 29) (by unfold six; decide) w243 rfl e244 (by omega) (congrArg (sk tB tN) (show h6 75 7 = h213 75 7 by omega)))⟩
          have q58 : ¬ (v50 = 2147483648) := q58
          have b251 := c53 (by omega)
          refine x_const (np := 83) (x := 9223372051887161347) (a := 2147483651) (by decide +kernel) (by decide) (by decide) ?_
          refine x_goto (np := 86) (x := 113) (by decide +kernel) ?_
          refine x_istore (np := 114) (x := 1) (lo' := [x_r 75, iv_c 2147483651]) (by decide +kernel) (by decide) (Nat.le_of_ble_eq_true rfl) rfl ?_
          refine x_aload (np := 115) (x := 0) (by decide +kernel) rfl (x_nc_le (by decide)) ?_
          refine x_iload (np := 116) (x := 1) (by decide +kernel) rfl (by decide) ?_
          refine x_const (np := 117) (x := 9223372039002259456) (a := 2147483648) (by decide +kernel) (by decide) (by decide) ?_
          refine x_nV (t := 6) (mj := 187) (n := 3) (rc := 12) (ml := 3) (nr := 0) (np := 120) (as := [x_r 75, iv_c 2147483651, iv_c 2147483648]) (rest := []) (lo1 := [x_r 75, iv_c 2147483651, iv_c 2147483648]) (by decide +kernel) (by decide) (by decide +kernel) (x_rb_of (by decide +kernel)) rfl rfl (x_wr (by decide) (x_wi (by decide) (x_wi (by decide) x_wn))) x_wn (by decide) rfl ?_
          refine x_aload (np := 1) (x := 0) (by decide +kernel) rfl (x_nc_le (by decide)) ?_
          have q252 : h6 75 1 = 76 := by have z := jB (e := 1) 0 j7 rg_75_1_0_1 (by decide) (by decide); omega
          refine x_getR (np := 4) (x := 705) (f := 1) (q := 76) (by decide +kernel) (by decide) (by decide +kernel) q252 ?_
          refine x_const (np := 7) (x := 9223376986804585600) (a := 2147484800) (by decide +kernel) (by decide) (by decide) ?_
          refine x_const (np := 8) (x := 9223372047592194050) (a := 2147483650) (by decide +kernel) (by decide) (by decide) ?_
          refine x_aload (np := 9) (x := 0) (by decide +kernel) rfl (x_nc_le (by decide)) ?_
          have q253 : h6 75 13 = h 75 13 := jK 0 f8 rg_75_13_0_1 (by omega) (by omega) (by decide)
          refine x_getC (np := 12) (x := 717) (f := 13) (q := (h 75 13)) (by decide +kernel) (by decide) (by decide +kernel) q253 (fun l254 => ?_)
          obtain ⟨u255, q256⟩ : ∃ z, (h 75 13) = 2147483648 + z := ⟨(h 75 13) - 2147483648, by omega⟩
          refine x_imul (np := 13) (x := 0) (i := 2) (j := u255) (v := (2147483648 + 2 * u255)) (by decide +kernel) (by omega) (by omega) (by omega) (by omega) (by decide) l254 ?_
          refine x_iadd (np := 14) (x := 0) (v := (2147484800 + 2 * u255)) (by decide +kernel) (by decide) (by omega) (by omega) (by omega) ?_
          refine x_iload (np := 15) (x := 1) (by decide +kernel) rfl (by decide) ?_
          refine x_ast (np := 16) (x := 0) (kd := 1) (n := 1952) (i := (1152 + 2 * u255)) (by decide +kernel) (Or.inl rfl) (by decide +kernel) (by omega) (by omega) (by decide) (by decide) (fun z => absurd z (by decide)) ?_
          have j259 := jU (e := (1152 + 2 * u255)) (v := 2147483651) u255 j7 rg_76_1152_2_392 (by omega) (by omega) (by omega)
          have f261 := jF (e := (1152 + 2 * u255)) (v := 2147483651) u255 f15 rg_76_1152_2_392 (by omega) (by omega) (by decide)
          generalize e260 : x_up h6 76 (1152 + 2 * u255) 2147483651 = h258 at j259 f261 ⊢
          refine x_aload (np := 17) (x := 0) (by decide +kernel) rfl (x_nc_le (by decide)) ?_
          have q262 : h258 75 1 = 76 := by have z := jB (e := 1) 0 j259 rg_75_1_0_1 (by decide) (by decide); omega
          refine x_getR (np := 20) (x := 705) (f := 1) (q := 76) (by decide +kernel) (by decide) (by decide +kernel) q262 ?_
          refine x_const (np := 23) (x := 9223376986804585600) (a := 2147484800) (by decide +kernel) (by decide) (by decide) ?_
          refine x_const (np := 24) (x := 9223372047592194050) (a := 2147483650) (by decide +kernel) (by decide) (by decide) ?_
          refine x_aload (np := 25) (x := 0) (by decide +kernel) rfl (x_nc_le (by decide)) ?_
          have q263 : h258 75 13 = h6 75 13 := by rw [← e260]; exact x_up_k (by decide)
          have q264 : h6 75 13 = h 75 13 := jK 0 f8 rg_75_13_0_1 (by omega) (by omega) (by decide)
          refine x_getC (np := 28) (x := 717) (f := 13) (q := (h 75 13)) (by decide +kernel) (by decide) (by decide +kernel) (q263.trans q264) (fun l265 => ?_)
          refine x_imul (np := 29) (x := 0) (i := 2) (j := u255) (v := (2147483648 + 2 * u255)) (by decide +kernel) (by omega) (by omega) (by omega) (by omega) (by decide) l254 ?_
          refine x_iadd (np := 30) (x := 0) (v := (2147484800 + 2 * u255)) (by decide +kernel) (by decide) (by omega) (by omega) (by omega) ?_
          refine x_const (np := 31) (x := 9223372043297226753) (a := 2147483649) (by decide +kernel) (by decide) (by decide) ?_
          refine x_iadd (np := 32) (x := 0) (v := (2147484801 + 2 * u255)) (by decide +kernel) (by omega) (by decide) (by omega) (by omega) ?_
          refine x_iload (np := 33) (x := 2) (by decide +kernel) rfl (by decide) ?_
          refine x_ast (np := 34) (x := 0) (kd := 1) (n := 1952) (i := (1153 + 2 * u255)) (by decide +kernel) (Or.inl rfl) (by decide +kernel) (by omega) (by omega) (by decide) (by decide) (fun z => absurd z (by decide)) ?_
          have j268 := jU (e := (1153 + 2 * u255)) (v := 2147483648) u255 j259 rg_76_1153_2_392 (by omega) (by omega) (by omega)
          have f270 := jF (e := (1153 + 2 * u255)) (v := 2147483648) u255 f261 rg_76_1153_2_392 (by omega) (by omega) (by decide)
          generalize e269 : x_up h258 76 (1153 + 2 * u255) 2147483648 = h267 at j268 f270 ⊢
          refine x_aload (np := 35) (x := 0) (by decide +kernel) rfl (x_nc_le (by decide)) ?_
          refine x_dup (np := 36) (x := 0) (by decide +kernel) (by have z := x_nc_le (k := 75) (by decide); unfold x_r; omega) ?_
          have q271 : h267 75 13 = h258 75 13 := by rw [← e269]; exact x_up_k (by decide)
          have q272 : h258 75 13 = h6 75 13 := by rw [← e260]; exact x_up_k (by decide)
          have q273 : h6 75 13 = h 75 13 := jK 0 f8 rg_75_13_0_1 (by omega) (by omega) (by decide)
          refine x_getC (np := 39) (x := 717) (f := 13) (q := (h 75 13)) (by decide +kernel) (by decide) (by decide +kernel) ((q271.trans q272).trans q273) (fun l274 => ?_)
          refine x_const (np := 40) (x := 9223372043297226753) (a := 2147483649) (by decide +kernel) (by decide) (by decide) ?_
          refine x_iadd (np := 41) (x := 0) (v := (1 + (h 75 13))) (by decide +kernel) l254 (by decide) (by omega) (by omega) ?_
          refine x_putI (np := 44) (x := 717) (f := 13) (by decide +kernel) (by decide +kernel) (by omega) (Or.inl (by decide)) ?_
          have j276 := jU (e := 13) (v := (1 + (h 75 13))) 0 j268 rg_75_13_0_1 (by omega) (by omega) (by omega)
          have f278 := jF (e := 13) (v := (1 + (h 75 13))) 0 f270 rg_75_13_0_1 (by omega) (by omega) (by decide)
          generalize e277 : x_up h267 75 13 (1 + (h 75 13)) = h275 at j276 f278 ⊢
          refine x_retV (np := 45) (x := 0) (by decide +kernel) (by decide +kernel) ⟨rfl, ?_⟩
          have q279 : h275 75 13 = (1 + (h 75 13)) := by rw [← e277]; exact x_up_at
          refine x_iload (np := 121) (x := 1) (by decide +kernel) rfl (by decide) ?_
          refine x_ifz (k := 2) (tg := 128) (np := 124) (by decide +kernel) (by decide) (by decide) (fun q280 => ?_) (fun q281 => ?_)
          · have q280 : 2147483651 < 2147483648 := q280
            exfalso; omega
          have q281 : ¬ (2147483651 < 2147483648) := q281
          refine x_const (np := 125) (x := 9223372043297226753) (a := 2147483649) (by decide +kernel) (by decide) (by decide) ?_
          refine x_goto (np := 128) (x := 129) (by decide +kernel) ?_
          have q282 : h275 75 13 = (1 + (h 75 13)) := by rw [← e277]; exact x_up_at
          have q283 : h275 75 7 = h267 75 7 := by rw [← e277]; exact x_up_i (by omega)
          have q284 : h267 75 7 = h258 75 7 := by rw [← e269]; exact x_up_k (by decide)
          have q285 : h258 75 7 = h6 75 7 := by rw [← e260]; exact x_up_k (by decide)
          have q286 : h275 75 7 = h267 75 7 := by rw [← e277]; exact x_up_i (by omega)
          have q287 : h267 75 7 = h258 75 7 := by rw [← e269]; exact x_up_k (by decide)
          have q288 : h258 75 7 = h6 75 7 := by rw [← e260]; exact x_up_k (by decide)
          have q289 : h275 75 13 = (1 + (h 75 13)) := by rw [← e277]; exact x_up_at
          have k293 : Kp h h6 (h 75 13 - 2147483648) := Kp.fr Kp.refl f8 (by omega) (by decide)
          have k292 : Kp h h258 (h 75 13 - 2147483648) := by rw [← e260]; exact Kp.up k293 (by omega) (fun i hi => by omega)
          have k291 : Kp h h267 (h 75 13 - 2147483648) := by rw [← e269]; exact Kp.up k292 (by omega) (fun i hi => by omega)
          have k290 : Kp h h275 (h 75 13 - 2147483648) := by rw [← e277]; exact Kp.oth k291 (by decide)
          have q294 : h275 75 13 = (1 + (h 75 13)) := by rw [← e277]; exact x_up_at
          have q296 : h275 76 (1152 + 2 * u255) = h267 76 (1152 + 2 * u255) := by rw [← e277]; exact x_up_k (by decide)
          have q297 : h267 76 (1152 + 2 * u255) = h258 76 (1152 + 2 * u255) := by rw [← e269]; exact x_up_i (by omega)
          have q298 : h258 76 (1152 + 2 * u255) = 2147483651 := by rw [← e260]; exact x_up_at
          have s295 : Seg (sg h275) u255 (u255 + 1) := Seg.push (show 2147483648 ≤ h275 76 (1152 + 2 * u255) by omega) (show h275 76 (1152 + 2 * u255) ≤ 2147483656 by omega)
          have s299 : Seg (sg h275) (h 75 13 - 2147483648) (h275 75 13 - 2147483648) := Seg.cast (Seg.kp s295 Kp.refl) (by omega) (by omega)
          have w300 : ¬ Wd tB tN 2 (sk tB tN (h 75 7)) := by rw [← c13]; exact Wd.no (by decide) (Is.no c27 (by omega)) c14
          have w301 : ¬ Wd tB tN 27 (sk tB tN (h 75 7)) := by rw [← c13]; exact Wd.no (by decide) (Is.no c36 (by omega)) c14
          have w302 : ¬ Wd tB tN 5 (sk tB tN (h 75 7)) := by rw [← c13]; exact Wd.no (by decide) (Is.no c45 (by omega)) c14
          have y303 := Is.yes c54 (by omega)
          have w304 : Wd tB tN 28 (sk tB tN (h 75 7)) := by rw [← c13]; exact Wd.of' (by decide) y303 c14
          have q306 : h275 75 7 = h267 75 7 := by rw [← e277]; exact x_up_i (by omega)
          have q307 : h267 75 7 = h258 75 7 := by rw [← e269]; exact x_up_k (by decide)
          have q308 : h258 75 7 = h6 75 7 := by rw [← e260]; exact x_up_k (by decide)
          have e305 : sk tB tN (h6 75 7) = sk tB tN (sk tB tN (h 75 7) + iv_tl 28) := by rw [← c13, ← y303.1]
          have q309 : h275 75 7 = h267 75 7 := by rw [← e277]; exact x_up_i (by omega)
          have q310 : h267 75 7 = h258 75 7 := by rw [← e269]; exact x_up_k (by decide)
          have q311 : h258 75 7 = h6 75 7 := by rw [← e260]; exact x_up_k (by decide)
          refine x_retI (np := 130) (x := 0) (by decide +kernel) (by decide) (Or.inr ⟨by decide +kernel, by omega, by omega⟩) ⟨_, rfl, (by decide), ?_⟩
          exact ⟨j276, f278, (by omega), (fun z => by omega), (fun z => by omega), (fun z => by omega), k290, (fun _ => s299), (fun l => gP_wd (i := 28) (by unfold six; decide) w304 rfl e305 (by omega) (congrArg (sk tB tN) (show h6 75 7 = h275 75 7 by omega)))⟩
        have q49 : ¬ (v41 = 2147483648) := q49
        have b312 := c44 (by omega)
        refine x_const (np := 70) (x := 9223372047592194050) (a := 2147483650) (by decide +kernel) (by decide) (by decide) ?_
        refine x_goto (np := 73) (x := 113) (by decide +kernel) ?_
        refine x_istore (np := 114) (x := 1) (lo' := [x_r 75, iv_c 2147483650]) (by decide +kernel) (by decide) (Nat.le_of_ble_eq_true rfl) rfl ?_
        refine x_aload (np := 115) (x := 0) (by decide +kernel) rfl (x_nc_le (by decide)) ?_
        refine x_iload (np := 116) (x := 1) (by decide +kernel) rfl (by decide) ?_
        refine x_const (np := 117) (x := 9223372039002259456) (a := 2147483648) (by decide +kernel) (by decide) (by decide) ?_
        refine x_nV (t := 6) (mj := 187) (n := 3) (rc := 12) (ml := 3) (nr := 0) (np := 120) (as := [x_r 75, iv_c 2147483650, iv_c 2147483648]) (rest := []) (lo1 := [x_r 75, iv_c 2147483650, iv_c 2147483648]) (by decide +kernel) (by decide) (by decide +kernel) (x_rb_of (by decide +kernel)) rfl rfl (x_wr (by decide) (x_wi (by decide) (x_wi (by decide) x_wn))) x_wn (by decide) rfl ?_
        refine x_aload (np := 1) (x := 0) (by decide +kernel) rfl (x_nc_le (by decide)) ?_
        have q313 : h6 75 1 = 76 := by have z := jB (e := 1) 0 j7 rg_75_1_0_1 (by decide) (by decide); omega
        refine x_getR (np := 4) (x := 705) (f := 1) (q := 76) (by decide +kernel) (by decide) (by decide +kernel) q313 ?_
        refine x_const (np := 7) (x := 9223376986804585600) (a := 2147484800) (by decide +kernel) (by decide) (by decide) ?_
        refine x_const (np := 8) (x := 9223372047592194050) (a := 2147483650) (by decide +kernel) (by decide) (by decide) ?_
        refine x_aload (np := 9) (x := 0) (by decide +kernel) rfl (x_nc_le (by decide)) ?_
        have q314 : h6 75 13 = h 75 13 := jK 0 f8 rg_75_13_0_1 (by omega) (by omega) (by decide)
        refine x_getC (np := 12) (x := 717) (f := 13) (q := (h 75 13)) (by decide +kernel) (by decide) (by decide +kernel) q314 (fun l315 => ?_)
        obtain ⟨u316, q317⟩ : ∃ z, (h 75 13) = 2147483648 + z := ⟨(h 75 13) - 2147483648, by omega⟩
        refine x_imul (np := 13) (x := 0) (i := 2) (j := u316) (v := (2147483648 + 2 * u316)) (by decide +kernel) (by omega) (by omega) (by omega) (by omega) (by decide) l315 ?_
        refine x_iadd (np := 14) (x := 0) (v := (2147484800 + 2 * u316)) (by decide +kernel) (by decide) (by omega) (by omega) (by omega) ?_
        refine x_iload (np := 15) (x := 1) (by decide +kernel) rfl (by decide) ?_
        refine x_ast (np := 16) (x := 0) (kd := 1) (n := 1952) (i := (1152 + 2 * u316)) (by decide +kernel) (Or.inl rfl) (by decide +kernel) (by omega) (by omega) (by decide) (by decide) (fun z => absurd z (by decide)) ?_
        have j320 := jU (e := (1152 + 2 * u316)) (v := 2147483650) u316 j7 rg_76_1152_2_390 (by omega) (by omega) (by omega)
        have f322 := jF (e := (1152 + 2 * u316)) (v := 2147483650) u316 f15 rg_76_1152_2_390 (by omega) (by omega) (by decide)
        generalize e321 : x_up h6 76 (1152 + 2 * u316) 2147483650 = h319 at j320 f322 ⊢
        refine x_aload (np := 17) (x := 0) (by decide +kernel) rfl (x_nc_le (by decide)) ?_
        have q323 : h319 75 1 = 76 := by have z := jB (e := 1) 0 j320 rg_75_1_0_1 (by decide) (by decide); omega
        refine x_getR (np := 20) (x := 705) (f := 1) (q := 76) (by decide +kernel) (by decide) (by decide +kernel) q323 ?_
        refine x_const (np := 23) (x := 9223376986804585600) (a := 2147484800) (by decide +kernel) (by decide) (by decide) ?_
        refine x_const (np := 24) (x := 9223372047592194050) (a := 2147483650) (by decide +kernel) (by decide) (by decide) ?_
        refine x_aload (np := 25) (x := 0) (by decide +kernel) rfl (x_nc_le (by decide)) ?_
        have q324 : h319 75 13 = h6 75 13 := by rw [← e321]; exact x_up_k (by decide)
        have q325 : h6 75 13 = h 75 13 := jK 0 f8 rg_75_13_0_1 (by omega) (by omega) (by decide)
        refine x_getC (np := 28) (x := 717) (f := 13) (q := (h 75 13)) (by decide +kernel) (by decide) (by decide +kernel) (q324.trans q325) (fun l326 => ?_)
        refine x_imul (np := 29) (x := 0) (i := 2) (j := u316) (v := (2147483648 + 2 * u316)) (by decide +kernel) (by omega) (by omega) (by omega) (by omega) (by decide) l315 ?_
        refine x_iadd (np := 30) (x := 0) (v := (2147484800 + 2 * u316)) (by decide +kernel) (by decide) (by omega) (by omega) (by omega) ?_
        refine x_const (np := 31) (x := 9223372043297226753) (a := 2147483649) (by decide +kernel) (by decide) (by decide) ?_
        refine x_iadd (np := 32) (x := 0) (v := (2147484801 + 2 * u316)) (by decide +kernel) (by omega) (by decide) (by omega) (by omega) ?_
        refine x_iload (np := 33) (x := 2) (by decide +kernel) rfl (by decide) ?_
        refine x_ast (np := 34) (x := 0) (kd := 1) (n := 1952) (i := (1153 + 2 * u316)) (by decide +kernel) (Or.inl rfl) (by decide +kernel) (by omega) (by omega) (by decide) (by decide) (fun z => absurd z (by decide)) ?_
        have j329 := jU (e := (1153 + 2 * u316)) (v := 2147483648) u316 j320 rg_76_1153_2_390 (by omega) (by omega) (by omega)
        have f331 := jF (e := (1153 + 2 * u316)) (v := 2147483648) u316 f322 rg_76_1153_2_390 (by omega) (by omega) (by decide)
        generalize e330 : x_up h319 76 (1153 + 2 * u316) 2147483648 = h328 at j329 f331 ⊢
        refine x_aload (np := 35) (x := 0) (by decide +kernel) rfl (x_nc_le (by decide)) ?_
        refine x_dup (np := 36) (x := 0) (by decide +kernel) (by have z := x_nc_le (k := 75) (by decide); unfold x_r; omega) ?_
        have q332 : h328 75 13 = h319 75 13 := by rw [← e330]; exact x_up_k (by decide)
        have q333 : h319 75 13 = h6 75 13 := by rw [← e321]; exact x_up_k (by decide)
        have q334 : h6 75 13 = h 75 13 := jK 0 f8 rg_75_13_0_1 (by omega) (by omega) (by decide)
        refine x_getC (np := 39) (x := 717) (f := 13) (q := (h 75 13)) (by decide +kernel) (by decide) (by decide +kernel) ((q332.trans q333).trans q334) (fun l335 => ?_)
        refine x_const (np := 40) (x := 9223372043297226753) (a := 2147483649) (by decide +kernel) (by decide) (by decide) ?_
        refine x_iadd (np := 41) (x := 0) (v := (1 + (h 75 13))) (by decide +kernel) l315 (by decide) (by omega) (by omega) ?_
        refine x_putI (np := 44) (x := 717) (f := 13) (by decide +kernel) (by decide +kernel) (by omega) (Or.inl (by decide)) ?_
        have j337 := jU (e := 13) (v := (1 + (h 75 13))) 0 j329 rg_75_13_0_1 (by omega) (by omega) (by omega)
        have f339 := jF (e := 13) (v := (1 + (h 75 13))) 0 f331 rg_75_13_0_1 (by omega) (by omega) (by decide)
        generalize e338 : x_up h328 75 13 (1 + (h 75 13)) = h336 at j337 f339 ⊢
        refine x_retV (np := 45) (x := 0) (by decide +kernel) (by decide +kernel) ⟨rfl, ?_⟩
        have q340 : h336 75 13 = (1 + (h 75 13)) := by rw [← e338]; exact x_up_at
        refine x_iload (np := 121) (x := 1) (by decide +kernel) rfl (by decide) ?_
        refine x_ifz (k := 2) (tg := 128) (np := 124) (by decide +kernel) (by decide) (by decide) (fun q341 => ?_) (fun q342 => ?_)
        · have q341 : 2147483650 < 2147483648 := q341
          exfalso; omega
        have q342 : ¬ (2147483650 < 2147483648) := q342
        refine x_const (np := 125) (x := 9223372043297226753) (a := 2147483649) (by decide +kernel) (by decide) (by decide) ?_
        refine x_goto (np := 128) (x := 129) (by decide +kernel) ?_
        have q343 : h336 75 13 = (1 + (h 75 13)) := by rw [← e338]; exact x_up_at
        have q344 : h336 75 7 = h328 75 7 := by rw [← e338]; exact x_up_i (by omega)
        have q345 : h328 75 7 = h319 75 7 := by rw [← e330]; exact x_up_k (by decide)
        have q346 : h319 75 7 = h6 75 7 := by rw [← e321]; exact x_up_k (by decide)
        have q347 : h336 75 7 = h328 75 7 := by rw [← e338]; exact x_up_i (by omega)
        have q348 : h328 75 7 = h319 75 7 := by rw [← e330]; exact x_up_k (by decide)
        have q349 : h319 75 7 = h6 75 7 := by rw [← e321]; exact x_up_k (by decide)
        have q350 : h336 75 13 = (1 + (h 75 13)) := by rw [← e338]; exact x_up_at
        have k354 : Kp h h6 (h 75 13 - 2147483648) := Kp.fr Kp.refl f8 (by omega) (by decide)
        have k353 : Kp h h319 (h 75 13 - 2147483648) := by rw [← e321]; exact Kp.up k354 (by omega) (fun i hi => by omega)
        have k352 : Kp h h328 (h 75 13 - 2147483648) := by rw [← e330]; exact Kp.up k353 (by omega) (fun i hi => by omega)
        have k351 : Kp h h336 (h 75 13 - 2147483648) := by rw [← e338]; exact Kp.oth k352 (by decide)
        have q355 : h336 75 13 = (1 + (h 75 13)) := by rw [← e338]; exact x_up_at
        have q357 : h336 76 (1152 + 2 * u316) = h328 76 (1152 + 2 * u316) := by rw [← e338]; exact x_up_k (by decide)
        have q358 : h328 76 (1152 + 2 * u316) = h319 76 (1152 + 2 * u316) := by rw [← e330]; exact x_up_i (by omega)
        have q359 : h319 76 (1152 + 2 * u316) = 2147483650 := by rw [← e321]; exact x_up_at
        have s356 : Seg (sg h336) u316 (u316 + 1) := Seg.push (show 2147483648 ≤ h336 76 (1152 + 2 * u316) by omega) (show h336 76 (1152 + 2 * u316) ≤ 2147483656 by omega)
        have s360 : Seg (sg h336) (h 75 13 - 2147483648) (h336 75 13 - 2147483648) := Seg.cast (Seg.kp s356 Kp.refl) (by omega) (by omega)
        have w361 : ¬ Wd tB tN 2 (sk tB tN (h 75 7)) := by rw [← c13]; exact Wd.no (by decide) (Is.no c27 (by omega)) c14
        have w362 : ¬ Wd tB tN 27 (sk tB tN (h 75 7)) := by rw [← c13]; exact Wd.no (by decide) (Is.no c36 (by omega)) c14
        have y363 := Is.yes c45 (by omega)
        have w364 : Wd tB tN 5 (sk tB tN (h 75 7)) := by rw [← c13]; exact Wd.of' (by decide) y363 c14
        have q366 : h336 75 7 = h328 75 7 := by rw [← e338]; exact x_up_i (by omega)
        have q367 : h328 75 7 = h319 75 7 := by rw [← e330]; exact x_up_k (by decide)
        have q368 : h319 75 7 = h6 75 7 := by rw [← e321]; exact x_up_k (by decide)
        have e365 : sk tB tN (h6 75 7) = sk tB tN (sk tB tN (h 75 7) + iv_tl 5) := by rw [← c13, ← y363.1]
        have q369 : h336 75 7 = h328 75 7 := by rw [← e338]; exact x_up_i (by omega)
        have q370 : h328 75 7 = h319 75 7 := by rw [← e330]; exact x_up_k (by decide)
        have q371 : h319 75 7 = h6 75 7 := by rw [← e321]; exact x_up_k (by decide)
        refine x_retI (np := 130) (x := 0) (by decide +kernel) (by decide) (Or.inr ⟨by decide +kernel, by omega, by omega⟩) ⟨_, rfl, (by decide), ?_⟩
        exact ⟨j337, f339, (by omega), (fun z => by omega), (fun z => by omega), (fun z => by omega), k351, (fun _ => s360), (fun l => gP_wd (i := 5) (by unfold six; decide) w364 rfl e365 (by omega) (congrArg (sk tB tN) (show h6 75 7 = h336 75 7 by omega)))⟩
      have q40 : ¬ (v32 = 2147483648) := q40
      have b372 := c35 (by omega)
      refine x_const (np := 57) (x := 9223372043297226753) (a := 2147483649) (by decide +kernel) (by decide) (by decide) ?_
      refine x_goto (np := 60) (x := 113) (by decide +kernel) ?_
      refine x_istore (np := 114) (x := 1) (lo' := [x_r 75, iv_c 2147483649]) (by decide +kernel) (by decide) (Nat.le_of_ble_eq_true rfl) rfl ?_
      refine x_aload (np := 115) (x := 0) (by decide +kernel) rfl (x_nc_le (by decide)) ?_
      refine x_iload (np := 116) (x := 1) (by decide +kernel) rfl (by decide) ?_
      refine x_const (np := 117) (x := 9223372039002259456) (a := 2147483648) (by decide +kernel) (by decide) (by decide) ?_
      refine x_nV (t := 6) (mj := 187) (n := 3) (rc := 12) (ml := 3) (nr := 0) (np := 120) (as := [x_r 75, iv_c 2147483649, iv_c 2147483648]) (rest := []) (lo1 := [x_r 75, iv_c 2147483649, iv_c 2147483648]) (by decide +kernel) (by decide) (by decide +kernel) (x_rb_of (by decide +kernel)) rfl rfl (x_wr (by decide) (x_wi (by decide) (x_wi (by decide) x_wn))) x_wn (by decide) rfl ?_
      refine x_aload (np := 1) (x := 0) (by decide +kernel) rfl (x_nc_le (by decide)) ?_
      have q373 : h6 75 1 = 76 := by have z := jB (e := 1) 0 j7 rg_75_1_0_1 (by decide) (by decide); omega
      refine x_getR (np := 4) (x := 705) (f := 1) (q := 76) (by decide +kernel) (by decide) (by decide +kernel) q373 ?_
      refine x_const (np := 7) (x := 9223376986804585600) (a := 2147484800) (by decide +kernel) (by decide) (by decide) ?_
      refine x_const (np := 8) (x := 9223372047592194050) (a := 2147483650) (by decide +kernel) (by decide) (by decide) ?_
      refine x_aload (np := 9) (x := 0) (by decide +kernel) rfl (x_nc_le (by decide)) ?_
      have q374 : h6 75 13 = h 75 13 := jK 0 f8 rg_75_13_0_1 (by omega) (by omega) (by decide)
      refine x_getC (np := 12) (x := 717) (f := 13) (q := (h 75 13)) (by decide +kernel) (by decide) (by decide +kernel) q374 (fun l375 => ?_)
      obtain ⟨u376, q377⟩ : ∃ z, (h 75 13) = 2147483648 + z := ⟨(h 75 13) - 2147483648, by omega⟩
      refine x_imul (np := 13) (x := 0) (i := 2) (j := u376) (v := (2147483648 + 2 * u376)) (by decide +kernel) (by omega) (by omega) (by omega) (by omega) (by decide) l375 ?_
      refine x_iadd (np := 14) (x := 0) (v := (2147484800 + 2 * u376)) (by decide +kernel) (by decide) (by omega) (by omega) (by omega) ?_
      refine x_iload (np := 15) (x := 1) (by decide +kernel) rfl (by decide) ?_
      refine x_ast (np := 16) (x := 0) (kd := 1) (n := 1952) (i := (1152 + 2 * u376)) (by decide +kernel) (Or.inl rfl) (by decide +kernel) (by omega) (by omega) (by decide) (by decide) (fun z => absurd z (by decide)) ?_
      have j380 := jU (e := (1152 + 2 * u376)) (v := 2147483649) u376 j7 rg_76_1152_2_392 (by omega) (by omega) (by omega)
      have f382 := jF (e := (1152 + 2 * u376)) (v := 2147483649) u376 f15 rg_76_1152_2_392 (by omega) (by omega) (by decide)
      generalize e381 : x_up h6 76 (1152 + 2 * u376) 2147483649 = h379 at j380 f382 ⊢
      refine x_aload (np := 17) (x := 0) (by decide +kernel) rfl (x_nc_le (by decide)) ?_
      have q383 : h379 75 1 = 76 := by have z := jB (e := 1) 0 j380 rg_75_1_0_1 (by decide) (by decide); omega
      refine x_getR (np := 20) (x := 705) (f := 1) (q := 76) (by decide +kernel) (by decide) (by decide +kernel) q383 ?_
      refine x_const (np := 23) (x := 9223376986804585600) (a := 2147484800) (by decide +kernel) (by decide) (by decide) ?_
      refine x_const (np := 24) (x := 9223372047592194050) (a := 2147483650) (by decide +kernel) (by decide) (by decide) ?_
      refine x_aload (np := 25) (x := 0) (by decide +kernel) rfl (x_nc_le (by decide)) ?_
      have q384 : h379 75 13 = h6 75 13 := by rw [← e381]; exact x_up_k (by decide)
      have q385 : h6 75 13 = h 75 13 := jK 0 f8 rg_75_13_0_1 (by omega) (by omega) (by decide)
      refine x_getC (np := 28) (x := 717) (f := 13) (q := (h 75 13)) (by decide +kernel) (by decide) (by decide +kernel) (q384.trans q385) (fun l386 => ?_)
      refine x_imul (np := 29) (x := 0) (i := 2) (j := u376) (v := (2147483648 + 2 * u376)) (by decide +kernel) (by omega) (by omega) (by omega) (by omega) (by decide) l375 ?_
      refine x_iadd (np := 30) (x := 0) (v := (2147484800 + 2 * u376)) (by decide +kernel) (by decide) (by omega) (by omega) (by omega) ?_
      refine x_const (np := 31) (x := 9223372043297226753) (a := 2147483649) (by decide +kernel) (by decide) (by decide) ?_
      refine x_iadd (np := 32) (x := 0) (v := (2147484801 + 2 * u376)) (by decide +kernel) (by omega) (by decide) (by omega) (by omega) ?_
      refine x_iload (np := 33) (x := 2) (by decide +kernel) rfl (by decide) ?_
      refine x_ast (np := 34) (x := 0) (kd := 1) (n := 1952) (i := (1153 + 2 * u376)) (by decide +kernel) (Or.inl rfl) (by decide +kernel) (by omega) (by omega) (by decide) (by decide) (fun z => absurd z (by decide)) ?_
      have j389 := jU (e := (1153 + 2 * u376)) (v := 2147483648) u376 j380 rg_76_1153_2_392 (by omega) (by omega) (by omega)
      have f391 := jF (e := (1153 + 2 * u376)) (v := 2147483648) u376 f382 rg_76_1153_2_392 (by omega) (by omega) (by decide)
      generalize e390 : x_up h379 76 (1153 + 2 * u376) 2147483648 = h388 at j389 f391 ⊢
      refine x_aload (np := 35) (x := 0) (by decide +kernel) rfl (x_nc_le (by decide)) ?_
      refine x_dup (np := 36) (x := 0) (by decide +kernel) (by have z := x_nc_le (k := 75) (by decide); unfold x_r; omega) ?_
      have q392 : h388 75 13 = h379 75 13 := by rw [← e390]; exact x_up_k (by decide)
      have q393 : h379 75 13 = h6 75 13 := by rw [← e381]; exact x_up_k (by decide)
      have q394 : h6 75 13 = h 75 13 := jK 0 f8 rg_75_13_0_1 (by omega) (by omega) (by decide)
      refine x_getC (np := 39) (x := 717) (f := 13) (q := (h 75 13)) (by decide +kernel) (by decide) (by decide +kernel) ((q392.trans q393).trans q394) (fun l395 => ?_)
      refine x_const (np := 40) (x := 9223372043297226753) (a := 2147483649) (by decide +kernel) (by decide) (by decide) ?_
      refine x_iadd (np := 41) (x := 0) (v := (1 + (h 75 13))) (by decide +kernel) l375 (by decide) (by omega) (by omega) ?_
      refine x_putI (np := 44) (x := 717) (f := 13) (by decide +kernel) (by decide +kernel) (by omega) (Or.inl (by decide)) ?_
      have j397 := jU (e := 13) (v := (1 + (h 75 13))) 0 j389 rg_75_13_0_1 (by omega) (by omega) (by omega)
      have f399 := jF (e := 13) (v := (1 + (h 75 13))) 0 f391 rg_75_13_0_1 (by omega) (by omega) (by decide)
      generalize e398 : x_up h388 75 13 (1 + (h 75 13)) = h396 at j397 f399 ⊢
      refine x_retV (np := 45) (x := 0) (by decide +kernel) (by decide +kernel) ⟨rfl, ?_⟩
      have q400 : h396 75 13 = (1 + (h 75 13)) := by rw [← e398]; exact x_up_at
      refine x_iload (np := 121) (x := 1) (by decide +kernel) rfl (by decide) ?_
      refine x_ifz (k := 2) (tg := 128) (np := 124) (by decide +kernel) (by decide) (by decide) (fun q401 => ?_) (fun q402 => ?_)
      · have q401 : 2147483649 < 2147483648 := q401
        exfalso; omega
      have q402 : ¬ (2147483649 < 2147483648) := q402
      refine x_const (np := 125) (x := 9223372043297226753) (a := 2147483649) (by decide +kernel) (by decide) (by decide) ?_
      refine x_goto (np := 128) (x := 129) (by decide +kernel) ?_
      have q403 : h396 75 13 = (1 + (h 75 13)) := by rw [← e398]; exact x_up_at
      have q404 : h396 75 7 = h388 75 7 := by rw [← e398]; exact x_up_i (by omega)
      have q405 : h388 75 7 = h379 75 7 := by rw [← e390]; exact x_up_k (by decide)
      have q406 : h379 75 7 = h6 75 7 := by rw [← e381]; exact x_up_k (by decide)
      have q407 : h396 75 7 = h388 75 7 := by rw [← e398]; exact x_up_i (by omega)
      have q408 : h388 75 7 = h379 75 7 := by rw [← e390]; exact x_up_k (by decide)
      have q409 : h379 75 7 = h6 75 7 := by rw [← e381]; exact x_up_k (by decide)
      have q410 : h396 75 13 = (1 + (h 75 13)) := by rw [← e398]; exact x_up_at
      have k414 : Kp h h6 (h 75 13 - 2147483648) := Kp.fr Kp.refl f8 (by omega) (by decide)
      have k413 : Kp h h379 (h 75 13 - 2147483648) := by rw [← e381]; exact Kp.up k414 (by omega) (fun i hi => by omega)
      have k412 : Kp h h388 (h 75 13 - 2147483648) := by rw [← e390]; exact Kp.up k413 (by omega) (fun i hi => by omega)
      have k411 : Kp h h396 (h 75 13 - 2147483648) := by rw [← e398]; exact Kp.oth k412 (by decide)
      have q415 : h396 75 13 = (1 + (h 75 13)) := by rw [← e398]; exact x_up_at
      have q417 : h396 76 (1152 + 2 * u376) = h388 76 (1152 + 2 * u376) := by rw [← e398]; exact x_up_k (by decide)
      have q418 : h388 76 (1152 + 2 * u376) = h379 76 (1152 + 2 * u376) := by rw [← e390]; exact x_up_i (by omega)
      have q419 : h379 76 (1152 + 2 * u376) = 2147483649 := by rw [← e381]; exact x_up_at
      have s416 : Seg (sg h396) u376 (u376 + 1) := Seg.push (show 2147483648 ≤ h396 76 (1152 + 2 * u376) by omega) (show h396 76 (1152 + 2 * u376) ≤ 2147483656 by omega)
      have s420 : Seg (sg h396) (h 75 13 - 2147483648) (h396 75 13 - 2147483648) := Seg.cast (Seg.kp s416 Kp.refl) (by omega) (by omega)
      have w421 : ¬ Wd tB tN 2 (sk tB tN (h 75 7)) := by rw [← c13]; exact Wd.no (by decide) (Is.no c27 (by omega)) c14
      have y422 := Is.yes c36 (by omega)
      have w423 : Wd tB tN 27 (sk tB tN (h 75 7)) := by rw [← c13]; exact Wd.of' (by decide) y422 c14
      have q425 : h396 75 7 = h388 75 7 := by rw [← e398]; exact x_up_i (by omega)
      have q426 : h388 75 7 = h379 75 7 := by rw [← e390]; exact x_up_k (by decide)
      have q427 : h379 75 7 = h6 75 7 := by rw [← e381]; exact x_up_k (by decide)
      have e424 : sk tB tN (h6 75 7) = sk tB tN (sk tB tN (h 75 7) + iv_tl 27) := by rw [← c13, ← y422.1]
      have q428 : h396 75 7 = h388 75 7 := by rw [← e398]; exact x_up_i (by omega)
      have q429 : h388 75 7 = h379 75 7 := by rw [← e390]; exact x_up_k (by decide)
      have q430 : h379 75 7 = h6 75 7 := by rw [← e381]; exact x_up_k (by decide)
      refine x_retI (np := 130) (x := 0) (by decide +kernel) (by decide) (Or.inr ⟨by decide +kernel, by omega, by omega⟩) ⟨_, rfl, (by decide), ?_⟩
      exact ⟨j397, f399, (by omega), (fun z => by omega), (fun z => by omega), (fun z => by omega), k411, (fun _ => s420), (fun l => gP_wd (i := 27) (by unfold six; decide) w423 rfl e424 (by omega) (congrArg (sk tB tN) (show h6 75 7 = h396 75 7 by omega)))⟩
    have q31 : ¬ (v22 = 2147483648) := q31
    have b431 := c26 (by omega)
    refine x_const (np := 44) (x := 9223372039002259456) (a := 2147483648) (by decide +kernel) (by decide) (by decide) ?_
    refine x_goto (np := 47) (x := 113) (by decide +kernel) ?_
    refine x_istore (np := 114) (x := 1) (lo' := [x_r 75, iv_c 2147483648]) (by decide +kernel) (by decide) (Nat.le_of_ble_eq_true rfl) rfl ?_
    refine x_aload (np := 115) (x := 0) (by decide +kernel) rfl (x_nc_le (by decide)) ?_
    refine x_iload (np := 116) (x := 1) (by decide +kernel) rfl (by decide) ?_
    refine x_const (np := 117) (x := 9223372039002259456) (a := 2147483648) (by decide +kernel) (by decide) (by decide) ?_
    refine x_nV (t := 6) (mj := 187) (n := 3) (rc := 12) (ml := 3) (nr := 0) (np := 120) (as := [x_r 75, iv_c 2147483648, iv_c 2147483648]) (rest := []) (lo1 := [x_r 75, iv_c 2147483648, iv_c 2147483648]) (by decide +kernel) (by decide) (by decide +kernel) (x_rb_of (by decide +kernel)) rfl rfl (x_wr (by decide) (x_wi (by decide) (x_wi (by decide) x_wn))) x_wn (by decide) rfl ?_
    refine x_aload (np := 1) (x := 0) (by decide +kernel) rfl (x_nc_le (by decide)) ?_
    have q432 : h6 75 1 = 76 := by have z := jB (e := 1) 0 j7 rg_75_1_0_1 (by decide) (by decide); omega
    refine x_getR (np := 4) (x := 705) (f := 1) (q := 76) (by decide +kernel) (by decide) (by decide +kernel) q432 ?_
    refine x_const (np := 7) (x := 9223376986804585600) (a := 2147484800) (by decide +kernel) (by decide) (by decide) ?_
    refine x_const (np := 8) (x := 9223372047592194050) (a := 2147483650) (by decide +kernel) (by decide) (by decide) ?_
    refine x_aload (np := 9) (x := 0) (by decide +kernel) rfl (x_nc_le (by decide)) ?_
    have q433 : h6 75 13 = h 75 13 := jK 0 f8 rg_75_13_0_1 (by omega) (by omega) (by decide)
    refine x_getC (np := 12) (x := 717) (f := 13) (q := (h 75 13)) (by decide +kernel) (by decide) (by decide +kernel) q433 (fun l434 => ?_)
    obtain ⟨u435, q436⟩ : ∃ z, (h 75 13) = 2147483648 + z := ⟨(h 75 13) - 2147483648, by omega⟩
    refine x_imul (np := 13) (x := 0) (i := 2) (j := u435) (v := (2147483648 + 2 * u435)) (by decide +kernel) (by omega) (by omega) (by omega) (by omega) (by decide) l434 ?_
    refine x_iadd (np := 14) (x := 0) (v := (2147484800 + 2 * u435)) (by decide +kernel) (by decide) (by omega) (by omega) (by omega) ?_
    refine x_iload (np := 15) (x := 1) (by decide +kernel) rfl (by decide) ?_
    refine x_ast (np := 16) (x := 0) (kd := 1) (n := 1952) (i := (1152 + 2 * u435)) (by decide +kernel) (Or.inl rfl) (by decide +kernel) (by omega) (by omega) (by decide) (by decide) (fun z => absurd z (by decide)) ?_
    have j439 := jU (e := (1152 + 2 * u435)) (v := 2147483648) u435 j7 rg_76_1152_2_393 (by omega) (by omega) (by omega)
    have f441 := jF (e := (1152 + 2 * u435)) (v := 2147483648) u435 f15 rg_76_1152_2_393 (by omega) (by omega) (by decide)
    generalize e440 : x_up h6 76 (1152 + 2 * u435) 2147483648 = h438 at j439 f441 ⊢
    refine x_aload (np := 17) (x := 0) (by decide +kernel) rfl (x_nc_le (by decide)) ?_
    have q442 : h438 75 1 = 76 := by have z := jB (e := 1) 0 j439 rg_75_1_0_1 (by decide) (by decide); omega
    refine x_getR (np := 20) (x := 705) (f := 1) (q := 76) (by decide +kernel) (by decide) (by decide +kernel) q442 ?_
    refine x_const (np := 23) (x := 9223376986804585600) (a := 2147484800) (by decide +kernel) (by decide) (by decide) ?_
    refine x_const (np := 24) (x := 9223372047592194050) (a := 2147483650) (by decide +kernel) (by decide) (by decide) ?_
    refine x_aload (np := 25) (x := 0) (by decide +kernel) rfl (x_nc_le (by decide)) ?_
    have q443 : h438 75 13 = h6 75 13 := by rw [← e440]; exact x_up_k (by decide)
    have q444 : h6 75 13 = h 75 13 := jK 0 f8 rg_75_13_0_1 (by omega) (by omega) (by decide)
    refine x_getC (np := 28) (x := 717) (f := 13) (q := (h 75 13)) (by decide +kernel) (by decide) (by decide +kernel) (q443.trans q444) (fun l445 => ?_)
    refine x_imul (np := 29) (x := 0) (i := 2) (j := u435) (v := (2147483648 + 2 * u435)) (by decide +kernel) (by omega) (by omega) (by omega) (by omega) (by decide) l434 ?_
    refine x_iadd (np := 30) (x := 0) (v := (2147484800 + 2 * u435)) (by decide +kernel) (by decide) (by omega) (by omega) (by omega) ?_
    refine x_const (np := 31) (x := 9223372043297226753) (a := 2147483649) (by decide +kernel) (by decide) (by decide) ?_
    refine x_iadd (np := 32) (x := 0) (v := (2147484801 + 2 * u435)) (by decide +kernel) (by omega) (by decide) (by omega) (by omega) ?_
    refine x_iload (np := 33) (x := 2) (by decide +kernel) rfl (by decide) ?_
    refine x_ast (np := 34) (x := 0) (kd := 1) (n := 1952) (i := (1153 + 2 * u435)) (by decide +kernel) (Or.inl rfl) (by decide +kernel) (by omega) (by omega) (by decide) (by decide) (fun z => absurd z (by decide)) ?_
    have j448 := jU (e := (1153 + 2 * u435)) (v := 2147483648) u435 j439 rg_76_1153_2_393 (by omega) (by omega) (by omega)
    have f450 := jF (e := (1153 + 2 * u435)) (v := 2147483648) u435 f441 rg_76_1153_2_393 (by omega) (by omega) (by decide)
    generalize e449 : x_up h438 76 (1153 + 2 * u435) 2147483648 = h447 at j448 f450 ⊢
    refine x_aload (np := 35) (x := 0) (by decide +kernel) rfl (x_nc_le (by decide)) ?_
    refine x_dup (np := 36) (x := 0) (by decide +kernel) (by have z := x_nc_le (k := 75) (by decide); unfold x_r; omega) ?_
    have q451 : h447 75 13 = h438 75 13 := by rw [← e449]; exact x_up_k (by decide)
    have q452 : h438 75 13 = h6 75 13 := by rw [← e440]; exact x_up_k (by decide)
    have q453 : h6 75 13 = h 75 13 := jK 0 f8 rg_75_13_0_1 (by omega) (by omega) (by decide)
    refine x_getC (np := 39) (x := 717) (f := 13) (q := (h 75 13)) (by decide +kernel) (by decide) (by decide +kernel) ((q451.trans q452).trans q453) (fun l454 => ?_)
    refine x_const (np := 40) (x := 9223372043297226753) (a := 2147483649) (by decide +kernel) (by decide) (by decide) ?_
    refine x_iadd (np := 41) (x := 0) (v := (1 + (h 75 13))) (by decide +kernel) l434 (by decide) (by omega) (by omega) ?_
    refine x_putI (np := 44) (x := 717) (f := 13) (by decide +kernel) (by decide +kernel) (by omega) (Or.inl (by decide)) ?_
    have j456 := jU (e := 13) (v := (1 + (h 75 13))) 0 j448 rg_75_13_0_1 (by omega) (by omega) (by omega)
    have f458 := jF (e := 13) (v := (1 + (h 75 13))) 0 f450 rg_75_13_0_1 (by omega) (by omega) (by decide)
    generalize e457 : x_up h447 75 13 (1 + (h 75 13)) = h455 at j456 f458 ⊢
    refine x_retV (np := 45) (x := 0) (by decide +kernel) (by decide +kernel) ⟨rfl, ?_⟩
    have q459 : h455 75 13 = (1 + (h 75 13)) := by rw [← e457]; exact x_up_at
    refine x_iload (np := 121) (x := 1) (by decide +kernel) rfl (by decide) ?_
    refine x_ifz (k := 2) (tg := 128) (np := 124) (by decide +kernel) (by decide) (by decide) (fun q460 => ?_) (fun q461 => ?_)
    · have q460 : 2147483648 < 2147483648 := q460
      exfalso; omega
    have q461 : ¬ (2147483648 < 2147483648) := q461
    refine x_const (np := 125) (x := 9223372043297226753) (a := 2147483649) (by decide +kernel) (by decide) (by decide) ?_
    refine x_goto (np := 128) (x := 129) (by decide +kernel) ?_
    have q462 : h455 75 13 = (1 + (h 75 13)) := by rw [← e457]; exact x_up_at
    have q463 : h455 75 7 = h447 75 7 := by rw [← e457]; exact x_up_i (by omega)
    have q464 : h447 75 7 = h438 75 7 := by rw [← e449]; exact x_up_k (by decide)
    have q465 : h438 75 7 = h6 75 7 := by rw [← e440]; exact x_up_k (by decide)
    have q466 : h455 75 7 = h447 75 7 := by rw [← e457]; exact x_up_i (by omega)
    have q467 : h447 75 7 = h438 75 7 := by rw [← e449]; exact x_up_k (by decide)
    have q468 : h438 75 7 = h6 75 7 := by rw [← e440]; exact x_up_k (by decide)
    have q469 : h455 75 13 = (1 + (h 75 13)) := by rw [← e457]; exact x_up_at
    have k473 : Kp h h6 (h 75 13 - 2147483648) := Kp.fr Kp.refl f8 (by omega) (by decide)
    have k472 : Kp h h438 (h 75 13 - 2147483648) := by rw [← e440]; exact Kp.up k473 (by omega) (fun i hi => by omega)
    have k471 : Kp h h447 (h 75 13 - 2147483648) := by rw [← e449]; exact Kp.up k472 (by omega) (fun i hi => by omega)
    have k470 : Kp h h455 (h 75 13 - 2147483648) := by rw [← e457]; exact Kp.oth k471 (by decide)
    have q474 : h455 75 13 = (1 + (h 75 13)) := by rw [← e457]; exact x_up_at
    have q476 : h455 76 (1152 + 2 * u435) = h447 76 (1152 + 2 * u435) := by rw [← e457]; exact x_up_k (by decide)
    have q477 : h447 76 (1152 + 2 * u435) = h438 76 (1152 + 2 * u435) := by rw [← e449]; exact x_up_i (by omega)
    have q478 : h438 76 (1152 + 2 * u435) = 2147483648 := by rw [← e440]; exact x_up_at
    have s475 : Seg (sg h455) u435 (u435 + 1) := Seg.push (show 2147483648 ≤ h455 76 (1152 + 2 * u435) by omega) (show h455 76 (1152 + 2 * u435) ≤ 2147483656 by omega)
    have s479 : Seg (sg h455) (h 75 13 - 2147483648) (h455 75 13 - 2147483648) := Seg.cast (Seg.kp s475 Kp.refl) (by omega) (by omega)
    have y480 := Is.yes c27 (by omega)
    have w481 : Wd tB tN 2 (sk tB tN (h 75 7)) := by rw [← c13]; exact Wd.of' (by decide) y480 c14
    have q483 : h455 75 7 = h447 75 7 := by rw [← e457]; exact x_up_i (by omega)
    have q484 : h447 75 7 = h438 75 7 := by rw [← e449]; exact x_up_k (by decide)
    have q485 : h438 75 7 = h6 75 7 := by rw [← e440]; exact x_up_k (by decide)
    have e482 : sk tB tN (h6 75 7) = sk tB tN (sk tB tN (h 75 7) + iv_tl 2) := by rw [← c13, ← y480.1]
    have q486 : h455 75 7 = h447 75 7 := by rw [← e457]; exact x_up_i (by omega)
    have q487 : h447 75 7 = h438 75 7 := by rw [← e449]; exact x_up_k (by decide)
    have q488 : h438 75 7 = h6 75 7 := by rw [← e440]; exact x_up_k (by decide)
    refine x_retI (np := 130) (x := 0) (by decide +kernel) (by decide) (Or.inr ⟨by decide +kernel, by omega, by omega⟩) ⟨_, rfl, (by decide), ?_⟩
    exact ⟨j456, f458, (by omega), (fun z => by omega), (fun z => by omega), (fun z => by omega), k470, (fun _ => s479), (fun l => gP_wd (i := 2) (by unfold six; decide) w481 rfl e482 (by omega) (congrArg (sk tB tN) (show h6 75 7 = h455 75 7 by omega)))⟩
  have q21 : ¬ ((h6 75 7) ≠ (h6 75 9)) := q21
  refine x_aload (np := 16) (x := 0) (by decide +kernel) rfl (x_nc_le (by decide)) ?_
  refine x_const (np := 17) (x := 9223372039002259456) (a := 2147483648) (by decide +kernel) (by decide) (by decide) ?_
  refine x_const (np := 20) (x := 9223376329674589159) (a := 2147484647) (by decide +kernel) (by decide) (by decide) ?_
  have m492 := Tq.fr hT f8 (by decide) (by decide)
  refine x_cI (t := 6) (mj := 174) (n := 3) (rc := 12) (ml := 4) (nr := 0) (np := 23) (as := [x_r 75, iv_c 2147483648, iv_c 2147484647]) (rest := []) (lo1 := [x_r 75, iv_c 2147483648, iv_c 2147484647, 147573952589676412928]) (by decide +kernel) (by decide) (by decide +kernel) (x_rb_of (by decide +kernel)) rfl rfl (x_wr (by decide) (x_wi (by decide) (x_wi (by decide) x_wn))) x_wn (by decide) rfl (c174_75n j7  (by omega) (by omega) m492) (fun v489 h493 l490 q491 => ?_)
  obtain ⟨j494, f495, b496, c497, c498, c499, c500, c501, c502⟩ := q491
  have f503 := Fr.trans f15 f495 (by decide)
  have b504 := jB (e := 7) 0 j494 rg_75_7_0_1 (by omega) (by omega)
  have b505 := c501 (by omega)
  refine x_istore (np := 24) (x := 1) (lo' := [x_r 75, iv_c v489]) (by decide +kernel) l490 (Nat.le_of_ble_eq_true rfl) rfl ?_
  refine x_aload (np := 25) (x := 0) (by decide +kernel) rfl (x_nc_le (by decide)) ?_
  refine x_const (np := 27) (x := 9223372073361997832) (a := 2147483656) (by decide +kernel) (by decide) (by decide) ?_
  refine x_iload (np := 28) (x := 1) (by decide +kernel) rfl l490 ?_
  refine x_nV (t := 6) (mj := 187) (n := 3) (rc := 12) (ml := 3) (nr := 0) (np := 31) (as := [x_r 75, iv_c 2147483656, iv_c v489]) (rest := []) (lo1 := [x_r 75, iv_c 2147483656, iv_c v489]) (by decide +kernel) (by decide) (by decide +kernel) (x_rb_of (by decide +kernel)) rfl rfl (x_wr (by decide) (x_wi (by decide) (x_wi l490 x_wn))) x_wn (by decide) rfl ?_
  refine x_aload (np := 1) (x := 0) (by decide +kernel) rfl (x_nc_le (by decide)) ?_
  have q506 : h493 75 1 = 76 := by have z := jB (e := 1) 0 j494 rg_75_1_0_1 (by decide) (by decide); omega
  refine x_getR (np := 4) (x := 705) (f := 1) (q := 76) (by decide +kernel) (by decide) (by decide +kernel) q506 ?_
  refine x_const (np := 7) (x := 9223376986804585600) (a := 2147484800) (by decide +kernel) (by decide) (by decide) ?_
  refine x_const (np := 8) (x := 9223372047592194050) (a := 2147483650) (by decide +kernel) (by decide) (by decide) ?_
  refine x_aload (np := 9) (x := 0) (by decide +kernel) rfl (x_nc_le (by decide)) ?_
  have q507 : h493 75 13 = h6 75 13 := jK 0 f495 rg_75_13_0_1 (by omega) (by omega) (by decide)
  have q508 : h6 75 13 = h 75 13 := jK 0 f8 rg_75_13_0_1 (by omega) (by omega) (by decide)
  refine x_getC (np := 12) (x := 717) (f := 13) (q := (h 75 13)) (by decide +kernel) (by decide) (by decide +kernel) (q507.trans q508) (fun l509 => ?_)
  obtain ⟨u510, q511⟩ : ∃ z, (h 75 13) = 2147483648 + z := ⟨(h 75 13) - 2147483648, by omega⟩
  refine x_imul (np := 13) (x := 0) (i := 2) (j := u510) (v := (2147483648 + 2 * u510)) (by decide +kernel) (by omega) (by omega) (by omega) (by omega) (by decide) l509 ?_
  refine x_iadd (np := 14) (x := 0) (v := (2147484800 + 2 * u510)) (by decide +kernel) (by decide) (by omega) (by omega) (by omega) ?_
  refine x_iload (np := 15) (x := 1) (by decide +kernel) rfl (by decide) ?_
  refine x_ast (np := 16) (x := 0) (kd := 1) (n := 1952) (i := (1152 + 2 * u510)) (by decide +kernel) (Or.inl rfl) (by decide +kernel) (by omega) (by omega) (by decide) (by decide) (fun z => absurd z (by decide)) ?_
  have j514 := jU (e := (1152 + 2 * u510)) (v := 2147483656) u510 j494 rg_76_1152_2_396 (by omega) (by omega) (by omega)
  have f516 := jF (e := (1152 + 2 * u510)) (v := 2147483656) u510 f503 rg_76_1152_2_396 (by omega) (by omega) (by decide)
  generalize e515 : x_up h493 76 (1152 + 2 * u510) 2147483656 = h513 at j514 f516 ⊢
  refine x_aload (np := 17) (x := 0) (by decide +kernel) rfl (x_nc_le (by decide)) ?_
  have q517 : h513 75 1 = 76 := by have z := jB (e := 1) 0 j514 rg_75_1_0_1 (by decide) (by decide); omega
  refine x_getR (np := 20) (x := 705) (f := 1) (q := 76) (by decide +kernel) (by decide) (by decide +kernel) q517 ?_
  refine x_const (np := 23) (x := 9223376986804585600) (a := 2147484800) (by decide +kernel) (by decide) (by decide) ?_
  refine x_const (np := 24) (x := 9223372047592194050) (a := 2147483650) (by decide +kernel) (by decide) (by decide) ?_
  refine x_aload (np := 25) (x := 0) (by decide +kernel) rfl (x_nc_le (by decide)) ?_
  have q518 : h513 75 13 = h493 75 13 := by rw [← e515]; exact x_up_k (by decide)
  have q519 : h493 75 13 = h6 75 13 := jK 0 f495 rg_75_13_0_1 (by omega) (by omega) (by decide)
  have q520 : h6 75 13 = h 75 13 := jK 0 f8 rg_75_13_0_1 (by omega) (by omega) (by decide)
  refine x_getC (np := 28) (x := 717) (f := 13) (q := (h 75 13)) (by decide +kernel) (by decide) (by decide +kernel) ((q518.trans q519).trans q520) (fun l521 => ?_)
  refine x_imul (np := 29) (x := 0) (i := 2) (j := u510) (v := (2147483648 + 2 * u510)) (by decide +kernel) (by omega) (by omega) (by omega) (by omega) (by decide) l509 ?_
  refine x_iadd (np := 30) (x := 0) (v := (2147484800 + 2 * u510)) (by decide +kernel) (by decide) (by omega) (by omega) (by omega) ?_
  refine x_const (np := 31) (x := 9223372043297226753) (a := 2147483649) (by decide +kernel) (by decide) (by decide) ?_
  refine x_iadd (np := 32) (x := 0) (v := (2147484801 + 2 * u510)) (by decide +kernel) (by omega) (by decide) (by omega) (by omega) ?_
  refine x_iload (np := 33) (x := 2) (by decide +kernel) rfl l490 ?_
  refine x_ast (np := 34) (x := 0) (kd := 1) (n := 1952) (i := (1153 + 2 * u510)) (by decide +kernel) (Or.inl rfl) (by decide +kernel) (by omega) (by omega) (by decide) l490 (fun z => absurd z (by decide)) ?_
  have j524 := jU (e := (1153 + 2 * u510)) (v := v489) u510 j514 rg_76_1153_2_396 (by omega) (by omega) (by omega)
  have f526 := jF (e := (1153 + 2 * u510)) (v := v489) u510 f516 rg_76_1153_2_396 (by omega) (by omega) (by decide)
  generalize e525 : x_up h513 76 (1153 + 2 * u510) v489 = h523 at j524 f526 ⊢
  refine x_aload (np := 35) (x := 0) (by decide +kernel) rfl (x_nc_le (by decide)) ?_
  refine x_dup (np := 36) (x := 0) (by decide +kernel) (by have z := x_nc_le (k := 75) (by decide); unfold x_r; omega) ?_
  have q527 : h523 75 13 = h513 75 13 := by rw [← e525]; exact x_up_k (by decide)
  have q528 : h513 75 13 = h493 75 13 := by rw [← e515]; exact x_up_k (by decide)
  have q529 : h493 75 13 = h6 75 13 := jK 0 f495 rg_75_13_0_1 (by omega) (by omega) (by decide)
  have q530 : h6 75 13 = h 75 13 := jK 0 f8 rg_75_13_0_1 (by omega) (by omega) (by decide)
  refine x_getC (np := 39) (x := 717) (f := 13) (q := (h 75 13)) (by decide +kernel) (by decide) (by decide +kernel) (((q527.trans q528).trans q529).trans q530) (fun l531 => ?_)
  refine x_const (np := 40) (x := 9223372043297226753) (a := 2147483649) (by decide +kernel) (by decide) (by decide) ?_
  refine x_iadd (np := 41) (x := 0) (v := (1 + (h 75 13))) (by decide +kernel) l509 (by decide) (by omega) (by omega) ?_
  refine x_putI (np := 44) (x := 717) (f := 13) (by decide +kernel) (by decide +kernel) (by omega) (Or.inl (by decide)) ?_
  have j533 := jU (e := 13) (v := (1 + (h 75 13))) 0 j524 rg_75_13_0_1 (by omega) (by omega) (by omega)
  have f535 := jF (e := 13) (v := (1 + (h 75 13))) 0 f526 rg_75_13_0_1 (by omega) (by omega) (by decide)
  generalize e534 : x_up h523 75 13 (1 + (h 75 13)) = h532 at j533 f535 ⊢
  refine x_retV (np := 45) (x := 0) (by decide +kernel) (by decide +kernel) ⟨rfl, ?_⟩
  have q536 : h532 75 13 = (1 + (h 75 13)) := by rw [← e534]; exact x_up_at
  refine x_goto (np := 34) (x := 120) (by decide +kernel) ?_
  refine x_iload (np := 121) (x := 1) (by decide +kernel) rfl l490 ?_
  refine x_ifz (k := 2) (tg := 128) (np := 124) (by decide +kernel) (by decide) l490 (fun q537 => ?_) (fun q538 => ?_)
  · have q537 : v489 < 2147483648 := q537
    refine x_const (np := 129) (x := 9223372039002259456) (a := 2147483648) (by decide +kernel) (by decide) (by decide) ?_
    have q539 : h532 75 13 = (1 + (h 75 13)) := by rw [← e534]; exact x_up_at
    have q540 : h532 75 7 = h523 75 7 := by rw [← e534]; exact x_up_i (by omega)
    have q541 : h523 75 7 = h513 75 7 := by rw [← e525]; exact x_up_k (by decide)
    have q542 : h513 75 7 = h493 75 7 := by rw [← e515]; exact x_up_k (by decide)
    have q543 : h532 75 7 = h523 75 7 := by rw [← e534]; exact x_up_i (by omega)
    have q544 : h523 75 7 = h513 75 7 := by rw [← e525]; exact x_up_k (by decide)
    have q545 : h513 75 7 = h493 75 7 := by rw [← e515]; exact x_up_k (by decide)
    have q546 : h532 75 13 = (1 + (h 75 13)) := by rw [← e534]; exact x_up_at
    have k551 : Kp h h6 (h 75 13 - 2147483648) := Kp.fr Kp.refl f8 (by omega) (by decide)
    have k550 : Kp h h493 (h 75 13 - 2147483648) := Kp.fr k551 f495 (by omega) (by decide)
    have k549 : Kp h h513 (h 75 13 - 2147483648) := by rw [← e515]; exact Kp.up k550 (by omega) (fun i hi => by omega)
    have k548 : Kp h h523 (h 75 13 - 2147483648) := by rw [← e525]; exact Kp.up k549 (by omega) (fun i hi => by omega)
    have k547 : Kp h h532 (h 75 13 - 2147483648) := by rw [← e534]; exact Kp.oth k548 (by decide)
    have e552 : sk tB tN (h6 75 7) = sk tB tN (h 75 7) := (congrArg (sk tB tN) ((show h6 75 7 = h6 75 9 by omega).trans c13)).trans sk_idem
    have n553 : ¬ Ltr tB tN (sk tB tN (h 75 7)) := by rw [← c13, show h6 75 9 = h6 75 7 by omega, c14]; exact le9_end
    refine x_retI (np := 130) (x := 0) (by decide +kernel) (by decide) (Or.inr ⟨by decide +kernel, by omega, by omega⟩) ⟨_, rfl, (by decide), ?_⟩
    exact ⟨j533, f535, (by omega), (fun z => by omega), (fun z => by omega), (fun z => by omega), k547, (fun z => absurd z (by omega)), (fun l => gP_nol (Nr.nb (Nr.cast c502 e552) (by omega)) n553 (by omega))⟩
  have q538 : ¬ (v489 < 2147483648) := q538
  have b554 := c498 (by omega)
  have b555 := c499 (by omega)
  have b556 := c500 (by omega)
  refine x_const (np := 125) (x := 9223372043297226753) (a := 2147483649) (by decide +kernel) (by decide) (by decide) ?_
  refine x_goto (np := 128) (x := 129) (by decide +kernel) ?_
  have q557 : h532 75 13 = (1 + (h 75 13)) := by rw [← e534]; exact x_up_at
  have q558 : h532 75 7 = h523 75 7 := by rw [← e534]; exact x_up_i (by omega)
  have q559 : h523 75 7 = h513 75 7 := by rw [← e525]; exact x_up_k (by decide)
  have q560 : h513 75 7 = h493 75 7 := by rw [← e515]; exact x_up_k (by decide)
  have q561 : h532 75 7 = h523 75 7 := by rw [← e534]; exact x_up_i (by omega)
  have q562 : h523 75 7 = h513 75 7 := by rw [← e525]; exact x_up_k (by decide)
  have q563 : h513 75 7 = h493 75 7 := by rw [← e515]; exact x_up_k (by decide)
  have q564 : h532 75 13 = (1 + (h 75 13)) := by rw [← e534]; exact x_up_at
  have k569 : Kp h h6 (h 75 13 - 2147483648) := Kp.fr Kp.refl f8 (by omega) (by decide)
  have k568 : Kp h h493 (h 75 13 - 2147483648) := Kp.fr k569 f495 (by omega) (by decide)
  have k567 : Kp h h513 (h 75 13 - 2147483648) := by rw [← e515]; exact Kp.up k568 (by omega) (fun i hi => by omega)
  have k566 : Kp h h523 (h 75 13 - 2147483648) := by rw [← e525]; exact Kp.up k567 (by omega) (fun i hi => by omega)
  have k565 : Kp h h532 (h 75 13 - 2147483648) := by rw [← e534]; exact Kp.oth k566 (by decide)
  have q570 : h532 75 13 = (1 + (h 75 13)) := by rw [← e534]; exact x_up_at
  have q572 : h532 76 (1152 + 2 * u510) = h523 76 (1152 + 2 * u510) := by rw [← e534]; exact x_up_k (by decide)
  have q573 : h523 76 (1152 + 2 * u510) = h513 76 (1152 + 2 * u510) := by rw [← e525]; exact x_up_i (by omega)
  have q574 : h513 76 (1152 + 2 * u510) = 2147483656 := by rw [← e515]; exact x_up_at
  have s571 : Seg (sg h532) u510 (u510 + 1) := Seg.push (show 2147483648 ≤ h532 76 (1152 + 2 * u510) by omega) (show h532 76 (1152 + 2 * u510) ≤ 2147483656 by omega)
  have s575 : Seg (sg h532) (h 75 13 - 2147483648) (h532 75 13 - 2147483648) := Seg.cast (Seg.kp s571 Kp.refl) (by omega) (by omega)
  have e576 : sk tB tN (h6 75 7) = sk tB tN (h 75 7) := (congrArg (sk tB tN) ((show h6 75 7 = h6 75 9 by omega).trans c13)).trans sk_idem
  have q577 : h532 75 7 = h523 75 7 := by rw [← e534]; exact x_up_i (by omega)
  have q578 : h523 75 7 = h513 75 7 := by rw [← e525]; exact x_up_k (by decide)
  have q579 : h513 75 7 = h493 75 7 := by rw [← e515]; exact x_up_k (by decide)
  refine x_retI (np := 130) (x := 0) (by decide +kernel) (by decide) (Or.inr ⟨by decide +kernel, by omega, by omega⟩) ⟨_, rfl, (by decide), ?_⟩
  exact ⟨j533, f535, (by omega), (fun z => by omega), (fun z => by omega), (fun z => by omega), k565, (fun _ => s575), (fun l => gP_num c502 e576 (by omega) (by omega) (congrArg (sk tB tN) (show h493 75 7 = h532 75 7 by omega)))⟩
