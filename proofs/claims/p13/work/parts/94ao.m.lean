/-! ===== methods ===== -/
set_option maxHeartbeats 0 in
/-- LentNamesModel.goesOn()V -/
theorem c210_75 {sc : Nat × Nat} {d  : Nat} {h : xh} (hJ : J h) (hW : WT 76 h) : X sc 210 (d + 4) (xV fun h' => J h' ∧ Fr 135291469825 h h') 0 0 0 [x_r 75, 147573952589676412928, 147573952589676412928, 147573952589676412928, 147573952589676412928] [] h := by
  have hF := Fr.refl 135291469825 h
  refine x_const (np := 1) (x := 9223372039002259456) (a := 2147483648) (by decide +kernel) (by decide) (by decide) ?_
  refine x_istore (np := 2) (x := 1) (lo' := [x_r 75, iv_c 2147483648, 147573952589676412928, 147573952589676412928, 147573952589676412928]) (by decide +kernel) (by decide) (Nat.le_of_ble_eq_true rfl) rfl ?_
  have p105 : ∀ (n : Nat) (v100 : Nat) (h102 : xh), 4294967296 - v100 < n → (2147483648 ≤ v100 ∧ v100 ≤ 2147483654) → J h102 → Fr 8589934592 h h102 → MB (v100 - 2147483648) 0 h102 → X sc 210 (d + 4) (xV fun h' => J h' ∧ Fr 135291469825 h h') 0 0 2 [x_r 75, iv_c v100, 147573952589676412928, 147573952589676412928, 147573952589676412928] [] h102 := by
    intro n
    induction n with
    | zero => intro v100 h102 q107; exact absurd q107 (Nat.not_lt_zero _)
    | succ n i108 =>
      intro v100 h102 q107 b101 j104 f103 m106
      have f109 := Fr.trans hF f103 (by decide)
      obtain ⟨u110, q111⟩ : ∃ z, v100 = 2147483648 + z := ⟨v100 - 2147483648, by first | decide | omega⟩
      have m112 : MB u110 0 h102 := by
        have e : v100 - 2147483648 = u110 := by first | decide | omega
        rw [← e]
        exact m106
      refine x_iload (np := 3) (x := 1) (by decide +kernel) rfl (by first | decide | omega) ?_
      refine x_const (np := 5) (x := 9223372064772063238) (a := 2147483654) (by decide +kernel) (by decide) (by decide) ?_
      refine x_icmp (k := 3) (tg := 21) (np := 8) (by decide +kernel) (by decide) (by first | decide | omega) (by decide) (fun q113 => ?_) (fun q114 => ?_)
      · have q113 : 2147483654 ≤ v100 := q113
        refine x_const (np := 22) (x := 9223372039002259456) (a := 2147483648) (by decide +kernel) (by decide) (by decide) ?_
        refine x_istore (np := 23) (x := 1) (lo' := [x_r 75, iv_c 2147483648, 147573952589676412928, 147573952589676412928, 147573952589676412928]) (by decide +kernel) (by decide) (Nat.le_of_ble_eq_true rfl) rfl ?_
        have p567 : ∀ (n : Nat) (v562 : Nat) (h564 : xh), 4294967296 - v562 < n → (2147483648 ≤ v562 ∧ v562 ≤ 2147483668) → J h564 → Fr 34359738368 h102 h564 → MB 6 0 h564 → X sc 210 (d + 4) (xV fun h' => J h' ∧ Fr 135291469825 h h') 0 0 23 [x_r 75, iv_c v562, 147573952589676412928, 147573952589676412928, 147573952589676412928] [] h564 := by
          intro n
          induction n with
          | zero => intro v562 h564 q569; exact absurd q569 (Nat.not_lt_zero _)
          | succ n i570 =>
            intro v562 h564 q569 b563 j566 f565 m568
            have f571 := Fr.trans f109 f565 (by decide)
            refine x_iload (np := 24) (x := 1) (by decide +kernel) rfl (by first | decide | omega) ?_
            refine x_const (np := 26) (x := 9223372124901605396) (a := 2147483668) (by decide +kernel) (by decide) (by decide) ?_
            refine x_icmp (k := 3) (tg := 56) (np := 29) (by decide +kernel) (by decide) (by first | decide | omega) (by decide) (fun q572 => ?_) (fun q573 => ?_)
            · have q572 : 2147483668 ≤ v562 := q572
              refine x_const (np := 57) (x := 9223372039002259456) (a := 2147483648) (by decide +kernel) (by decide) (by decide) ?_
              refine x_istore (np := 58) (x := 1) (lo' := [x_r 75, iv_c 2147483648, 147573952589676412928, 147573952589676412928, 147573952589676412928]) (by decide +kernel) (by decide) (Nat.le_of_ble_eq_true rfl) rfl ?_
              have p265846 : ∀ (n : Nat) (v265838 : Nat) (w265840 : Nat) (w265841 : Nat) (w265842 : Nat) (h265843 : xh), 4294967296 - v265838 < n → (2147483648 ≤ v265838 ∧ v265838 ≤ 2147483660) → J h265843 → Fr 135291469825 h564 h265843 → MB 6 (cn (fun l => h 76 (22 + 7 * l)) v265838 0 20) h265843 → X sc 210 (d + 4) (xV fun h' => J h' ∧ Fr 135291469825 h h') 0 0 58 [x_r 75, iv_c v265838, w265840, w265841, w265842] [] h265843 := by
                intro n
                induction n with
                | zero => intro v265838 w265840 w265841 w265842 h265843 q265848; exact absurd q265848 (Nat.not_lt_zero _)
                | succ n i265849 =>
                  intro v265838 w265840 w265841 w265842 h265843 q265848 b265839 j265845 f265844 m265847
                  have f265850 := Fr.trans f571 f265844 (by decide)
                  refine x_iload (np := 59) (x := 1) (by decide +kernel) rfl (by first | decide | omega) ?_
                  refine x_const (np := 61) (x := 9223372090541867020) (a := 2147483660) (by decide +kernel) (by decide) (by decide) ?_
                  refine x_icmp (k := 3) (tg := 355) (np := 64) (by decide +kernel) (by decide) (by first | decide | omega) (by decide) (fun q265851 => ?_) (fun q265852 => ?_)
                  · have q265851 : 2147483660 ≤ v265838 := q265851
                    refine x_retV (np := 356) (x := 0) (by decide +kernel) (by decide +kernel) ⟨rfl, ?_⟩
                    exact ⟨j265845, f265850⟩
                  have q265852 : ¬ (2147483660 ≤ v265838) := q265852
                  refine x_const (np := 65) (x := 9223372039002259456) (a := 2147483648) (by decide +kernel) (by decide) (by decide) ?_
                  refine x_istore (np := 66) (x := 2) (lo' := [x_r 75, iv_c v265838, iv_c 2147483648, w265841, w265842]) (by decide +kernel) (by decide) (Nat.le_of_ble_eq_true rfl) rfl ?_
                  have p266004 : ∀ (n : Nat) (v265999 : Nat) (h266001 : xh), 4294967296 - v265999 < n → (2147483648 ≤ v265999 ∧ v265999 ≤ 2147483654) → J h266001 → Fr 42949672961 h265843 h266001 → MB 6 (cn (fun l => h 76 (22 + 7 * l)) v265838 0 20) h266001 → X sc 210 (d + 4) (xV fun h' => J h' ∧ Fr 135291469825 h h') 0 0 66 [x_r 75, iv_c v265838, iv_c v265999, w265841, w265842] [] h266001 := by
                    intro n
                    induction n with
                    | zero => intro v265999 h266001 q266006; exact absurd q266006 (Nat.not_lt_zero _)
                    | succ n i266007 =>
                      intro v265999 h266001 q266006 b266000 j266003 f266002 m266005
                      have f266008 := Fr.trans f265850 f266002 (by decide)
                      have f266009 := Fr.trans f265844 f266002 (by decide)
                      refine x_iload (np := 67) (x := 2) (by decide +kernel) rfl (by first | decide | omega) ?_
                      refine x_aload (np := 68) (x := 0) (by decide +kernel) rfl (x_nc_le (by decide)) ?_
                      refine x_nI (t := 6) (mj := 157) (n := 1) (rc := 12) (ml := 1) (nr := 1) (np := 71) (as := [x_r 75]) (rest := [iv_c v265999]) (lo1 := [x_r 75]) (by decide +kernel) (by decide) (by decide +kernel) (x_rb_of (by decide +kernel)) rfl rfl (x_wr (by decide) x_wn) (x_wi (by first | decide | omega) x_wn) (by decide) rfl ?_
                      refine x_aload (np := 1) (x := 0) (by decide +kernel) rfl (x_nc_le (by decide)) ?_
                      have q266010 : h266001 75 1 = 76 := by have z := jB (e := 1) 0 j266003 rg_75_1_0_1 (by decide) (by decide); omega
                      refine x_getR (np := 4) (x := 705) (f := 1) (q := 76) (by decide +kernel) (by decide) (by decide +kernel) q266010 ?_
                      refine x_const (np := 5) (x := 9223372039002259456) (a := 2147483648) (by decide +kernel) (by decide) (by decide) ?_
                      have q266011 : h266001 76 0 = h265843 76 0 := jK 0 f266002 rg_76_0_0_1 (by first | decide | omega) (by first | decide | omega) (by decide)
                      have q266012 : h265843 76 0 = h564 76 0 := jK 0 f265844 rg_76_0_0_1 (by first | decide | omega) (by first | decide | omega) (by decide)
                      have q266013 : h564 76 0 = h102 76 0 := jK 0 f565 rg_76_0_0_1 (by first | decide | omega) (by first | decide | omega) (by decide)
                      have q266014 : h102 76 0 = h 76 0 := jK 0 f103 rg_76_0_0_1 (by first | decide | omega) (by first | decide | omega) (by decide)
                      have b266015 := jB (e := 0) 0 hJ rg_76_0_0_1 (by first | decide | omega) (by first | decide | omega)
                      refine x_aldC (np := 6) (x := 0) (n := 1952) (i := 0) (q := (h 76 0)) (by decide +kernel) (by decide +kernel) (by first | decide | omega) (by first | decide | omega) (by decide) (((q266011.trans q266012).trans q266013).trans q266014) (fun l266016 => ?_)
                      refine x_retI (np := 7) (x := 0) (by decide +kernel) l266016 (Or.inl (by decide +kernel)) ⟨_, rfl, l266016, ?_⟩
                      refine x_icmp (k := 3) (tg := 86) (np := 74) (by decide +kernel) (by decide) (by first | decide | omega) l266016 (fun q266017 => ?_) (fun q266018 => ?_)
                      · have q266017 : (h 76 0) ≤ v265999 := q266017
                        refine x_const (np := 87) (x := 9223372039002259456) (a := 2147483648) (by decide +kernel) (by decide) (by decide) ?_
                        refine x_istore (np := 88) (x := 2) (lo' := [x_r 75, iv_c v265838, iv_c 2147483648, w265841, w265842]) (by decide +kernel) (by decide) (Nat.le_of_ble_eq_true rfl) rfl ?_
                        have p266247 : ∀ (n : Nat) (v266242 : Nat) (h266244 : xh), 4294967296 - v266242 < n → (2147483648 ≤ v266242 ∧ v266242 ≤ 2147483654) → J h266244 → Fr 42949672961 h266001 h266244 → MB 6 (cn (fun l => h 76 (22 + 7 * l)) v265838 0 20) h266244 → X sc 210 (d + 4) (xV fun h' => J h' ∧ Fr 135291469825 h h') 0 0 88 [x_r 75, iv_c v265838, iv_c v266242, w265841, w265842] [] h266244 := by
                          intro n
                          induction n with
                          | zero => intro v266242 h266244 q266249; exact absurd q266249 (Nat.not_lt_zero _)
                          | succ n i266250 =>
                            intro v266242 h266244 q266249 b266243 j266246 f266245 m266248
                            have f266251 := Fr.trans f266008 f266245 (by decide)
                            have f266252 := Fr.trans f266009 f266245 (by decide)
                            refine x_iload (np := 89) (x := 2) (by decide +kernel) rfl (by first | decide | omega) ?_
                            refine x_aload (np := 90) (x := 0) (by decide +kernel) rfl (x_nc_le (by decide)) ?_
                            refine x_nI (t := 6) (mj := 157) (n := 1) (rc := 12) (ml := 1) (nr := 1) (np := 93) (as := [x_r 75]) (rest := [iv_c v266242]) (lo1 := [x_r 75]) (by decide +kernel) (by decide) (by decide +kernel) (x_rb_of (by decide +kernel)) rfl rfl (x_wr (by decide) x_wn) (x_wi (by first | decide | omega) x_wn) (by decide) rfl ?_
                            refine x_aload (np := 1) (x := 0) (by decide +kernel) rfl (x_nc_le (by decide)) ?_
                            have q266253 : h266244 75 1 = 76 := by have z := jB (e := 1) 0 j266246 rg_75_1_0_1 (by decide) (by decide); omega
                            refine x_getR (np := 4) (x := 705) (f := 1) (q := 76) (by decide +kernel) (by decide) (by decide +kernel) q266253 ?_
                            refine x_const (np := 5) (x := 9223372039002259456) (a := 2147483648) (by decide +kernel) (by decide) (by decide) ?_
                            have q266254 : h266244 76 0 = h266001 76 0 := jK 0 f266245 rg_76_0_0_1 (by first | decide | omega) (by first | decide | omega) (by decide)
                            have q266255 : h266001 76 0 = h265843 76 0 := jK 0 f266002 rg_76_0_0_1 (by first | decide | omega) (by first | decide | omega) (by decide)
                            have q266256 : h265843 76 0 = h564 76 0 := jK 0 f265844 rg_76_0_0_1 (by first | decide | omega) (by first | decide | omega) (by decide)
                            have q266257 : h564 76 0 = h102 76 0 := jK 0 f565 rg_76_0_0_1 (by first | decide | omega) (by first | decide | omega) (by decide)
                            have q266258 : h102 76 0 = h 76 0 := jK 0 f103 rg_76_0_0_1 (by first | decide | omega) (by first | decide | omega) (by decide)
                            refine x_aldC (np := 6) (x := 0) (n := 1952) (i := 0) (q := (h 76 0)) (by decide +kernel) (by decide +kernel) (by first | decide | omega) (by first | decide | omega) (by decide) ((((q266254.trans q266255).trans q266256).trans q266257).trans q266258) (fun l266259 => ?_)
                            refine x_retI (np := 7) (x := 0) (by decide +kernel) l266016 (Or.inl (by decide +kernel)) ⟨_, rfl, l266016, ?_⟩
                            refine x_icmp (k := 3) (tg := 123) (np := 96) (by decide +kernel) (by decide) (by first | decide | omega) l266016 (fun q266260 => ?_) (fun q266261 => ?_)
                            · have q266260 : (h 76 0) ≤ v266242 := q266260
                              refine x_const (np := 124) (x := 9223372039002259456) (a := 2147483648) (by decide +kernel) (by decide) (by decide) ?_
                              refine x_istore (np := 125) (x := 2) (lo' := [x_r 75, iv_c v265838, iv_c 2147483648, w265841, w265842]) (by decide +kernel) (by decide) (Nat.le_of_ble_eq_true rfl) rfl ?_
                              have p272277 : ∀ (n : Nat) (v272270 : Nat) (w272272 : Nat) (w272273 : Nat) (h272274 : xh), 4294967296 - v272270 < n → (2147483648 ≤ v272270 ∧ v272270 ≤ 2147483654) → J h272274 → Fr 34359738368 h266244 h272274 → MB 6 (cn (fun l => h 76 (22 + 7 * l)) v265838 0 20) h272274 → X sc 210 (d + 4) (xV fun h' => J h' ∧ Fr 135291469825 h h') 0 0 125 [x_r 75, iv_c v265838, iv_c v272270, w272272, w272273] [] h272274 := by
                                intro n
                                induction n with
                                | zero => intro v272270 w272272 w272273 h272274 q272279; exact absurd q272279 (Nat.not_lt_zero _)
                                | succ n i272280 =>
                                  intro v272270 w272272 w272273 h272274 q272279 b272271 j272276 f272275 m272278
                                  have f272281 := Fr.trans f266251 f272275 (by decide)
                                  have f272282 := Fr.trans f266252 f272275 (by decide)
                                  refine x_iload (np := 126) (x := 2) (by decide +kernel) rfl (by first | decide | omega) ?_
                                  refine x_aload (np := 127) (x := 0) (by decide +kernel) rfl (x_nc_le (by decide)) ?_
                                  refine x_nI (t := 6) (mj := 157) (n := 1) (rc := 12) (ml := 1) (nr := 1) (np := 130) (as := [x_r 75]) (rest := [iv_c v272270]) (lo1 := [x_r 75]) (by decide +kernel) (by decide) (by decide +kernel) (x_rb_of (by decide +kernel)) rfl rfl (x_wr (by decide) x_wn) (x_wi (by first | decide | omega) x_wn) (by decide) rfl ?_
                                  refine x_aload (np := 1) (x := 0) (by decide +kernel) rfl (x_nc_le (by decide)) ?_
                                  have q272283 : h272274 75 1 = 76 := by have z := jB (e := 1) 0 j272276 rg_75_1_0_1 (by decide) (by decide); omega
                                  refine x_getR (np := 4) (x := 705) (f := 1) (q := 76) (by decide +kernel) (by decide) (by decide +kernel) q272283 ?_
                                  refine x_const (np := 5) (x := 9223372039002259456) (a := 2147483648) (by decide +kernel) (by decide) (by decide) ?_
                                  have q272284 : h272274 76 0 = h266244 76 0 := jK 0 f272275 rg_76_0_0_1 (by first | decide | omega) (by first | decide | omega) (by decide)
                                  have q272285 : h266244 76 0 = h266001 76 0 := jK 0 f266245 rg_76_0_0_1 (by first | decide | omega) (by first | decide | omega) (by decide)
                                  have q272286 : h266001 76 0 = h265843 76 0 := jK 0 f266002 rg_76_0_0_1 (by first | decide | omega) (by first | decide | omega) (by decide)
                                  have q272287 : h265843 76 0 = h564 76 0 := jK 0 f265844 rg_76_0_0_1 (by first | decide | omega) (by first | decide | omega) (by decide)
                                  have q272288 : h564 76 0 = h102 76 0 := jK 0 f565 rg_76_0_0_1 (by first | decide | omega) (by first | decide | omega) (by decide)
                                  have q272289 : h102 76 0 = h 76 0 := jK 0 f103 rg_76_0_0_1 (by first | decide | omega) (by first | decide | omega) (by decide)
                                  refine x_aldC (np := 6) (x := 0) (n := 1952) (i := 0) (q := (h 76 0)) (by decide +kernel) (by decide +kernel) (by first | decide | omega) (by first | decide | omega) (by decide) (((((q272284.trans q272285).trans q272286).trans q272287).trans q272288).trans q272289) (fun l272290 => ?_)
                                  refine x_retI (np := 7) (x := 0) (by decide +kernel) l266016 (Or.inl (by decide +kernel)) ⟨_, rfl, l266016, ?_⟩
                                  refine x_icmp (k := 3) (tg := 201) (np := 133) (by decide +kernel) (by decide) (by first | decide | omega) l266016 (fun q272291 => ?_) (fun q272292 => ?_)
                                  · have q272291 : (h 76 0) ≤ v272270 := q272291
                                    refine x_const (np := 202) (x := 9223372039002259456) (a := 2147483648) (by decide +kernel) (by decide) (by decide) ?_
                                    refine x_istore (np := 203) (x := 2) (lo' := [x_r 75, iv_c v265838, iv_c 2147483648, w272272, w272273]) (by decide +kernel) (by decide) (Nat.le_of_ble_eq_true rfl) rfl ?_
                                    have p273042 : ∀ (n : Nat) (v273037 : Nat) (h273039 : xh), 4294967296 - v273037 < n → (2147483648 ≤ v273037 ∧ v273037 ≤ 2147483668) → J h273039 → Fr 66571993089 h272274 h273039 → MB 6 (cn (fun l => h 76 (22 + 7 * l)) v265838 (v273037 - 2147483648) 20) h273039 → X sc 210 (d + 4) (xV fun h' => J h' ∧ Fr 135291469825 h h') 0 0 203 [x_r 75, iv_c v265838, iv_c v273037, w272272, w272273] [] h273039 := by
                                      intro n
                                      induction n with
                                      | zero => intro v273037 h273039 q273044; exact absurd q273044 (Nat.not_lt_zero _)
                                      | succ n i273045 =>
                                        intro v273037 h273039 q273044 b273038 j273041 f273040 m273043
                                        have f273046 := Fr.trans f272281 f273040 (by decide)
                                        have f273047 := Fr.trans f272282 f273040 (by decide)
                                        refine x_iload (np := 204) (x := 2) (by decide +kernel) rfl (by first | decide | omega) ?_
                                        refine x_aload (np := 205) (x := 0) (by decide +kernel) rfl (x_nc_le (by decide)) ?_
                                        have q273048 : h273039 75 1 = 76 := by have z := jB (e := 1) 0 j273041 rg_75_1_0_1 (by decide) (by decide); omega
                                        refine x_getR (np := 208) (x := 705) (f := 1) (q := 76) (by decide +kernel) (by decide) (by decide +kernel) q273048 ?_
                                        refine x_const (np := 209) (x := 9223372047592194050) (a := 2147483650) (by decide +kernel) (by decide) (by decide) ?_
                                        have q273049 : h273039 76 2 = h272274 76 2 := jK 0 f273040 rg_76_2_0_1 (by first | decide | omega) (by first | decide | omega) (by decide)
                                        have q273050 : h272274 76 2 = h266244 76 2 := jK 0 f272275 rg_76_2_0_1 (by first | decide | omega) (by first | decide | omega) (by decide)
                                        have q273051 : h266244 76 2 = h266001 76 2 := jK 0 f266245 rg_76_2_0_1 (by first | decide | omega) (by first | decide | omega) (by decide)
                                        have q273052 : h266001 76 2 = h265843 76 2 := jK 0 f266002 rg_76_2_0_1 (by first | decide | omega) (by first | decide | omega) (by decide)
                                        have q273053 : h265843 76 2 = h564 76 2 := jK 0 f265844 rg_76_2_0_1 (by first | decide | omega) (by first | decide | omega) (by decide)
                                        have q273054 : h564 76 2 = h102 76 2 := jK 0 f565 rg_76_2_0_1 (by first | decide | omega) (by first | decide | omega) (by decide)
                                        have q273055 : h102 76 2 = h 76 2 := jK 0 f103 rg_76_2_0_1 (by first | decide | omega) (by first | decide | omega) (by decide)
                                        have b273056 := jB (e := 2) 0 hJ rg_76_2_0_1 (by first | decide | omega) (by first | decide | omega)
                                        refine x_aldC (np := 210) (x := 0) (n := 1952) (i := 2) (q := (h 76 2)) (by decide +kernel) (by decide +kernel) (by first | decide | omega) (by first | decide | omega) (by decide) ((((((q273049.trans q273050).trans q273051).trans q273052).trans q273053).trans q273054).trans q273055) (fun l273057 => ?_)
                                        refine x_icmp (k := 3) (tg := 235) (np := 213) (by decide +kernel) (by decide) (by first | decide | omega) l273057 (fun q273058 => ?_) (fun q273059 => ?_)
                                        · have q273058 : (h 76 2) ≤ v273037 := q273058
                                          refine x_const (np := 236) (x := 9223372039002259456) (a := 2147483648) (by decide +kernel) (by decide) (by decide) ?_
                                          refine x_istore (np := 237) (x := 2) (lo' := [x_r 75, iv_c v265838, iv_c 2147483648, w272272, w272273]) (by decide +kernel) (by decide) (Nat.le_of_ble_eq_true rfl) rfl ?_
                                          have p276486 : ∀ (n : Nat) (v276479 : Nat) (w276481 : Nat) (w276482 : Nat) (h276483 : xh), 4294967296 - v276479 < n → (2147483648 ≤ v276479 ∧ v276479 ≤ 2147483654) → J h276483 → Fr 103079215104 h273039 h276483 → MB 6 (cn (fun l => h 76 (22 + 7 * l)) (1 + v265838) 0 20) h276483 → X sc 210 (d + 4) (xV fun h' => J h' ∧ Fr 135291469825 h h') 0 0 237 [x_r 75, iv_c v265838, iv_c v276479, w276481, w276482] [] h276483 := by
                                            intro n
                                            induction n with
                                            | zero => intro v276479 w276481 w276482 h276483 q276488; exact absurd q276488 (Nat.not_lt_zero _)
                                            | succ n i276489 =>
                                              intro v276479 w276481 w276482 h276483 q276488 b276480 j276485 f276484 m276487
                                              have f276490 := Fr.trans f273046 f276484 (by decide)
                                              have f276491 := Fr.trans f273047 f276484 (by decide)
                                              refine x_iload (np := 238) (x := 2) (by decide +kernel) rfl (by first | decide | omega) ?_
                                              refine x_aload (np := 239) (x := 0) (by decide +kernel) rfl (x_nc_le (by decide)) ?_
                                              refine x_nI (t := 6) (mj := 157) (n := 1) (rc := 12) (ml := 1) (nr := 1) (np := 242) (as := [x_r 75]) (rest := [iv_c v276479]) (lo1 := [x_r 75]) (by decide +kernel) (by decide) (by decide +kernel) (x_rb_of (by decide +kernel)) rfl rfl (x_wr (by decide) x_wn) (x_wi (by first | decide | omega) x_wn) (by decide) rfl ?_
                                              refine x_aload (np := 1) (x := 0) (by decide +kernel) rfl (x_nc_le (by decide)) ?_
                                              have q276492 : h276483 75 1 = 76 := by have z := jB (e := 1) 0 j276485 rg_75_1_0_1 (by decide) (by decide); omega
                                              refine x_getR (np := 4) (x := 705) (f := 1) (q := 76) (by decide +kernel) (by decide) (by decide +kernel) q276492 ?_
                                              refine x_const (np := 5) (x := 9223372039002259456) (a := 2147483648) (by decide +kernel) (by decide) (by decide) ?_
                                              have q276493 : h276483 76 0 = h273039 76 0 := jK 0 f276484 rg_76_0_0_1 (by first | decide | omega) (by first | decide | omega) (by decide)
                                              have q276494 : h273039 76 0 = h272274 76 0 := jK 0 f273040 rg_76_0_0_1 (by first | decide | omega) (by first | decide | omega) (by decide)
                                              have q276495 : h272274 76 0 = h266244 76 0 := jK 0 f272275 rg_76_0_0_1 (by first | decide | omega) (by first | decide | omega) (by decide)
                                              have q276496 : h266244 76 0 = h266001 76 0 := jK 0 f266245 rg_76_0_0_1 (by first | decide | omega) (by first | decide | omega) (by decide)
                                              have q276497 : h266001 76 0 = h265843 76 0 := jK 0 f266002 rg_76_0_0_1 (by first | decide | omega) (by first | decide | omega) (by decide)
                                              have q276498 : h265843 76 0 = h564 76 0 := jK 0 f265844 rg_76_0_0_1 (by first | decide | omega) (by first | decide | omega) (by decide)
                                              have q276499 : h564 76 0 = h102 76 0 := jK 0 f565 rg_76_0_0_1 (by first | decide | omega) (by first | decide | omega) (by decide)
                                              have q276500 : h102 76 0 = h 76 0 := jK 0 f103 rg_76_0_0_1 (by first | decide | omega) (by first | decide | omega) (by decide)
                                              refine x_aldC (np := 6) (x := 0) (n := 1952) (i := 0) (q := (h 76 0)) (by decide +kernel) (by decide +kernel) (by first | decide | omega) (by first | decide | omega) (by decide) (((((((q276493.trans q276494).trans q276495).trans q276496).trans q276497).trans q276498).trans q276499).trans q276500) (fun l276501 => ?_)
                                              refine x_retI (np := 7) (x := 0) (by decide +kernel) l266016 (Or.inl (by decide +kernel)) ⟨_, rfl, l266016, ?_⟩
                                              refine x_icmp (k := 3) (tg := 349) (np := 245) (by decide +kernel) (by decide) (by first | decide | omega) l266016 (fun q276502 => ?_) (fun q276503 => ?_)
                                              · have q276502 : (h 76 0) ≤ v276479 := q276502
                                                refine x_iinc (np := 352) (i := 1) (j := 2147483649) (v := (1 + v265838)) (lo' := [x_r 75, iv_c (1 + v265838), iv_c v276479, w276481, w276482]) (by decide +kernel) (by decide) (by decide) rfl (by first | decide | omega) (by first | decide | omega) (by first | decide | omega) rfl ?_
                                                refine x_goto (np := 355) (x := 58) (by decide +kernel) ?_
                                                exact i265849 (1 + v265838) (iv_c v276479) w276481 w276482 h276483 (by first | decide | omega) (by first | decide | omega) j276485 f276491 m276487
                                              have q276503 : ¬ ((h 76 0) ≤ v276479) := q276503
                                              refine x_const (np := 247) (x := 9223372090541867020) (a := 2147483660) (by decide +kernel) (by decide) (by decide) ?_
                                              refine x_iload (np := 248) (x := 2) (by decide +kernel) rfl (by first | decide | omega) ?_
                                              obtain ⟨u276504, q276505⟩ : ∃ z, v276479 = 2147483648 + z := ⟨v276479 - 2147483648, by first | decide | omega⟩
                                              refine x_imul (np := 249) (x := 0) (i := 12) (j := u276504) (v := (2147483648 + 12 * u276504)) (by decide +kernel) (by first | decide | omega) (by first | decide | omega) (by first | decide | omega) (by first | decide | omega) (by decide) (by first | decide | omega) ?_
                                              refine x_iload (np := 250) (x := 1) (by decide +kernel) rfl (by first | decide | omega) ?_
                                              refine x_iadd (np := 251) (x := 0) (v := (12 * u276504 + v265838)) (by decide +kernel) (by first | decide | omega) (by first | decide | omega) (by first | decide | omega) (by first | decide | omega) ?_
                                              refine x_istore (np := 252) (x := 3) (lo' := [x_r 75, iv_c v265838, iv_c v276479, iv_c (12 * u276504 + v265838), w276482]) (by decide +kernel) (by first | decide | omega) (Nat.le_of_ble_eq_true rfl) rfl ?_
                                              refine x_aload (np := 253) (x := 0) (by decide +kernel) rfl (x_nc_le (by decide)) ?_
                                              have q276507 : h276483 75 18 = 85 := by have z := jB (e := 18) 0 j276485 rg_75_18_0_1 (by decide) (by decide); omega
                                              refine x_getR (np := 256) (x := 722) (f := 18) (q := 85) (by decide +kernel) (by decide) (by decide +kernel) q276507 ?_
                                              refine x_iload (np := 257) (x := 3) (by decide +kernel) rfl (by first | decide | omega) ?_
                                              refine x_aload (np := 258) (x := 0) (by decide +kernel) rfl (x_nc_le (by decide)) ?_
                                              have q276508 : h276483 75 16 = 83 := by have z := jB (e := 16) 0 j276485 rg_75_16_0_1 (by decide) (by decide); omega
                                              refine x_getR (np := 261) (x := 720) (f := 16) (q := 83) (by decide +kernel) (by decide) (by decide +kernel) q276508 ?_
                                              refine x_iload (np := 262) (x := 2) (by decide +kernel) rfl (by first | decide | omega) ?_
                                              have q276509 : h276483 83 u276504 = h273039 83 u276504 := jK u276504 f276484 rg_83_0_1_6 (by first | decide | omega) (by first | decide | omega) (by decide)
                                              have b276510 := jB (e := u276504) u276504 j273041 rg_83_0_1_6 (by first | decide | omega) (by first | decide | omega)
                                              refine x_aldC (np := 263) (x := 0) (n := 6) (i := u276504) (q := (h273039 83 u276504)) (by decide +kernel) (by decide +kernel) (by first | decide | omega) (by first | decide | omega) (by decide) q276509 (fun l276511 => ?_)
                                              obtain ⟨u276512, q276513⟩ : ∃ z, v265838 = 2147483648 + z := ⟨v265838 - 2147483648, by first | decide | omega⟩
                                              refine x_ast (np := 264) (x := 0) (kd := 1) (n := 72) (i := (12 * u276504 + u276512)) (by decide +kernel) (Or.inl rfl) (by decide +kernel) (by first | decide | omega) (by first | decide | omega) (by decide) l276511 (fun z => absurd z (by decide)) ?_
                                              have j276515 := jU (e := (12 * u276504 + u276512)) (v := (h273039 83 u276504)) (12 * u276504 + u276512) j276485 rg_85_0_1_72 (by first | decide | omega) (by first | decide | omega) (by first | decide | omega)
                                              have f276517 := jF (e := (12 * u276504 + u276512)) (v := (h273039 83 u276504)) (12 * u276504 + u276512) f276490 rg_85_0_1_72 (by first | decide | omega) (by first | decide | omega) (by decide)
                                              have f276518 := jF (e := (12 * u276504 + u276512)) (v := (h273039 83 u276504)) (12 * u276504 + u276512) f276491 rg_85_0_1_72 (by first | decide | omega) (by first | decide | omega) (by decide)
                                              have f276519 := jF (e := (12 * u276504 + u276512)) (v := (h273039 83 u276504)) (12 * u276504 + u276512) f276484 rg_85_0_1_72 (by first | decide | omega) (by first | decide | omega) (by decide)
                                              have m276520 := MB.oth (q := 85) (e := (12 * u276504 + u276512)) (v := (h273039 83 u276504)) m276487 (by decide)
                                              generalize e276516 : x_up h276483 85 (12 * u276504 + u276512) (h273039 83 u276504) = h276514 at j276515 f276517 f276518 f276519 m276520 ⊢
                                              refine x_const (np := 265) (x := 9223372039002259456) (a := 2147483648) (by decide +kernel) (by decide) (by decide) ?_
                                              refine x_istore (np := 267) (x := 4) (lo' := [x_r 75, iv_c v265838, iv_c v276479, iv_c (12 * u276504 + v265838), iv_c 2147483648]) (by decide +kernel) (by decide) (Nat.le_of_ble_eq_true rfl) rfl ?_
                                              have p276986 : ∀ (n : Nat) (v276981 : Nat) (h276983 : xh), 4294967296 - v276981 < n → (2147483648 ≤ v276981 ∧ v276981 ≤ 2147483668) → J h276983 → Fr 34359738368 h276514 h276983 → MB 6 (cn (fun l => h 76 (22 + 7 * l)) (1 + v265838) 0 20) h276983 → X sc 210 (d + 4) (xV fun h' => J h' ∧ Fr 135291469825 h h') 0 0 267 [x_r 75, iv_c v265838, iv_c v276479, iv_c (12 * u276504 + v265838), iv_c v276981] [] h276983 := by
                                                intro n
                                                induction n with
                                                | zero => intro v276981 h276983 q276988; exact absurd q276988 (Nat.not_lt_zero _)
                                                | succ n i276989 =>
                                                  intro v276981 h276983 q276988 b276982 j276985 f276984 m276987
                                                  have f276990 := Fr.trans f276517 f276984 (by decide)
                                                  have f276991 := Fr.trans f276518 f276984 (by decide)
                                                  have f276992 := Fr.trans f276519 f276984 (by decide)
                                                  refine x_iload (np := 269) (x := 4) (by decide +kernel) rfl (by first | decide | omega) ?_
                                                  refine x_aload (np := 270) (x := 0) (by decide +kernel) rfl (x_nc_le (by decide)) ?_
                                                  have q276993 : h276983 75 16 = 83 := by have z := jB (e := 16) 0 j276985 rg_75_16_0_1 (by decide) (by decide); omega
                                                  refine x_getR (np := 273) (x := 720) (f := 16) (q := 83) (by decide +kernel) (by decide) (by decide +kernel) q276993 ?_
                                                  refine x_iload (np := 274) (x := 2) (by decide +kernel) rfl (by first | decide | omega) ?_
                                                  have q276994 : h276983 83 u276504 = h276514 83 u276504 := jK u276504 f276984 rg_83_0_1_6 (by first | decide | omega) (by first | decide | omega) (by decide)
                                                  have q276995 : h276514 83 u276504 = h276483 83 u276504 := by rw [← e276516]; exact x_up_k (by decide)
                                                  have q276996 : h276483 83 u276504 = h273039 83 u276504 := jK u276504 f276484 rg_83_0_1_6 (by first | decide | omega) (by first | decide | omega) (by decide)
                                                  refine x_aldC (np := 275) (x := 0) (n := 6) (i := u276504) (q := (h273039 83 u276504)) (by decide +kernel) (by decide +kernel) (by first | decide | omega) (by first | decide | omega) (by decide) ((q276994.trans q276995).trans q276996) (fun l276997 => ?_)
                                                  refine x_icmp (k := 3) (tg := 308) (np := 278) (by decide +kernel) (by decide) (by first | decide | omega) l276511 (fun q276998 => ?_) (fun q276999 => ?_)
                                                  · have q276998 : (h273039 83 u276504) ≤ v276981 := q276998
                                                    refine x_aload (np := 309) (x := 0) (by decide +kernel) rfl (x_nc_le (by decide)) ?_
                                                    have q277000 : h276983 75 20 = 87 := by have z := jB (e := 20) 0 j276985 rg_75_20_0_1 (by decide) (by decide); omega
                                                    refine x_getR (np := 312) (x := 724) (f := 20) (q := 87) (by decide +kernel) (by decide) (by decide +kernel) q277000 ?_
                                                    refine x_iload (np := 313) (x := 3) (by decide +kernel) rfl (by first | decide | omega) ?_
                                                    refine x_aload (np := 314) (x := 0) (by decide +kernel) rfl (x_nc_le (by decide)) ?_
                                                    refine x_aload (np := 315) (x := 0) (by decide +kernel) rfl (x_nc_le (by decide)) ?_
                                                    refine x_iload (np := 316) (x := 2) (by decide +kernel) rfl (by first | decide | omega) ?_
                                                    refine x_cP (t := 6) (mj := 203) (n := 2) (rc := 12) (ml := 2) (nr := 3) (np := 319) (as := [x_r 75, iv_c v276479]) (rest := [x_r 75, iv_c (12 * u276504 + v265838), x_r 87]) (lo1 := [x_r 75, iv_c v276479]) (by decide +kernel) (by decide) (by decide +kernel) (x_rb_of (by decide +kernel)) rfl rfl (x_wr (by decide) (x_wi (by first | decide | omega) x_wn)) (x_wr (by decide) (x_wi (by first | decide | omega) (x_wr (by decide) x_wn))) (by decide) rfl (c203_75 j276985  (by first | decide | omega)) (fun v277001 l277002 q277003 => ?_)
                                                    refine x_iload (np := 320) (x := 1) (by decide +kernel) rfl (by first | decide | omega) ?_
                                                    refine x_cP (t := 6) (mj := 200) (n := 3) (rc := 12) (ml := 3) (nr := 2) (np := 323) (as := [x_r 75, iv_c v277001, iv_c v265838]) (rest := [iv_c (12 * u276504 + v265838), x_r 87]) (lo1 := [x_r 75, iv_c v277001, iv_c v265838]) (by decide +kernel) (by decide) (by decide +kernel) (x_rb_of (by decide +kernel)) rfl rfl (x_wr (by decide) (x_wi l277002 (x_wi (by first | decide | omega) x_wn))) (x_wi (by first | decide | omega) (x_wr (by decide) x_wn)) (by decide) rfl (c200_75 j276985  (by first | decide | omega) (by first | decide | omega)) (fun v277004 l277005 q277006 => ?_)
                                                    refine x_ifz (k := 0) (tg := 334) (np := 326) (by decide +kernel) (by decide) l277005 (fun q277007 => ?_) (fun q277008 => ?_)
                                                    · have q277007 : v277004 = 2147483648 := q277007
                                                      refine x_const (np := 335) (x := 9223372034707292159) (a := 2147483647) (by decide +kernel) (by decide) (by decide) ?_
                                                      refine x_ast (np := 336) (x := 0) (kd := 1) (n := 72) (i := (12 * u276504 + u276512)) (by decide +kernel) (Or.inl rfl) (by decide +kernel) (by first | decide | omega) (by first | decide | omega) (by decide) (by decide) (fun z => absurd z (by decide)) ?_
                                                      have j277010 := jU (e := (12 * u276504 + u276512)) (v := 2147483647) (12 * u276504 + u276512) j276985 rg_87_0_1_72 (by first | decide | omega) (by first | decide | omega) (by first | decide | omega)
                                                      have f277012 := jF (e := (12 * u276504 + u276512)) (v := 2147483647) (12 * u276504 + u276512) f276990 rg_87_0_1_72 (by first | decide | omega) (by first | decide | omega) (by decide)
                                                      have f277013 := jF (e := (12 * u276504 + u276512)) (v := 2147483647) (12 * u276504 + u276512) f276991 rg_87_0_1_72 (by first | decide | omega) (by first | decide | omega) (by decide)
                                                      have f277014 := jF (e := (12 * u276504 + u276512)) (v := 2147483647) (12 * u276504 + u276512) f276992 rg_87_0_1_72 (by first | decide | omega) (by first | decide | omega) (by decide)
                                                      have m277015 := MB.oth (q := 87) (e := (12 * u276504 + u276512)) (v := 2147483647) m276987 (by decide)
                                                      generalize e277011 : x_up h276983 87 (12 * u276504 + u276512) 2147483647 = h277009 at j277010 f277012 f277013 f277014 m277015 ⊢
                                                      refine x_aload (np := 337) (x := 0) (by decide +kernel) rfl (x_nc_le (by decide)) ?_
                                                      have q277016 : h277009 75 24 = 91 := by have z := jB (e := 24) 0 j277010 rg_75_24_0_1 (by decide) (by decide); omega
                                                      refine x_getR (np := 340) (x := 728) (f := 24) (q := 91) (by decide +kernel) (by decide) (by decide +kernel) q277016 ?_
                                                      refine x_iload (np := 341) (x := 3) (by decide +kernel) rfl (by first | decide | omega) ?_
                                                      refine x_const (np := 342) (x := 9223372034707292159) (a := 2147483647) (by decide +kernel) (by decide) (by decide) ?_
                                                      refine x_ast (np := 343) (x := 0) (kd := 1) (n := 72) (i := (12 * u276504 + u276512)) (by decide +kernel) (Or.inl rfl) (by decide +kernel) (by first | decide | omega) (by first | decide | omega) (by decide) (by decide) (fun z => absurd z (by decide)) ?_
                                                      have j277018 := jU (e := (12 * u276504 + u276512)) (v := 2147483647) (12 * u276504 + u276512) j277010 rg_91_0_1_72 (by first | decide | omega) (by first | decide | omega) (by first | decide | omega)
                                                      have f277020 := jF (e := (12 * u276504 + u276512)) (v := 2147483647) (12 * u276504 + u276512) f277012 rg_91_0_1_72 (by first | decide | omega) (by first | decide | omega) (by decide)
                                                      have f277021 := jF (e := (12 * u276504 + u276512)) (v := 2147483647) (12 * u276504 + u276512) f277013 rg_91_0_1_72 (by first | decide | omega) (by first | decide | omega) (by decide)
                                                      have f277022 := jF (e := (12 * u276504 + u276512)) (v := 2147483647) (12 * u276504 + u276512) f277014 rg_91_0_1_72 (by first | decide | omega) (by first | decide | omega) (by decide)
                                                      have m277023 := MB.oth (q := 91) (e := (12 * u276504 + u276512)) (v := 2147483647) m277015 (by decide)
                                                      generalize e277019 : x_up h277009 91 (12 * u276504 + u276512) 2147483647 = h277017 at j277018 f277020 f277021 f277022 m277023 ⊢
                                                      refine x_iinc (np := 346) (i := 2) (j := 2147483649) (v := (1 + v276479)) (lo' := [x_r 75, iv_c v265838, iv_c (1 + v276479), iv_c (12 * u276504 + v265838), iv_c v276981]) (by decide +kernel) (by decide) (by decide) rfl (by first | decide | omega) (by first | decide | omega) (by first | decide | omega) rfl ?_
                                                      refine x_goto (np := 349) (x := 237) (by decide +kernel) ?_
                                                      exact i276489 (1 + v276479) (iv_c (12 * u276504 + v265838)) (iv_c v276981) h277017 (by first | decide | omega) (by first | decide | omega) j277018 f277022 m277023
                                                    have q277008 : ¬ (v277004 = 2147483648) := q277008
                                                    refine x_aload (np := 327) (x := 0) (by decide +kernel) rfl (x_nc_le (by decide)) ?_
                                                    refine x_iload (np := 328) (x := 2) (by decide +kernel) rfl (by first | decide | omega) ?_
                                                    refine x_cP (t := 6) (mj := 203) (n := 2) (rc := 12) (ml := 2) (nr := 2) (np := 331) (as := [x_r 75, iv_c v276479]) (rest := [iv_c (12 * u276504 + v265838), x_r 87]) (lo1 := [x_r 75, iv_c v276479]) (by decide +kernel) (by decide) (by decide +kernel) (x_rb_of (by decide +kernel)) rfl rfl (x_wr (by decide) (x_wi (by first | decide | omega) x_wn)) (x_wi (by first | decide | omega) (x_wr (by decide) x_wn)) (by decide) rfl (c203_75 j276985  (by first | decide | omega)) (fun v277024 l277025 q277026 => ?_)
                                                    refine x_goto (np := 334) (x := 335) (by decide +kernel) ?_
                                                    refine x_ast (np := 336) (x := 0) (kd := 1) (n := 72) (i := (12 * u276504 + u276512)) (by decide +kernel) (Or.inl rfl) (by decide +kernel) (by first | decide | omega) (by first | decide | omega) (by decide) l277025 (fun z => absurd z (by decide)) ?_
                                                    have j277028 := jU (e := (12 * u276504 + u276512)) (v := v277024) (12 * u276504 + u276512) j276985 rg_87_0_1_72 (by first | decide | omega) (by first | decide | omega) (by first | decide | omega)
                                                    have f277030 := jF (e := (12 * u276504 + u276512)) (v := v277024) (12 * u276504 + u276512) f276990 rg_87_0_1_72 (by first | decide | omega) (by first | decide | omega) (by decide)
                                                    have f277031 := jF (e := (12 * u276504 + u276512)) (v := v277024) (12 * u276504 + u276512) f276991 rg_87_0_1_72 (by first | decide | omega) (by first | decide | omega) (by decide)
                                                    have f277032 := jF (e := (12 * u276504 + u276512)) (v := v277024) (12 * u276504 + u276512) f276992 rg_87_0_1_72 (by first | decide | omega) (by first | decide | omega) (by decide)
                                                    have m277033 := MB.oth (q := 87) (e := (12 * u276504 + u276512)) (v := v277024) m276987 (by decide)
                                                    generalize e277029 : x_up h276983 87 (12 * u276504 + u276512) v277024 = h277027 at j277028 f277030 f277031 f277032 m277033 ⊢
                                                    refine x_aload (np := 337) (x := 0) (by decide +kernel) rfl (x_nc_le (by decide)) ?_
                                                    have q277034 : h277027 75 24 = 91 := by have z := jB (e := 24) 0 j277028 rg_75_24_0_1 (by decide) (by decide); omega
                                                    refine x_getR (np := 340) (x := 728) (f := 24) (q := 91) (by decide +kernel) (by decide) (by decide +kernel) q277034 ?_
                                                    refine x_iload (np := 341) (x := 3) (by decide +kernel) rfl (by first | decide | omega) ?_
                                                    refine x_const (np := 342) (x := 9223372034707292159) (a := 2147483647) (by decide +kernel) (by decide) (by decide) ?_
                                                    refine x_ast (np := 343) (x := 0) (kd := 1) (n := 72) (i := (12 * u276504 + u276512)) (by decide +kernel) (Or.inl rfl) (by decide +kernel) (by first | decide | omega) (by first | decide | omega) (by decide) (by decide) (fun z => absurd z (by decide)) ?_
                                                    have j277036 := jU (e := (12 * u276504 + u276512)) (v := 2147483647) (12 * u276504 + u276512) j277028 rg_91_0_1_72 (by first | decide | omega) (by first | decide | omega) (by first | decide | omega)
                                                    have f277038 := jF (e := (12 * u276504 + u276512)) (v := 2147483647) (12 * u276504 + u276512) f277030 rg_91_0_1_72 (by first | decide | omega) (by first | decide | omega) (by decide)
                                                    have f277039 := jF (e := (12 * u276504 + u276512)) (v := 2147483647) (12 * u276504 + u276512) f277031 rg_91_0_1_72 (by first | decide | omega) (by first | decide | omega) (by decide)
                                                    have f277040 := jF (e := (12 * u276504 + u276512)) (v := 2147483647) (12 * u276504 + u276512) f277032 rg_91_0_1_72 (by first | decide | omega) (by first | decide | omega) (by decide)
                                                    have m277041 := MB.oth (q := 91) (e := (12 * u276504 + u276512)) (v := 2147483647) m277033 (by decide)
                                                    generalize e277037 : x_up h277027 91 (12 * u276504 + u276512) 2147483647 = h277035 at j277036 f277038 f277039 f277040 m277041 ⊢
                                                    refine x_iinc (np := 346) (i := 2) (j := 2147483649) (v := (1 + v276479)) (lo' := [x_r 75, iv_c v265838, iv_c (1 + v276479), iv_c (12 * u276504 + v265838), iv_c v276981]) (by decide +kernel) (by decide) (by decide) rfl (by first | decide | omega) (by first | decide | omega) (by first | decide | omega) rfl ?_
                                                    refine x_goto (np := 349) (x := 237) (by decide +kernel) ?_
                                                    exact i276489 (1 + v276479) (iv_c (12 * u276504 + v265838)) (iv_c v276981) h277035 (by first | decide | omega) (by first | decide | omega) j277036 f277040 m277041
                                                  have q276999 : ¬ ((h273039 83 u276504) ≤ v276981) := q276999
                                                  refine x_aload (np := 279) (x := 0) (by decide +kernel) rfl (x_nc_le (by decide)) ?_
                                                  have q277042 : h276983 75 19 = 86 := by have z := jB (e := 19) 0 j276985 rg_75_19_0_1 (by decide) (by decide); omega
                                                  refine x_getR (np := 282) (x := 723) (f := 19) (q := 86) (by decide +kernel) (by decide) (by decide +kernel) q277042 ?_
                                                  refine x_const (np := 284) (x := 9223372124901605396) (a := 2147483668) (by decide +kernel) (by decide) (by decide) ?_
                                                  refine x_iload (np := 285) (x := 3) (by decide +kernel) rfl (by first | decide | omega) ?_
                                                  refine x_imul (np := 286) (x := 0) (i := 20) (j := (12 * u276504 + u276512)) (v := (2147483648 + 240 * u276504 + 20 * u276512)) (by decide +kernel) (by first | decide | omega) (by first | decide | omega) (by first | decide | omega) (by first | decide | omega) (by decide) (by first | decide | omega) ?_
                                                  refine x_iload (np := 288) (x := 4) (by decide +kernel) rfl (by first | decide | omega) ?_
                                                  refine x_iadd (np := 289) (x := 0) (v := (240 * u276504 + 20 * u276512 + v276981)) (by decide +kernel) (by first | decide | omega) (by first | decide | omega) (by first | decide | omega) (by first | decide | omega) ?_
                                                  refine x_aload (np := 290) (x := 0) (by decide +kernel) rfl (x_nc_le (by decide)) ?_
                                                  have q277044 : h276983 75 17 = 84 := by have z := jB (e := 17) 0 j276985 rg_75_17_0_1 (by decide) (by decide); omega
                                                  refine x_getR (np := 293) (x := 721) (f := 17) (q := 84) (by decide +kernel) (by decide) (by decide +kernel) q277044 ?_
                                                  refine x_const (np := 295) (x := 9223372124901605396) (a := 2147483668) (by decide +kernel) (by decide) (by decide) ?_
                                                  refine x_iload (np := 296) (x := 2) (by decide +kernel) rfl (by first | decide | omega) ?_
                                                  refine x_imul (np := 297) (x := 0) (i := 20) (j := u276504) (v := (2147483648 + 20 * u276504)) (by decide +kernel) (by first | decide | omega) (by first | decide | omega) (by first | decide | omega) (by first | decide | omega) (by decide) (by first | decide | omega) ?_
                                                  refine x_iload (np := 299) (x := 4) (by decide +kernel) rfl (by first | decide | omega) ?_
                                                  refine x_iadd (np := 300) (x := 0) (v := (20 * u276504 + v276981)) (by decide +kernel) (by first | decide | omega) (by first | decide | omega) (by first | decide | omega) (by first | decide | omega) ?_
                                                  obtain ⟨u277046, q277047⟩ : ∃ z, v276981 = 2147483648 + z := ⟨v276981 - 2147483648, by first | decide | omega⟩
                                                  have q277048 : h276983 84 (20 * u276504 + u277046) = h276514 84 (20 * u276504 + u277046) := jK (20 * u276504 + u277046) f276984 rg_84_0_1_120 (by first | decide | omega) (by first | decide | omega) (by decide)
                                                  have q277049 : h276514 84 (20 * u276504 + u277046) = h276483 84 (20 * u276504 + u277046) := by rw [← e276516]; exact x_up_k (by decide)
                                                  have q277050 : h276483 84 (20 * u276504 + u277046) = h273039 84 (20 * u276504 + u277046) := jK (20 * u276504 + u277046) f276484 rg_84_0_1_120 (by first | decide | omega) (by first | decide | omega) (by decide)
                                                  have b277051 := jB (e := (20 * u276504 + u277046)) (20 * u276504 + u277046) j273041 rg_84_0_1_120 (by first | decide | omega) (by first | decide | omega)
                                                  refine x_aldC (np := 301) (x := 0) (n := 120) (i := (20 * u276504 + u277046)) (q := ((h273039 84 (20 * u276504 + u277046)))) (by decide +kernel) (by decide +kernel) (by first | decide | omega) (by first | decide | omega) (by decide) ((q277048.trans q277049).trans q277050) (fun l277052 => ?_)
                                                  refine x_ast (np := 302) (x := 0) (kd := 1) (n := 1440) (i := (240 * u276504 + 20 * u276512 + u277046)) (by decide +kernel) (Or.inl rfl) (by decide +kernel) (by first | decide | omega) (by first | decide | omega) (by decide) l277052 (fun z => absurd z (by decide)) ?_
                                                  have j277054 := jU (e := (240 * u276504 + 20 * u276512 + u277046)) (v := ((h273039 84 (20 * u276504 + u277046)))) (240 * u276504 + 20 * u276512 + u277046) j276985 rg_86_0_1_1440 (by first | decide | omega) (by first | decide | omega) (by first | decide | omega)
                                                  have f277056 := jF (e := (240 * u276504 + 20 * u276512 + u277046)) (v := ((h273039 84 (20 * u276504 + u277046)))) (240 * u276504 + 20 * u276512 + u277046) f276990 rg_86_0_1_1440 (by first | decide | omega) (by first | decide | omega) (by decide)
                                                  have f277057 := jF (e := (240 * u276504 + 20 * u276512 + u277046)) (v := ((h273039 84 (20 * u276504 + u277046)))) (240 * u276504 + 20 * u276512 + u277046) f276991 rg_86_0_1_1440 (by first | decide | omega) (by first | decide | omega) (by decide)
                                                  have f277058 := jF (e := (240 * u276504 + 20 * u276512 + u277046)) (v := ((h273039 84 (20 * u276504 + u277046)))) (240 * u276504 + 20 * u276512 + u277046) f276992 rg_86_0_1_1440 (by first | decide | omega) (by first | decide | omega) (by decide)
                                                  have f277059 := jF (e := (240 * u276504 + 20 * u276512 + u277046)) (v := ((h273039 84 (20 * u276504 + u277046)))) (240 * u276504 + 20 * u276512 + u277046) f276984 rg_86_0_1_1440 (by first | decide | omega) (by first | decide | omega) (by decide)
                                                  have m277060 := MB.oth (q := 86) (e := (240 * u276504 + 20 * u276512 + u277046)) (v := ((h273039 84 (20 * u276504 + u277046)))) m276987 (by decide)
                                                  generalize e277055 : x_up h276983 86 (240 * u276504 + 20 * u276512 + u277046) ((h273039 84 (20 * u276504 + u277046))) = h277053 at j277054 f277056 f277057 f277058 f277059 m277060 ⊢
                                                  refine x_iinc (np := 305) (i := 4) (j := 2147483649) (v := (1 + v276981)) (lo' := [x_r 75, iv_c v265838, iv_c v276479, iv_c (12 * u276504 + v265838), iv_c (1 + v276981)]) (by decide +kernel) (by decide) (by decide) rfl (by first | decide | omega) (by first | decide | omega) (by first | decide | omega) rfl ?_
                                                  refine x_goto (np := 308) (x := 267) (by decide +kernel) ?_
                                                  exact i276989 (1 + v276981) h277053 (by first | decide | omega) (by first | decide | omega) j277054 f277059 m277060
                                              exact p276986 _ 2147483648 h276514 (Nat.lt_succ_self _) (by first | decide | omega) j276515 (Fr.refl _ _) m276520
                                          exact p276486 _ 2147483648 w272272 w272273 h273039 (Nat.lt_succ_self _) (by first | decide | omega) j273041 (Fr.refl _ _) (MB.mono m273043 (Nat.le_refl _) (by rw [Nat.add_comm 1 v265838]; exact cn_day 20))
                                        have q273059 : ¬ ((h 76 2) ≤ v273037) := q273059
                                        refine x_aload (np := 214) (x := 0) (by decide +kernel) rfl (x_nc_le (by decide)) ?_
                                        refine x_iload (np := 215) (x := 2) (by decide +kernel) rfl (by first | decide | omega) ?_
                                        refine x_const (np := 216) (x := 9223372047592194050) (a := 2147483650) (by decide +kernel) (by decide) (by decide) ?_
                                        refine x_nI (t := 6) (mj := 161) (n := 3) (rc := 12) (ml := 3) (nr := 0) (np := 219) (as := [x_r 75, iv_c v273037, iv_c 2147483650]) (rest := []) (lo1 := [x_r 75, iv_c v273037, iv_c 2147483650]) (by decide +kernel) (by decide) (by decide +kernel) (x_rb_of (by decide +kernel)) rfl rfl (x_wr (by decide) (x_wi (by first | decide | omega) (x_wi (by decide) x_wn))) x_wn (by decide) rfl ?_
                                        refine x_aload (np := 1) (x := 0) (by decide +kernel) rfl (x_nc_le (by decide)) ?_
                                        have q277061 : h273039 75 1 = 76 := by have z := jB (e := 1) 0 j273041 rg_75_1_0_1 (by decide) (by decide); omega
                                        refine x_getR (np := 4) (x := 705) (f := 1) (q := 76) (by decide +kernel) (by decide) (by decide +kernel) q277061 ?_
                                        refine x_const (np := 6) (x := 9223372124901605396) (a := 2147483668) (by decide +kernel) (by decide) (by decide) ?_
                                        refine x_const (np := 8) (x := 9223372069067030535) (a := 2147483655) (by decide +kernel) (by decide) (by decide) ?_
                                        refine x_iload (np := 9) (x := 1) (by decide +kernel) rfl (by first | decide | omega) ?_
                                        obtain ⟨u277062, q277063⟩ : ∃ z, v273037 = 2147483648 + z := ⟨v273037 - 2147483648, by first | decide | omega⟩
                                        refine x_imul (np := 10) (x := 0) (i := 7) (j := u277062) (v := (2147483648 + 7 * u277062)) (by decide +kernel) (by first | decide | omega) (by first | decide | omega) (by first | decide | omega) (by first | decide | omega) (by decide) (by first | decide | omega) ?_
                                        refine x_iadd (np := 11) (x := 0) (v := (2147483668 + 7 * u277062)) (by decide +kernel) (by decide) (by first | decide | omega) (by first | decide | omega) (by first | decide | omega) ?_
                                        refine x_iload (np := 12) (x := 2) (by decide +kernel) rfl (by decide) ?_
                                        refine x_iadd (np := 13) (x := 0) (v := (2147483670 + 7 * u277062)) (by decide +kernel) (by first | decide | omega) (by decide) (by first | decide | omega) (by first | decide | omega) ?_
                                        have q277065 : h273039 76 (22 + 7 * u277062) = h272274 76 (22 + 7 * u277062) := jK u277062 f273040 rg_76_22_7_20 (by first | decide | omega) (by first | decide | omega) (by decide)
                                        have q277066 : h272274 76 (22 + 7 * u277062) = h266244 76 (22 + 7 * u277062) := jK u277062 f272275 rg_76_22_7_20 (by first | decide | omega) (by first | decide | omega) (by decide)
                                        have q277067 : h266244 76 (22 + 7 * u277062) = h266001 76 (22 + 7 * u277062) := jK u277062 f266245 rg_76_22_7_20 (by first | decide | omega) (by first | decide | omega) (by decide)
                                        have q277068 : h266001 76 (22 + 7 * u277062) = h265843 76 (22 + 7 * u277062) := jK u277062 f266002 rg_76_22_7_20 (by first | decide | omega) (by first | decide | omega) (by decide)
                                        have q277069 : h265843 76 (22 + 7 * u277062) = h564 76 (22 + 7 * u277062) := jK u277062 f265844 rg_76_22_7_20 (by first | decide | omega) (by first | decide | omega) (by decide)
                                        have q277070 : h564 76 (22 + 7 * u277062) = h102 76 (22 + 7 * u277062) := jK u277062 f565 rg_76_22_7_20 (by first | decide | omega) (by first | decide | omega) (by decide)
                                        have q277071 : h102 76 (22 + 7 * u277062) = h 76 (22 + 7 * u277062) := jK u277062 f103 rg_76_22_7_20 (by first | decide | omega) (by first | decide | omega) (by decide)
                                        refine x_aldC (np := 14) (x := 0) (n := 1952) (i := (22 + 7 * u277062)) (q := ((h 76 (22 + 7 * u277062)))) (by decide +kernel) (by decide +kernel) (by first | decide | omega) (by first | decide | omega) (by decide) ((((((q277065.trans q277066).trans q277067).trans q277068).trans q277069).trans q277070).trans q277071) (fun l277072 => ?_)
                                        refine x_retI (np := 15) (x := 0) (by decide +kernel) l277072 (Or.inl (by decide +kernel)) ⟨_, rfl, l277072, ?_⟩
                                        refine x_iload (np := 220) (x := 1) (by decide +kernel) rfl (by first | decide | omega) ?_
                                        refine x_icmp (k := 1) (tg := 229) (np := 223) (by decide +kernel) (by decide) l277072 (by first | decide | omega) (fun q277073 => ?_) (fun q277074 => ?_)
                                        · have q277073 : ((h 76 (22 + 7 * u277062))) ≠ v265838 := q277073
                                          refine x_iinc (np := 232) (i := 2) (j := 2147483649) (v := (1 + v273037)) (lo' := [x_r 75, iv_c v265838, iv_c (1 + v273037), w272272, w272273]) (by decide +kernel) (by decide) (by decide) rfl (by first | decide | omega) (by first | decide | omega) (by first | decide | omega) rfl ?_
                                          refine x_goto (np := 235) (x := 203) (by decide +kernel) ?_
                                          have m277075 : MB 6 (cn (fun l => h 76 (22 + 7 * l)) v265838 ((1 + v273037) - 2147483648) 20) h273039 := by
                                            have e0 : v273037 - 2147483648 = u277062 := by first | decide | omega
                                            have e9 : (1 + v273037) = 2147483648 + (u277062 + 1) := by first | decide | omega
                                            have e1 : (1 + v273037) - 2147483648 = u277062 + 1 := by rw [e9]; exact Nat.add_sub_cancel_left _ _
                                            have p9 := m273043
                                            rw [e0] at p9
                                            rw [e1, cn_skip (f := (fun l => h 76 (22 + 7 * l))) (d := v265838) (l := u277062) (show h 76 (22 + 7 * u277062) ≠ v265838 by first | decide | omega) 20]
                                            exact p9
                                          exact i273045 (1 + v273037) h273039 (by first | decide | omega) (by first | decide | omega) j273041 f273040 m277075
                                        have q277074 : ¬ (((h 76 (22 + 7 * u277062))) ≠ v265838) := q277074
                                        refine x_aload (np := 224) (x := 0) (by decide +kernel) rfl (x_nc_le (by decide)) ?_
                                        refine x_iload (np := 225) (x := 2) (by decide +kernel) rfl (by first | decide | omega) ?_
                                        refine x_iload (np := 226) (x := 1) (by decide +kernel) rfl (by first | decide | omega) ?_
                                        have m277085 := WT.fr hW hJ f103 (by decide)
                                        have m277084 := WT.fr m277085 j104 f565 (by decide)
                                        have m277083 := WT.fr m277084 j566 f265844 (by decide)
                                        have m277082 := WT.fr m277083 j265845 f266002 (by decide)
                                        have m277081 := WT.fr m277082 j266003 f266245 (by decide)
                                        have m277080 := WT.fr m277081 j266246 f272275 (by decide)
                                        have m277079 := WT.fr m277080 j272276 f273040 (by decide)
                                        have q277086 : cn (fun l => h 76 (22 + 7 * l)) v265838 (v273037 - 2147483648) 20 ≤ 19 := by
                                          have e0 : v273037 - 2147483648 = u277062 := by first | decide | omega
                                          have z := cn_lt (f := (fun l => h 76 (22 + 7 * l))) (d := v265838) (l := u277062) (show h 76 (22 + 7 * u277062) = v265838 by first | decide | omega) 20 (by first | decide | omega)
                                          rw [e0]
                                          omega
                                        refine x_cV (t := 6) (mj := 209) (n := 3) (rc := 12) (ml := 7) (nr := 0) (np := 229) (as := [x_r 75, iv_c v273037, iv_c v265838]) (rest := []) (lo1 := [x_r 75, iv_c v273037, iv_c v265838, 147573952589676412928, 147573952589676412928, 147573952589676412928, 147573952589676412928]) (by decide +kernel) (by decide) (by decide +kernel) (x_rb_of (by decide +kernel)) rfl rfl (x_wr (by decide) (x_wi (by first | decide | omega) (x_wi (by first | decide | omega) x_wn))) x_wn (by decide) rfl (c209_75 (n0 := cn (fun l => h 76 (22 + 7 * l)) v265838 (v273037 - 2147483648) 20) j273041  (by first | decide | omega) (by first | decide | omega) q277086 m273043 m277079) (fun h277087 q277078 => ?_)
                                        obtain ⟨j277088, f277089, m277091⟩ := q277078
                                        have f277092 := Fr.trans f273046 f277089 (by decide)
                                        have f277093 := Fr.trans f273047 f277089 (by decide)
                                        have f277094 := Fr.trans f273040 f277089 (by decide)
                                        refine x_iinc (np := 232) (i := 2) (j := 2147483649) (v := (1 + v273037)) (lo' := [x_r 75, iv_c v265838, iv_c (1 + v273037), w272272, w272273]) (by decide +kernel) (by decide) (by decide) rfl (by first | decide | omega) (by first | decide | omega) (by first | decide | omega) rfl ?_
                                        refine x_goto (np := 235) (x := 203) (by decide +kernel) ?_
                                        have m277095 : MB 6 (cn (fun l => h 76 (22 + 7 * l)) v265838 ((1 + v273037) - 2147483648) 20) h277087 := by
                                          have e0 : v273037 - 2147483648 = u277062 := by first | decide | omega
                                          have e9 : (1 + v273037) = 2147483648 + (u277062 + 1) := by first | decide | omega
                                          have e1 : (1 + v273037) - 2147483648 = u277062 + 1 := by rw [e9]; exact Nat.add_sub_cancel_left _ _
                                          have p9 := m277091
                                          rw [e0] at p9
                                          rw [e1, cn_step (f := (fun l => h 76 (22 + 7 * l))) (d := v265838) (l := u277062) (show h 76 (22 + 7 * u277062) = v265838 by first | decide | omega) 20 (by first | decide | omega)]
                                          exact p9
                                        exact i273045 (1 + v273037) h277087 (by first | decide | omega) (by first | decide | omega) j277088 f277094 m277095
                                    exact p273042 _ 2147483648 h272274 (Nat.lt_succ_self _) (by first | decide | omega) j272276 (Fr.refl _ _) m272278
                                  have q272292 : ¬ ((h 76 0) ≤ v272270) := q272292
                                  refine x_const (np := 134) (x := 9223372039002259456) (a := 2147483648) (by decide +kernel) (by decide) (by decide) ?_
                                  refine x_istore (np := 135) (x := 3) (lo' := [x_r 75, iv_c v265838, iv_c v272270, iv_c 2147483648, w272273]) (by decide +kernel) (by decide) (Nat.le_of_ble_eq_true rfl) rfl ?_
                                  have p278026 : ∀ (n : Nat) (v278020 : Nat) (w278022 : Nat) (h278023 : xh), 4294967296 - v278020 < n → (2147483648 ≤ v278020 ∧ v278020 ≤ 2147483668) → J h278023 → Fr 34359738368 h272274 h278023 → MB 6 (cn (fun l => h 76 (22 + 7 * l)) v265838 0 20) h278023 → X sc 210 (d + 4) (xV fun h' => J h' ∧ Fr 135291469825 h h') 0 0 135 [x_r 75, iv_c v265838, iv_c v272270, iv_c v278020, w278022] [] h278023 := by
                                    intro n
                                    induction n with
                                    | zero => intro v278020 w278022 h278023 q278028; exact absurd q278028 (Nat.not_lt_zero _)
                                    | succ n i278029 =>
                                      intro v278020 w278022 h278023 q278028 b278021 j278025 f278024 m278027
                                      have f278030 := Fr.trans f272281 f278024 (by decide)
                                      have f278031 := Fr.trans f272282 f278024 (by decide)
                                      have f278032 := Fr.trans f272275 f278024 (by decide)
                                      refine x_iload (np := 136) (x := 3) (by decide +kernel) rfl (by first | decide | omega) ?_
                                      refine x_aload (np := 137) (x := 0) (by decide +kernel) rfl (x_nc_le (by decide)) ?_
                                      have q278033 : h278023 75 16 = 83 := by have z := jB (e := 16) 0 j278025 rg_75_16_0_1 (by decide) (by decide); omega
                                      refine x_getR (np := 140) (x := 720) (f := 16) (q := 83) (by decide +kernel) (by decide) (by decide +kernel) q278033 ?_
                                      refine x_iload (np := 141) (x := 2) (by decide +kernel) rfl (by first | decide | omega) ?_
                                      obtain ⟨u278034, q278035⟩ : ∃ z, v272270 = 2147483648 + z := ⟨v272270 - 2147483648, by first | decide | omega⟩
                                      have q278036 : h278023 83 u278034 = h272274 83 u278034 := jK u278034 f278024 rg_83_0_1_6 (by first | decide | omega) (by first | decide | omega) (by decide)
                                      have q278037 : h272274 83 u278034 = h266244 83 u278034 := jK u278034 f272275 rg_83_0_1_6 (by first | decide | omega) (by first | decide | omega) (by decide)
                                      have b278038 := jB (e := u278034) u278034 j266246 rg_83_0_1_6 (by first | decide | omega) (by first | decide | omega)
                                      refine x_aldC (np := 142) (x := 0) (n := 6) (i := u278034) (q := (h266244 83 u278034)) (by decide +kernel) (by decide +kernel) (by first | decide | omega) (by first | decide | omega) (by decide) (q278036.trans q278037) (fun l278039 => ?_)
                                      refine x_icmp (k := 3) (tg := 195) (np := 145) (by decide +kernel) (by decide) (by first | decide | omega) l278039 (fun q278040 => ?_) (fun q278041 => ?_)
                                      · have q278040 : (h266244 83 u278034) ≤ v278020 := q278040
                                        refine x_iinc (np := 198) (i := 2) (j := 2147483649) (v := (1 + v272270)) (lo' := [x_r 75, iv_c v265838, iv_c (1 + v272270), iv_c v278020, w278022]) (by decide +kernel) (by decide) (by decide) rfl (by first | decide | omega) (by first | decide | omega) (by first | decide | omega) rfl ?_
                                        refine x_goto (np := 201) (x := 125) (by decide +kernel) ?_
                                        exact i272280 (1 + v272270) (iv_c v278020) w278022 h278023 (by first | decide | omega) (by first | decide | omega) j278025 f278032 m278027
                                      have q278041 : ¬ ((h266244 83 u278034) ≤ v278020) := q278041
                                      refine x_aload (np := 146) (x := 0) (by decide +kernel) rfl (x_nc_le (by decide)) ?_
                                      have q278042 : h278023 75 17 = 84 := by have z := jB (e := 17) 0 j278025 rg_75_17_0_1 (by decide) (by decide); omega
                                      refine x_getR (np := 149) (x := 721) (f := 17) (q := 84) (by decide +kernel) (by decide) (by decide +kernel) q278042 ?_
                                      refine x_const (np := 151) (x := 9223372124901605396) (a := 2147483668) (by decide +kernel) (by decide) (by decide) ?_
                                      refine x_iload (np := 152) (x := 2) (by decide +kernel) rfl (by first | decide | omega) ?_
                                      refine x_imul (np := 153) (x := 0) (i := 20) (j := u278034) (v := (2147483648 + 20 * u278034)) (by decide +kernel) (by first | decide | omega) (by first | decide | omega) (by first | decide | omega) (by first | decide | omega) (by decide) (by first | decide | omega) ?_
                                      refine x_iload (np := 154) (x := 3) (by decide +kernel) rfl (by first | decide | omega) ?_
                                      refine x_iadd (np := 155) (x := 0) (v := (20 * u278034 + v278020)) (by decide +kernel) (by first | decide | omega) (by first | decide | omega) (by first | decide | omega) (by first | decide | omega) ?_
                                      obtain ⟨u278044, q278045⟩ : ∃ z, v278020 = 2147483648 + z := ⟨v278020 - 2147483648, by first | decide | omega⟩
                                      have q278046 : h278023 84 (20 * u278034 + u278044) = h272274 84 (20 * u278034 + u278044) := jK (20 * u278034 + u278044) f278024 rg_84_0_1_120 (by first | decide | omega) (by first | decide | omega) (by decide)
                                      have q278047 : h272274 84 (20 * u278034 + u278044) = h266244 84 (20 * u278034 + u278044) := jK (20 * u278034 + u278044) f272275 rg_84_0_1_120 (by first | decide | omega) (by first | decide | omega) (by decide)
                                      have q278048 : h266244 84 (20 * u278034 + u278044) = h266001 84 (20 * u278034 + u278044) := jK (20 * u278034 + u278044) f266245 rg_84_0_1_120 (by first | decide | omega) (by first | decide | omega) (by decide)
                                      have q278049 : h266001 84 (20 * u278034 + u278044) = h265843 84 (20 * u278034 + u278044) := jK (20 * u278034 + u278044) f266002 rg_84_0_1_120 (by first | decide | omega) (by first | decide | omega) (by decide)
                                      have b278050 := jB (e := (20 * u278034 + u278044)) (20 * u278034 + u278044) j265845 rg_84_0_1_120 (by first | decide | omega) (by first | decide | omega)
                                      refine x_aldC (np := 156) (x := 0) (n := 120) (i := (20 * u278034 + u278044)) (q := ((h265843 84 (20 * u278034 + u278044)))) (by decide +kernel) (by decide +kernel) (by first | decide | omega) (by first | decide | omega) (by decide) (((q278046.trans q278047).trans q278048).trans q278049) (fun l278051 => ?_)
                                      refine x_istore (np := 158) (x := 4) (lo' := [x_r 75, iv_c v265838, iv_c v272270, iv_c v278020, iv_c ((h265843 84 (20 * u278034 + u278044)))]) (by decide +kernel) l278051 (Nat.le_of_ble_eq_true rfl) rfl ?_
                                      refine x_aload (np := 159) (x := 0) (by decide +kernel) rfl (x_nc_le (by decide)) ?_
                                      have q278052 : h278023 75 23 = 90 := by have z := jB (e := 23) 0 j278025 rg_75_23_0_1 (by decide) (by decide); omega
                                      refine x_getR (np := 162) (x := 727) (f := 23) (q := 90) (by decide +kernel) (by decide) (by decide +kernel) q278052 ?_
                                      refine x_iload (np := 164) (x := 4) (by decide +kernel) rfl l278051 ?_
                                      refine x_dup2 (np := 165) (x := 0) (by decide +kernel) (by have z := (iw_c_lt (a := ((h265843 84 (20 * u278034 + u278044)))) l278051).1; omega) (by have z := x_nc_le (k := 90) (by decide); unfold x_r; omega) ?_
                                      obtain ⟨u278053, q278054⟩ : ∃ z, ((h265843 84 (20 * u278034 + u278044))) = 2147483648 + z := ⟨((h265843 84 (20 * u278034 + u278044))) - 2147483648, by first | decide | omega⟩
                                      refine x_aldC (np := 166) (x := 0) (n := 20) (i := u278053) (q := (h278023 90 u278053)) (by decide +kernel) (by decide +kernel) (by first | decide | omega) (by first | decide | omega) (by decide) rfl (fun l278055 => ?_)
                                      refine x_aload (np := 167) (x := 0) (by decide +kernel) rfl (x_nc_le (by decide)) ?_
                                      refine x_iload (np := 169) (x := 4) (by decide +kernel) rfl l278051 ?_
                                      refine x_iload (np := 170) (x := 1) (by decide +kernel) rfl (by first | decide | omega) ?_
                                      refine x_cP (t := 6) (mj := 202) (n := 3) (rc := 12) (ml := 3) (nr := 3) (np := 173) (as := [x_r 75, iv_c ((h265843 84 (20 * u278034 + u278044))), iv_c v265838]) (rest := [iv_c (h278023 90 u278053), iv_c ((h265843 84 (20 * u278034 + u278044))), x_r 90]) (lo1 := [x_r 75, iv_c ((h265843 84 (20 * u278034 + u278044))), iv_c v265838]) (by decide +kernel) (by decide) (by decide +kernel) (x_rb_of (by decide +kernel)) rfl rfl (x_wr (by decide) (x_wi l278051 (x_wi (by first | decide | omega) x_wn))) (x_wi l278055 (x_wi l278051 (x_wr (by decide) x_wn))) (by decide) rfl (c202_75 j278025  (by first | decide | omega) (by first | decide | omega)) (fun v278056 l278057 q278058 => ?_)
                                      refine x_ifz (k := 0) (tg := 186) (np := 176) (by decide +kernel) (by decide) l278057 (fun q278059 => ?_) (fun q278060 => ?_)
                                      · have q278059 : v278056 = 2147483648 := q278059
                                        refine x_const (np := 187) (x := 9223372039002259456) (a := 2147483648) (by decide +kernel) (by decide) (by decide) ?_
                                        refine x_iadd (np := 188) (x := 0) (v := (h278023 90 u278053)) (by decide +kernel) l278055 (by decide) (by first | decide | omega) (by first | decide | omega) ?_
                                        refine x_ast (np := 189) (x := 0) (kd := 1) (n := 20) (i := u278053) (by decide +kernel) (Or.inl rfl) (by decide +kernel) (by first | decide | omega) (by first | decide | omega) (by decide) l278055 (fun z => absurd z (by decide)) ?_
                                        have j278062 := jU (e := u278053) (v := (h278023 90 u278053)) u278053 j278025 rg_90_0_1_20 (by first | decide | omega) (by first | decide | omega) (by first | decide | omega)
                                        have f278064 := jF (e := u278053) (v := (h278023 90 u278053)) u278053 f278030 rg_90_0_1_20 (by first | decide | omega) (by first | decide | omega) (by decide)
                                        have f278065 := jF (e := u278053) (v := (h278023 90 u278053)) u278053 f278031 rg_90_0_1_20 (by first | decide | omega) (by first | decide | omega) (by decide)
                                        have f278066 := jF (e := u278053) (v := (h278023 90 u278053)) u278053 f278032 rg_90_0_1_20 (by first | decide | omega) (by first | decide | omega) (by decide)
                                        have f278067 := jF (e := u278053) (v := (h278023 90 u278053)) u278053 f278024 rg_90_0_1_20 (by first | decide | omega) (by first | decide | omega) (by decide)
                                        have m278068 := MB.oth (q := 90) (e := u278053) (v := (h278023 90 u278053)) m278027 (by decide)
                                        generalize e278063 : x_up h278023 90 u278053 (h278023 90 u278053) = h278061 at j278062 f278064 f278065 f278066 f278067 m278068 ⊢
                                        refine x_iinc (np := 192) (i := 3) (j := 2147483649) (v := (1 + v278020)) (lo' := [x_r 75, iv_c v265838, iv_c v272270, iv_c (1 + v278020), iv_c ((h265843 84 (20 * u278034 + u278044)))]) (by decide +kernel) (by decide) (by decide) rfl (by first | decide | omega) (by first | decide | omega) (by first | decide | omega) rfl ?_
                                        refine x_goto (np := 195) (x := 135) (by decide +kernel) ?_
                                        exact i278029 (1 + v278020) (iv_c ((h265843 84 (20 * u278034 + u278044)))) h278061 (by first | decide | omega) (by first | decide | omega) j278062 f278067 m278068
                                      have q278060 : ¬ (v278056 = 2147483648) := q278060
                                      refine x_aload (np := 177) (x := 0) (by decide +kernel) rfl (x_nc_le (by decide)) ?_
                                      refine x_iload (np := 179) (x := 4) (by decide +kernel) rfl l278051 ?_
                                      refine x_const (np := 180) (x := 9223372060477095941) (a := 2147483653) (by decide +kernel) (by decide) (by decide) ?_
                                      refine x_nI (t := 6) (mj := 161) (n := 3) (rc := 12) (ml := 3) (nr := 3) (np := 183) (as := [x_r 75, iv_c ((h265843 84 (20 * u278034 + u278044))), iv_c 2147483653]) (rest := [iv_c (h278023 90 u278053), iv_c ((h265843 84 (20 * u278034 + u278044))), x_r 90]) (lo1 := [x_r 75, iv_c ((h265843 84 (20 * u278034 + u278044))), iv_c 2147483653]) (by decide +kernel) (by decide) (by decide +kernel) (x_rb_of (by decide +kernel)) rfl rfl (x_wr (by decide) (x_wi l278051 (x_wi (by decide) x_wn))) (x_wi l278055 (x_wi l278051 (x_wr (by decide) x_wn))) (by decide) rfl ?_
                                      refine x_aload (np := 1) (x := 0) (by decide +kernel) rfl (x_nc_le (by decide)) ?_
                                      have q278069 : h278023 75 1 = 76 := by have z := jB (e := 1) 0 j278025 rg_75_1_0_1 (by decide) (by decide); omega
                                      refine x_getR (np := 4) (x := 705) (f := 1) (q := 76) (by decide +kernel) (by decide) (by decide +kernel) q278069 ?_
                                      refine x_const (np := 6) (x := 9223372124901605396) (a := 2147483668) (by decide +kernel) (by decide) (by decide) ?_
                                      refine x_const (np := 8) (x := 9223372069067030535) (a := 2147483655) (by decide +kernel) (by decide) (by decide) ?_
                                      refine x_iload (np := 9) (x := 1) (by decide +kernel) rfl l278051 ?_
                                      refine x_imul (np := 10) (x := 0) (i := 7) (j := u278053) (v := (2147483648 + 7 * u278053)) (by decide +kernel) (by first | decide | omega) (by first | decide | omega) (by first | decide | omega) (by first | decide | omega) (by decide) l278051 ?_
                                      refine x_iadd (np := 11) (x := 0) (v := (2147483668 + 7 * u278053)) (by decide +kernel) (by decide) (by first | decide | omega) (by first | decide | omega) (by first | decide | omega) ?_
                                      refine x_iload (np := 12) (x := 2) (by decide +kernel) rfl (by decide) ?_
                                      refine x_iadd (np := 13) (x := 0) (v := (2147483673 + 7 * u278053)) (by decide +kernel) (by first | decide | omega) (by decide) (by first | decide | omega) (by first | decide | omega) ?_
                                      have q278071 : h278023 76 (25 + 7 * u278053) = h272274 76 (25 + 7 * u278053) := jK u278053 f278024 rg_76_25_7_20 (by first | decide | omega) (by first | decide | omega) (by decide)
                                      have q278072 : h272274 76 (25 + 7 * u278053) = h266244 76 (25 + 7 * u278053) := jK u278053 f272275 rg_76_25_7_20 (by first | decide | omega) (by first | decide | omega) (by decide)
                                      have q278073 : h266244 76 (25 + 7 * u278053) = h266001 76 (25 + 7 * u278053) := jK u278053 f266245 rg_76_25_7_20 (by first | decide | omega) (by first | decide | omega) (by decide)
                                      have q278074 : h266001 76 (25 + 7 * u278053) = h265843 76 (25 + 7 * u278053) := jK u278053 f266002 rg_76_25_7_20 (by first | decide | omega) (by first | decide | omega) (by decide)
                                      have q278075 : h265843 76 (25 + 7 * u278053) = h564 76 (25 + 7 * u278053) := jK u278053 f265844 rg_76_25_7_20 (by first | decide | omega) (by first | decide | omega) (by decide)
                                      have q278076 : h564 76 (25 + 7 * u278053) = h102 76 (25 + 7 * u278053) := jK u278053 f565 rg_76_25_7_20 (by first | decide | omega) (by first | decide | omega) (by decide)
                                      have q278077 : h102 76 (25 + 7 * u278053) = h 76 (25 + 7 * u278053) := jK u278053 f103 rg_76_25_7_20 (by first | decide | omega) (by first | decide | omega) (by decide)
                                      refine x_aldC (np := 14) (x := 0) (n := 1952) (i := (25 + 7 * u278053)) (q := ((h 76 (25 + 7 * u278053)))) (by decide +kernel) (by decide +kernel) (by first | decide | omega) (by first | decide | omega) (by decide) ((((((q278071.trans q278072).trans q278073).trans q278074).trans q278075).trans q278076).trans q278077) (fun l278078 => ?_)
                                      refine x_retI (np := 15) (x := 0) (by decide +kernel) l278078 (Or.inl (by decide +kernel)) ⟨_, rfl, l278078, ?_⟩
                                      refine x_goto (np := 186) (x := 187) (by decide +kernel) ?_
                                      refine x_addA (by rw [tb_b210]; decide +kernel) l278055 l278078 (fun v278079 l278080 => ?_)
                                      refine x_ast (np := 189) (x := 0) (kd := 1) (n := 20) (i := u278053) (by decide +kernel) (Or.inl rfl) (by decide +kernel) (by first | decide | omega) (by first | decide | omega) (by decide) l278080 (fun z => absurd z (by decide)) ?_
                                      have j278082 := jU (e := u278053) (v := v278079) u278053 j278025 rg_90_0_1_20 (by first | decide | omega) (by first | decide | omega) (by first | decide | omega)
                                      have f278084 := jF (e := u278053) (v := v278079) u278053 f278030 rg_90_0_1_20 (by first | decide | omega) (by first | decide | omega) (by decide)
                                      have f278085 := jF (e := u278053) (v := v278079) u278053 f278031 rg_90_0_1_20 (by first | decide | omega) (by first | decide | omega) (by decide)
                                      have f278086 := jF (e := u278053) (v := v278079) u278053 f278032 rg_90_0_1_20 (by first | decide | omega) (by first | decide | omega) (by decide)
                                      have f278087 := jF (e := u278053) (v := v278079) u278053 f278024 rg_90_0_1_20 (by first | decide | omega) (by first | decide | omega) (by decide)
                                      have m278088 := MB.oth (q := 90) (e := u278053) (v := v278079) m278027 (by decide)
                                      generalize e278083 : x_up h278023 90 u278053 v278079 = h278081 at j278082 f278084 f278085 f278086 f278087 m278088 ⊢
                                      refine x_iinc (np := 192) (i := 3) (j := 2147483649) (v := (1 + v278020)) (lo' := [x_r 75, iv_c v265838, iv_c v272270, iv_c (1 + v278020), iv_c ((h265843 84 (20 * u278034 + u278044)))]) (by decide +kernel) (by decide) (by decide) rfl (by first | decide | omega) (by first | decide | omega) (by first | decide | omega) rfl ?_
                                      refine x_goto (np := 195) (x := 135) (by decide +kernel) ?_
                                      exact i278029 (1 + v278020) (iv_c ((h265843 84 (20 * u278034 + u278044)))) h278081 (by first | decide | omega) (by first | decide | omega) j278082 f278087 m278088
                                  exact p278026 _ 2147483648 w272273 h272274 (Nat.lt_succ_self _) (by first | decide | omega) j272276 (Fr.refl _ _) m272278
                              exact p272277 _ 2147483648 w265841 w265842 h266244 (Nat.lt_succ_self _) (by first | decide | omega) j266246 (Fr.refl _ _) m266248
                            have q266261 : ¬ ((h 76 0) ≤ v266242) := q266261
                            refine x_aload (np := 97) (x := 0) (by decide +kernel) rfl (x_nc_le (by decide)) ?_
                            have q278089 : h266244 75 1 = 76 := by have z := jB (e := 1) 0 j266246 rg_75_1_0_1 (by decide) (by decide); omega
                            refine x_getR (np := 100) (x := 705) (f := 1) (q := 76) (by decide +kernel) (by decide) (by decide +kernel) q278089 ?_
                            refine x_const (np := 102) (x := 9223372069067030535) (a := 2147483655) (by decide +kernel) (by decide) (by decide) ?_
                            have q278090 : h266244 76 7 = h266001 76 7 := jK 0 f266245 rg_76_7_0_1 (by first | decide | omega) (by first | decide | omega) (by decide)
                            have q278091 : h266001 76 7 = h265843 76 7 := jK 0 f266002 rg_76_7_0_1 (by first | decide | omega) (by first | decide | omega) (by decide)
                            have q278092 : h265843 76 7 = h564 76 7 := jK 0 f265844 rg_76_7_0_1 (by first | decide | omega) (by first | decide | omega) (by decide)
                            have q278093 : h564 76 7 = h102 76 7 := jK 0 f565 rg_76_7_0_1 (by first | decide | omega) (by first | decide | omega) (by decide)
                            have q278094 : h102 76 7 = h 76 7 := jK 0 f103 rg_76_7_0_1 (by first | decide | omega) (by first | decide | omega) (by decide)
                            refine x_aldC (np := 103) (x := 0) (n := 1952) (i := 7) (q := (h 76 7)) (by decide +kernel) (by decide +kernel) (by first | decide | omega) (by first | decide | omega) (by decide) ((((q278090.trans q278091).trans q278092).trans q278093).trans q278094) (fun l278095 => ?_)
                            refine x_iload (np := 104) (x := 1) (by decide +kernel) rfl (by first | decide | omega) ?_
                            refine x_any (np := 105) (k9 := 4) (by decide +kernel) (by decide) l278095 (by first | decide | omega) (fun v278096 l278097 => ?_)
                            refine x_const (np := 106) (x := 9223372043297226753) (a := 2147483649) (by decide +kernel) (by decide) (by decide) ?_
                            refine x_mask (np := 107) (m := 1) (k9 := 2) (by decide +kernel) l278097 (by decide +kernel) (by decide) (by decide) (by decide) (fun u278098 l278099 => ?_)
                            refine x_const (np := 108) (x := 9223372043297226753) (a := 2147483649) (by decide +kernel) (by decide) (by decide) ?_
                            refine x_icmp (k := 1) (tg := 123) (np := 111) (by decide +kernel) (by decide) (by first | decide | omega) (by decide) (fun q278100 => ?_) (fun q278101 => ?_)
                            · have q278100 : (2147483648 + u278098) ≠ 2147483649 := q278100
                              refine x_const (np := 124) (x := 9223372039002259456) (a := 2147483648) (by decide +kernel) (by decide) (by decide) ?_
                              refine x_istore (np := 125) (x := 2) (lo' := [x_r 75, iv_c v265838, iv_c 2147483648, w265841, w265842]) (by decide +kernel) (by decide) (Nat.le_of_ble_eq_true rfl) rfl ?_
                              have p284117 : ∀ (n : Nat) (v284110 : Nat) (w284112 : Nat) (w284113 : Nat) (h284114 : xh), 4294967296 - v284110 < n → (2147483648 ≤ v284110 ∧ v284110 ≤ 2147483654) → J h284114 → Fr 34359738368 h266244 h284114 → MB 6 (cn (fun l => h 76 (22 + 7 * l)) v265838 0 20) h284114 → X sc 210 (d + 4) (xV fun h' => J h' ∧ Fr 135291469825 h h') 0 0 125 [x_r 75, iv_c v265838, iv_c v284110, w284112, w284113] [] h284114 := by
                                intro n
                                induction n with
                                | zero => intro v284110 w284112 w284113 h284114 q284119; exact absurd q284119 (Nat.not_lt_zero _)
                                | succ n i284120 =>
                                  intro v284110 w284112 w284113 h284114 q284119 b284111 j284116 f284115 m284118
                                  have f284121 := Fr.trans f266251 f284115 (by decide)
                                  have f284122 := Fr.trans f266252 f284115 (by decide)
                                  refine x_iload (np := 126) (x := 2) (by decide +kernel) rfl (by first | decide | omega) ?_
                                  refine x_aload (np := 127) (x := 0) (by decide +kernel) rfl (x_nc_le (by decide)) ?_
                                  refine x_nI (t := 6) (mj := 157) (n := 1) (rc := 12) (ml := 1) (nr := 1) (np := 130) (as := [x_r 75]) (rest := [iv_c v284110]) (lo1 := [x_r 75]) (by decide +kernel) (by decide) (by decide +kernel) (x_rb_of (by decide +kernel)) rfl rfl (x_wr (by decide) x_wn) (x_wi (by first | decide | omega) x_wn) (by decide) rfl ?_
                                  refine x_aload (np := 1) (x := 0) (by decide +kernel) rfl (x_nc_le (by decide)) ?_
                                  have q284123 : h284114 75 1 = 76 := by have z := jB (e := 1) 0 j284116 rg_75_1_0_1 (by decide) (by decide); omega
                                  refine x_getR (np := 4) (x := 705) (f := 1) (q := 76) (by decide +kernel) (by decide) (by decide +kernel) q284123 ?_
                                  refine x_const (np := 5) (x := 9223372039002259456) (a := 2147483648) (by decide +kernel) (by decide) (by decide) ?_
                                  have q284124 : h284114 76 0 = h266244 76 0 := jK 0 f284115 rg_76_0_0_1 (by first | decide | omega) (by first | decide | omega) (by decide)
                                  have q284125 : h266244 76 0 = h266001 76 0 := jK 0 f266245 rg_76_0_0_1 (by first | decide | omega) (by first | decide | omega) (by decide)
                                  have q284126 : h266001 76 0 = h265843 76 0 := jK 0 f266002 rg_76_0_0_1 (by first | decide | omega) (by first | decide | omega) (by decide)
                                  have q284127 : h265843 76 0 = h564 76 0 := jK 0 f265844 rg_76_0_0_1 (by first | decide | omega) (by first | decide | omega) (by decide)
                                  have q284128 : h564 76 0 = h102 76 0 := jK 0 f565 rg_76_0_0_1 (by first | decide | omega) (by first | decide | omega) (by decide)
                                  have q284129 : h102 76 0 = h 76 0 := jK 0 f103 rg_76_0_0_1 (by first | decide | omega) (by first | decide | omega) (by decide)
                                  refine x_aldC (np := 6) (x := 0) (n := 1952) (i := 0) (q := (h 76 0)) (by decide +kernel) (by decide +kernel) (by first | decide | omega) (by first | decide | omega) (by decide) (((((q284124.trans q284125).trans q284126).trans q284127).trans q284128).trans q284129) (fun l284130 => ?_)
                                  refine x_retI (np := 7) (x := 0) (by decide +kernel) l266016 (Or.inl (by decide +kernel)) ⟨_, rfl, l266016, ?_⟩
                                  refine x_icmp (k := 3) (tg := 201) (np := 133) (by decide +kernel) (by decide) (by first | decide | omega) l266016 (fun q284131 => ?_) (fun q284132 => ?_)
                                  · have q284131 : (h 76 0) ≤ v284110 := q284131
                                    refine x_const (np := 202) (x := 9223372039002259456) (a := 2147483648) (by decide +kernel) (by decide) (by decide) ?_
                                    refine x_istore (np := 203) (x := 2) (lo' := [x_r 75, iv_c v265838, iv_c 2147483648, w284112, w284113]) (by decide +kernel) (by decide) (Nat.le_of_ble_eq_true rfl) rfl ?_
                                    have p284882 : ∀ (n : Nat) (v284877 : Nat) (h284879 : xh), 4294967296 - v284877 < n → (2147483648 ≤ v284877 ∧ v284877 ≤ 2147483668) → J h284879 → Fr 66571993089 h284114 h284879 → MB 6 (cn (fun l => h 76 (22 + 7 * l)) v265838 (v284877 - 2147483648) 20) h284879 → X sc 210 (d + 4) (xV fun h' => J h' ∧ Fr 135291469825 h h') 0 0 203 [x_r 75, iv_c v265838, iv_c v284877, w284112, w284113] [] h284879 := by
                                      intro n
                                      induction n with
                                      | zero => intro v284877 h284879 q284884; exact absurd q284884 (Nat.not_lt_zero _)
                                      | succ n i284885 =>
                                        intro v284877 h284879 q284884 b284878 j284881 f284880 m284883
                                        have f284886 := Fr.trans f284121 f284880 (by decide)
                                        have f284887 := Fr.trans f284122 f284880 (by decide)
                                        refine x_iload (np := 204) (x := 2) (by decide +kernel) rfl (by first | decide | omega) ?_
                                        refine x_aload (np := 205) (x := 0) (by decide +kernel) rfl (x_nc_le (by decide)) ?_
                                        have q284888 : h284879 75 1 = 76 := by have z := jB (e := 1) 0 j284881 rg_75_1_0_1 (by decide) (by decide); omega
                                        refine x_getR (np := 208) (x := 705) (f := 1) (q := 76) (by decide +kernel) (by decide) (by decide +kernel) q284888 ?_
                                        refine x_const (np := 209) (x := 9223372047592194050) (a := 2147483650) (by decide +kernel) (by decide) (by decide) ?_
                                        have q284889 : h284879 76 2 = h284114 76 2 := jK 0 f284880 rg_76_2_0_1 (by first | decide | omega) (by first | decide | omega) (by decide)
                                        have q284890 : h284114 76 2 = h266244 76 2 := jK 0 f284115 rg_76_2_0_1 (by first | decide | omega) (by first | decide | omega) (by decide)
                                        have q284891 : h266244 76 2 = h266001 76 2 := jK 0 f266245 rg_76_2_0_1 (by first | decide | omega) (by first | decide | omega) (by decide)
                                        have q284892 : h266001 76 2 = h265843 76 2 := jK 0 f266002 rg_76_2_0_1 (by first | decide | omega) (by first | decide | omega) (by decide)
                                        have q284893 : h265843 76 2 = h564 76 2 := jK 0 f265844 rg_76_2_0_1 (by first | decide | omega) (by first | decide | omega) (by decide)
                                        have q284894 : h564 76 2 = h102 76 2 := jK 0 f565 rg_76_2_0_1 (by first | decide | omega) (by first | decide | omega) (by decide)
                                        have q284895 : h102 76 2 = h 76 2 := jK 0 f103 rg_76_2_0_1 (by first | decide | omega) (by first | decide | omega) (by decide)
                                        have b284896 := jB (e := 2) 0 hJ rg_76_2_0_1 (by first | decide | omega) (by first | decide | omega)
                                        refine x_aldC (np := 210) (x := 0) (n := 1952) (i := 2) (q := (h 76 2)) (by decide +kernel) (by decide +kernel) (by first | decide | omega) (by first | decide | omega) (by decide) ((((((q284889.trans q284890).trans q284891).trans q284892).trans q284893).trans q284894).trans q284895) (fun l284897 => ?_)
                                        refine x_icmp (k := 3) (tg := 235) (np := 213) (by decide +kernel) (by decide) (by first | decide | omega) l284897 (fun q284898 => ?_) (fun q284899 => ?_)
                                        · have q284898 : (h 76 2) ≤ v284877 := q284898
                                          refine x_const (np := 236) (x := 9223372039002259456) (a := 2147483648) (by decide +kernel) (by decide) (by decide) ?_
                                          refine x_istore (np := 237) (x := 2) (lo' := [x_r 75, iv_c v265838, iv_c 2147483648, w284112, w284113]) (by decide +kernel) (by decide) (Nat.le_of_ble_eq_true rfl) rfl ?_
                                          have p288326 : ∀ (n : Nat) (v288319 : Nat) (w288321 : Nat) (w288322 : Nat) (h288323 : xh), 4294967296 - v288319 < n → (2147483648 ≤ v288319 ∧ v288319 ≤ 2147483654) → J h288323 → Fr 103079215104 h284879 h288323 → MB 6 (cn (fun l => h 76 (22 + 7 * l)) (1 + v265838) 0 20) h288323 → X sc 210 (d + 4) (xV fun h' => J h' ∧ Fr 135291469825 h h') 0 0 237 [x_r 75, iv_c v265838, iv_c v288319, w288321, w288322] [] h288323 := by
                                            intro n
                                            induction n with
                                            | zero => intro v288319 w288321 w288322 h288323 q288328; exact absurd q288328 (Nat.not_lt_zero _)
                                            | succ n i288329 =>
                                              intro v288319 w288321 w288322 h288323 q288328 b288320 j288325 f288324 m288327
                                              have f288330 := Fr.trans f284886 f288324 (by decide)
                                              have f288331 := Fr.trans f284887 f288324 (by decide)
                                              refine x_iload (np := 238) (x := 2) (by decide +kernel) rfl (by first | decide | omega) ?_
                                              refine x_aload (np := 239) (x := 0) (by decide +kernel) rfl (x_nc_le (by decide)) ?_
                                              refine x_nI (t := 6) (mj := 157) (n := 1) (rc := 12) (ml := 1) (nr := 1) (np := 242) (as := [x_r 75]) (rest := [iv_c v288319]) (lo1 := [x_r 75]) (by decide +kernel) (by decide) (by decide +kernel) (x_rb_of (by decide +kernel)) rfl rfl (x_wr (by decide) x_wn) (x_wi (by first | decide | omega) x_wn) (by decide) rfl ?_
                                              refine x_aload (np := 1) (x := 0) (by decide +kernel) rfl (x_nc_le (by decide)) ?_
                                              have q288332 : h288323 75 1 = 76 := by have z := jB (e := 1) 0 j288325 rg_75_1_0_1 (by decide) (by decide); omega
                                              refine x_getR (np := 4) (x := 705) (f := 1) (q := 76) (by decide +kernel) (by decide) (by decide +kernel) q288332 ?_
                                              refine x_const (np := 5) (x := 9223372039002259456) (a := 2147483648) (by decide +kernel) (by decide) (by decide) ?_
                                              have q288333 : h288323 76 0 = h284879 76 0 := jK 0 f288324 rg_76_0_0_1 (by first | decide | omega) (by first | decide | omega) (by decide)
                                              have q288334 : h284879 76 0 = h284114 76 0 := jK 0 f284880 rg_76_0_0_1 (by first | decide | omega) (by first | decide | omega) (by decide)
                                              have q288335 : h284114 76 0 = h266244 76 0 := jK 0 f284115 rg_76_0_0_1 (by first | decide | omega) (by first | decide | omega) (by decide)
                                              have q288336 : h266244 76 0 = h266001 76 0 := jK 0 f266245 rg_76_0_0_1 (by first | decide | omega) (by first | decide | omega) (by decide)
                                              have q288337 : h266001 76 0 = h265843 76 0 := jK 0 f266002 rg_76_0_0_1 (by first | decide | omega) (by first | decide | omega) (by decide)
                                              have q288338 : h265843 76 0 = h564 76 0 := jK 0 f265844 rg_76_0_0_1 (by first | decide | omega) (by first | decide | omega) (by decide)
                                              have q288339 : h564 76 0 = h102 76 0 := jK 0 f565 rg_76_0_0_1 (by first | decide | omega) (by first | decide | omega) (by decide)
                                              have q288340 : h102 76 0 = h 76 0 := jK 0 f103 rg_76_0_0_1 (by first | decide | omega) (by first | decide | omega) (by decide)
                                              refine x_aldC (np := 6) (x := 0) (n := 1952) (i := 0) (q := (h 76 0)) (by decide +kernel) (by decide +kernel) (by first | decide | omega) (by first | decide | omega) (by decide) (((((((q288333.trans q288334).trans q288335).trans q288336).trans q288337).trans q288338).trans q288339).trans q288340) (fun l288341 => ?_)
                                              refine x_retI (np := 7) (x := 0) (by decide +kernel) l266016 (Or.inl (by decide +kernel)) ⟨_, rfl, l266016, ?_⟩
                                              refine x_icmp (k := 3) (tg := 349) (np := 245) (by decide +kernel) (by decide) (by first | decide | omega) l266016 (fun q288342 => ?_) (fun q288343 => ?_)
                                              · have q288342 : (h 76 0) ≤ v288319 := q288342
                                                refine x_iinc (np := 352) (i := 1) (j := 2147483649) (v := (1 + v265838)) (lo' := [x_r 75, iv_c (1 + v265838), iv_c v288319, w288321, w288322]) (by decide +kernel) (by decide) (by decide) rfl (by first | decide | omega) (by first | decide | omega) (by first | decide | omega) rfl ?_
                                                refine x_goto (np := 355) (x := 58) (by decide +kernel) ?_
                                                exact i265849 (1 + v265838) (iv_c v288319) w288321 w288322 h288323 (by first | decide | omega) (by first | decide | omega) j288325 f288331 m288327
                                              have q288343 : ¬ ((h 76 0) ≤ v288319) := q288343
                                              refine x_const (np := 247) (x := 9223372090541867020) (a := 2147483660) (by decide +kernel) (by decide) (by decide) ?_
                                              refine x_iload (np := 248) (x := 2) (by decide +kernel) rfl (by first | decide | omega) ?_
                                              obtain ⟨u288344, q288345⟩ : ∃ z, v288319 = 2147483648 + z := ⟨v288319 - 2147483648, by first | decide | omega⟩
                                              refine x_imul (np := 249) (x := 0) (i := 12) (j := u288344) (v := (2147483648 + 12 * u288344)) (by decide +kernel) (by first | decide | omega) (by first | decide | omega) (by first | decide | omega) (by first | decide | omega) (by decide) (by first | decide | omega) ?_
                                              refine x_iload (np := 250) (x := 1) (by decide +kernel) rfl (by first | decide | omega) ?_
                                              refine x_iadd (np := 251) (x := 0) (v := (12 * u288344 + v265838)) (by decide +kernel) (by first | decide | omega) (by first | decide | omega) (by first | decide | omega) (by first | decide | omega) ?_
                                              refine x_istore (np := 252) (x := 3) (lo' := [x_r 75, iv_c v265838, iv_c v288319, iv_c (12 * u288344 + v265838), w288322]) (by decide +kernel) (by first | decide | omega) (Nat.le_of_ble_eq_true rfl) rfl ?_
                                              refine x_aload (np := 253) (x := 0) (by decide +kernel) rfl (x_nc_le (by decide)) ?_
                                              have q288347 : h288323 75 18 = 85 := by have z := jB (e := 18) 0 j288325 rg_75_18_0_1 (by decide) (by decide); omega
                                              refine x_getR (np := 256) (x := 722) (f := 18) (q := 85) (by decide +kernel) (by decide) (by decide +kernel) q288347 ?_
                                              refine x_iload (np := 257) (x := 3) (by decide +kernel) rfl (by first | decide | omega) ?_
                                              refine x_aload (np := 258) (x := 0) (by decide +kernel) rfl (x_nc_le (by decide)) ?_
                                              have q288348 : h288323 75 16 = 83 := by have z := jB (e := 16) 0 j288325 rg_75_16_0_1 (by decide) (by decide); omega
                                              refine x_getR (np := 261) (x := 720) (f := 16) (q := 83) (by decide +kernel) (by decide) (by decide +kernel) q288348 ?_
                                              refine x_iload (np := 262) (x := 2) (by decide +kernel) rfl (by first | decide | omega) ?_
                                              have q288349 : h288323 83 u288344 = h284879 83 u288344 := jK u288344 f288324 rg_83_0_1_6 (by first | decide | omega) (by first | decide | omega) (by decide)
                                              have b288350 := jB (e := u288344) u288344 j284881 rg_83_0_1_6 (by first | decide | omega) (by first | decide | omega)
                                              refine x_aldC (np := 263) (x := 0) (n := 6) (i := u288344) (q := (h284879 83 u288344)) (by decide +kernel) (by decide +kernel) (by first | decide | omega) (by first | decide | omega) (by decide) q288349 (fun l288351 => ?_)
                                              obtain ⟨u288352, q288353⟩ : ∃ z, v265838 = 2147483648 + z := ⟨v265838 - 2147483648, by first | decide | omega⟩
                                              refine x_ast (np := 264) (x := 0) (kd := 1) (n := 72) (i := (12 * u288344 + u288352)) (by decide +kernel) (Or.inl rfl) (by decide +kernel) (by first | decide | omega) (by first | decide | omega) (by decide) l288351 (fun z => absurd z (by decide)) ?_
                                              have j288355 := jU (e := (12 * u288344 + u288352)) (v := (h284879 83 u288344)) (12 * u288344 + u288352) j288325 rg_85_0_1_72 (by first | decide | omega) (by first | decide | omega) (by first | decide | omega)
                                              have f288357 := jF (e := (12 * u288344 + u288352)) (v := (h284879 83 u288344)) (12 * u288344 + u288352) f288330 rg_85_0_1_72 (by first | decide | omega) (by first | decide | omega) (by decide)
                                              have f288358 := jF (e := (12 * u288344 + u288352)) (v := (h284879 83 u288344)) (12 * u288344 + u288352) f288331 rg_85_0_1_72 (by first | decide | omega) (by first | decide | omega) (by decide)
                                              have f288359 := jF (e := (12 * u288344 + u288352)) (v := (h284879 83 u288344)) (12 * u288344 + u288352) f288324 rg_85_0_1_72 (by first | decide | omega) (by first | decide | omega) (by decide)
                                              have m288360 := MB.oth (q := 85) (e := (12 * u288344 + u288352)) (v := (h284879 83 u288344)) m288327 (by decide)
                                              generalize e288356 : x_up h288323 85 (12 * u288344 + u288352) (h284879 83 u288344) = h288354 at j288355 f288357 f288358 f288359 m288360 ⊢
                                              refine x_const (np := 265) (x := 9223372039002259456) (a := 2147483648) (by decide +kernel) (by decide) (by decide) ?_
                                              refine x_istore (np := 267) (x := 4) (lo' := [x_r 75, iv_c v265838, iv_c v288319, iv_c (12 * u288344 + v265838), iv_c 2147483648]) (by decide +kernel) (by decide) (Nat.le_of_ble_eq_true rfl) rfl ?_
                                              have p288826 : ∀ (n : Nat) (v288821 : Nat) (h288823 : xh), 4294967296 - v288821 < n → (2147483648 ≤ v288821 ∧ v288821 ≤ 2147483668) → J h288823 → Fr 34359738368 h288354 h288823 → MB 6 (cn (fun l => h 76 (22 + 7 * l)) (1 + v265838) 0 20) h288823 → X sc 210 (d + 4) (xV fun h' => J h' ∧ Fr 135291469825 h h') 0 0 267 [x_r 75, iv_c v265838, iv_c v288319, iv_c (12 * u288344 + v265838), iv_c v288821] [] h288823 := by
                                                intro n
                                                induction n with
                                                | zero => intro v288821 h288823 q288828; exact absurd q288828 (Nat.not_lt_zero _)
                                                | succ n i288829 =>
                                                  intro v288821 h288823 q288828 b288822 j288825 f288824 m288827
                                                  have f288830 := Fr.trans f288357 f288824 (by decide)
                                                  have f288831 := Fr.trans f288358 f288824 (by decide)
                                                  have f288832 := Fr.trans f288359 f288824 (by decide)
                                                  refine x_iload (np := 269) (x := 4) (by decide +kernel) rfl (by first | decide | omega) ?_
                                                  refine x_aload (np := 270) (x := 0) (by decide +kernel) rfl (x_nc_le (by decide)) ?_
                                                  have q288833 : h288823 75 16 = 83 := by have z := jB (e := 16) 0 j288825 rg_75_16_0_1 (by decide) (by decide); omega
                                                  refine x_getR (np := 273) (x := 720) (f := 16) (q := 83) (by decide +kernel) (by decide) (by decide +kernel) q288833 ?_
                                                  refine x_iload (np := 274) (x := 2) (by decide +kernel) rfl (by first | decide | omega) ?_
                                                  have q288834 : h288823 83 u288344 = h288354 83 u288344 := jK u288344 f288824 rg_83_0_1_6 (by first | decide | omega) (by first | decide | omega) (by decide)
                                                  have q288835 : h288354 83 u288344 = h288323 83 u288344 := by rw [← e288356]; exact x_up_k (by decide)
                                                  have q288836 : h288323 83 u288344 = h284879 83 u288344 := jK u288344 f288324 rg_83_0_1_6 (by first | decide | omega) (by first | decide | omega) (by decide)
                                                  refine x_aldC (np := 275) (x := 0) (n := 6) (i := u288344) (q := (h284879 83 u288344)) (by decide +kernel) (by decide +kernel) (by first | decide | omega) (by first | decide | omega) (by decide) ((q288834.trans q288835).trans q288836) (fun l288837 => ?_)
                                                  refine x_icmp (k := 3) (tg := 308) (np := 278) (by decide +kernel) (by decide) (by first | decide | omega) l288351 (fun q288838 => ?_) (fun q288839 => ?_)
                                                  · have q288838 : (h284879 83 u288344) ≤ v288821 := q288838
                                                    refine x_aload (np := 309) (x := 0) (by decide +kernel) rfl (x_nc_le (by decide)) ?_
                                                    have q288840 : h288823 75 20 = 87 := by have z := jB (e := 20) 0 j288825 rg_75_20_0_1 (by decide) (by decide); omega
                                                    refine x_getR (np := 312) (x := 724) (f := 20) (q := 87) (by decide +kernel) (by decide) (by decide +kernel) q288840 ?_
                                                    refine x_iload (np := 313) (x := 3) (by decide +kernel) rfl (by first | decide | omega) ?_
                                                    refine x_aload (np := 314) (x := 0) (by decide +kernel) rfl (x_nc_le (by decide)) ?_
                                                    refine x_aload (np := 315) (x := 0) (by decide +kernel) rfl (x_nc_le (by decide)) ?_
                                                    refine x_iload (np := 316) (x := 2) (by decide +kernel) rfl (by first | decide | omega) ?_
                                                    refine x_cP (t := 6) (mj := 203) (n := 2) (rc := 12) (ml := 2) (nr := 3) (np := 319) (as := [x_r 75, iv_c v288319]) (rest := [x_r 75, iv_c (12 * u288344 + v265838), x_r 87]) (lo1 := [x_r 75, iv_c v288319]) (by decide +kernel) (by decide) (by decide +kernel) (x_rb_of (by decide +kernel)) rfl rfl (x_wr (by decide) (x_wi (by first | decide | omega) x_wn)) (x_wr (by decide) (x_wi (by first | decide | omega) (x_wr (by decide) x_wn))) (by decide) rfl (c203_75 j288825  (by first | decide | omega)) (fun v288841 l288842 q288843 => ?_)
                                                    refine x_iload (np := 320) (x := 1) (by decide +kernel) rfl (by first | decide | omega) ?_
                                                    refine x_cP (t := 6) (mj := 200) (n := 3) (rc := 12) (ml := 3) (nr := 2) (np := 323) (as := [x_r 75, iv_c v288841, iv_c v265838]) (rest := [iv_c (12 * u288344 + v265838), x_r 87]) (lo1 := [x_r 75, iv_c v288841, iv_c v265838]) (by decide +kernel) (by decide) (by decide +kernel) (x_rb_of (by decide +kernel)) rfl rfl (x_wr (by decide) (x_wi l288842 (x_wi (by first | decide | omega) x_wn))) (x_wi (by first | decide | omega) (x_wr (by decide) x_wn)) (by decide) rfl (c200_75 j288825  (by first | decide | omega) (by first | decide | omega)) (fun v288844 l288845 q288846 => ?_)
                                                    refine x_ifz (k := 0) (tg := 334) (np := 326) (by decide +kernel) (by decide) l288845 (fun q288847 => ?_) (fun q288848 => ?_)
                                                    · have q288847 : v288844 = 2147483648 := q288847
                                                      refine x_const (np := 335) (x := 9223372034707292159) (a := 2147483647) (by decide +kernel) (by decide) (by decide) ?_
                                                      refine x_ast (np := 336) (x := 0) (kd := 1) (n := 72) (i := (12 * u288344 + u288352)) (by decide +kernel) (Or.inl rfl) (by decide +kernel) (by first | decide | omega) (by first | decide | omega) (by decide) (by decide) (fun z => absurd z (by decide)) ?_
                                                      have j288850 := jU (e := (12 * u288344 + u288352)) (v := 2147483647) (12 * u288344 + u288352) j288825 rg_87_0_1_72 (by first | decide | omega) (by first | decide | omega) (by first | decide | omega)
                                                      have f288852 := jF (e := (12 * u288344 + u288352)) (v := 2147483647) (12 * u288344 + u288352) f288830 rg_87_0_1_72 (by first | decide | omega) (by first | decide | omega) (by decide)
                                                      have f288853 := jF (e := (12 * u288344 + u288352)) (v := 2147483647) (12 * u288344 + u288352) f288831 rg_87_0_1_72 (by first | decide | omega) (by first | decide | omega) (by decide)
                                                      have f288854 := jF (e := (12 * u288344 + u288352)) (v := 2147483647) (12 * u288344 + u288352) f288832 rg_87_0_1_72 (by first | decide | omega) (by first | decide | omega) (by decide)
                                                      have m288855 := MB.oth (q := 87) (e := (12 * u288344 + u288352)) (v := 2147483647) m288827 (by decide)
                                                      generalize e288851 : x_up h288823 87 (12 * u288344 + u288352) 2147483647 = h288849 at j288850 f288852 f288853 f288854 m288855 ⊢
                                                      refine x_aload (np := 337) (x := 0) (by decide +kernel) rfl (x_nc_le (by decide)) ?_
                                                      have q288856 : h288849 75 24 = 91 := by have z := jB (e := 24) 0 j288850 rg_75_24_0_1 (by decide) (by decide); omega
                                                      refine x_getR (np := 340) (x := 728) (f := 24) (q := 91) (by decide +kernel) (by decide) (by decide +kernel) q288856 ?_
                                                      refine x_iload (np := 341) (x := 3) (by decide +kernel) rfl (by first | decide | omega) ?_
                                                      refine x_const (np := 342) (x := 9223372034707292159) (a := 2147483647) (by decide +kernel) (by decide) (by decide) ?_
                                                      refine x_ast (np := 343) (x := 0) (kd := 1) (n := 72) (i := (12 * u288344 + u288352)) (by decide +kernel) (Or.inl rfl) (by decide +kernel) (by first | decide | omega) (by first | decide | omega) (by decide) (by decide) (fun z => absurd z (by decide)) ?_
                                                      have j288858 := jU (e := (12 * u288344 + u288352)) (v := 2147483647) (12 * u288344 + u288352) j288850 rg_91_0_1_72 (by first | decide | omega) (by first | decide | omega) (by first | decide | omega)
                                                      have f288860 := jF (e := (12 * u288344 + u288352)) (v := 2147483647) (12 * u288344 + u288352) f288852 rg_91_0_1_72 (by first | decide | omega) (by first | decide | omega) (by decide)
                                                      have f288861 := jF (e := (12 * u288344 + u288352)) (v := 2147483647) (12 * u288344 + u288352) f288853 rg_91_0_1_72 (by first | decide | omega) (by first | decide | omega) (by decide)
                                                      have f288862 := jF (e := (12 * u288344 + u288352)) (v := 2147483647) (12 * u288344 + u288352) f288854 rg_91_0_1_72 (by first | decide | omega) (by first | decide | omega) (by decide)
                                                      have m288863 := MB.oth (q := 91) (e := (12 * u288344 + u288352)) (v := 2147483647) m288855 (by decide)
                                                      generalize e288859 : x_up h288849 91 (12 * u288344 + u288352) 2147483647 = h288857 at j288858 f288860 f288861 f288862 m288863 ⊢
                                                      refine x_iinc (np := 346) (i := 2) (j := 2147483649) (v := (1 + v288319)) (lo' := [x_r 75, iv_c v265838, iv_c (1 + v288319), iv_c (12 * u288344 + v265838), iv_c v288821]) (by decide +kernel) (by decide) (by decide) rfl (by first | decide | omega) (by first | decide | omega) (by first | decide | omega) rfl ?_
                                                      refine x_goto (np := 349) (x := 237) (by decide +kernel) ?_
                                                      exact i288329 (1 + v288319) (iv_c (12 * u288344 + v265838)) (iv_c v288821) h288857 (by first | decide | omega) (by first | decide | omega) j288858 f288862 m288863
                                                    have q288848 : ¬ (v288844 = 2147483648) := q288848
                                                    refine x_aload (np := 327) (x := 0) (by decide +kernel) rfl (x_nc_le (by decide)) ?_
                                                    refine x_iload (np := 328) (x := 2) (by decide +kernel) rfl (by first | decide | omega) ?_
                                                    refine x_cP (t := 6) (mj := 203) (n := 2) (rc := 12) (ml := 2) (nr := 2) (np := 331) (as := [x_r 75, iv_c v288319]) (rest := [iv_c (12 * u288344 + v265838), x_r 87]) (lo1 := [x_r 75, iv_c v288319]) (by decide +kernel) (by decide) (by decide +kernel) (x_rb_of (by decide +kernel)) rfl rfl (x_wr (by decide) (x_wi (by first | decide | omega) x_wn)) (x_wi (by first | decide | omega) (x_wr (by decide) x_wn)) (by decide) rfl (c203_75 j288825  (by first | decide | omega)) (fun v288864 l288865 q288866 => ?_)
                                                    refine x_goto (np := 334) (x := 335) (by decide +kernel) ?_
                                                    refine x_ast (np := 336) (x := 0) (kd := 1) (n := 72) (i := (12 * u288344 + u288352)) (by decide +kernel) (Or.inl rfl) (by decide +kernel) (by first | decide | omega) (by first | decide | omega) (by decide) l288865 (fun z => absurd z (by decide)) ?_
                                                    have j288868 := jU (e := (12 * u288344 + u288352)) (v := v288864) (12 * u288344 + u288352) j288825 rg_87_0_1_72 (by first | decide | omega) (by first | decide | omega) (by first | decide | omega)
                                                    have f288870 := jF (e := (12 * u288344 + u288352)) (v := v288864) (12 * u288344 + u288352) f288830 rg_87_0_1_72 (by first | decide | omega) (by first | decide | omega) (by decide)
                                                    have f288871 := jF (e := (12 * u288344 + u288352)) (v := v288864) (12 * u288344 + u288352) f288831 rg_87_0_1_72 (by first | decide | omega) (by first | decide | omega) (by decide)
                                                    have f288872 := jF (e := (12 * u288344 + u288352)) (v := v288864) (12 * u288344 + u288352) f288832 rg_87_0_1_72 (by first | decide | omega) (by first | decide | omega) (by decide)
                                                    have m288873 := MB.oth (q := 87) (e := (12 * u288344 + u288352)) (v := v288864) m288827 (by decide)
                                                    generalize e288869 : x_up h288823 87 (12 * u288344 + u288352) v288864 = h288867 at j288868 f288870 f288871 f288872 m288873 ⊢
                                                    refine x_aload (np := 337) (x := 0) (by decide +kernel) rfl (x_nc_le (by decide)) ?_
                                                    have q288874 : h288867 75 24 = 91 := by have z := jB (e := 24) 0 j288868 rg_75_24_0_1 (by decide) (by decide); omega
                                                    refine x_getR (np := 340) (x := 728) (f := 24) (q := 91) (by decide +kernel) (by decide) (by decide +kernel) q288874 ?_
                                                    refine x_iload (np := 341) (x := 3) (by decide +kernel) rfl (by first | decide | omega) ?_
                                                    refine x_const (np := 342) (x := 9223372034707292159) (a := 2147483647) (by decide +kernel) (by decide) (by decide) ?_
                                                    refine x_ast (np := 343) (x := 0) (kd := 1) (n := 72) (i := (12 * u288344 + u288352)) (by decide +kernel) (Or.inl rfl) (by decide +kernel) (by first | decide | omega) (by first | decide | omega) (by decide) (by decide) (fun z => absurd z (by decide)) ?_
                                                    have j288876 := jU (e := (12 * u288344 + u288352)) (v := 2147483647) (12 * u288344 + u288352) j288868 rg_91_0_1_72 (by first | decide | omega) (by first | decide | omega) (by first | decide | omega)
                                                    have f288878 := jF (e := (12 * u288344 + u288352)) (v := 2147483647) (12 * u288344 + u288352) f288870 rg_91_0_1_72 (by first | decide | omega) (by first | decide | omega) (by decide)
                                                    have f288879 := jF (e := (12 * u288344 + u288352)) (v := 2147483647) (12 * u288344 + u288352) f288871 rg_91_0_1_72 (by first | decide | omega) (by first | decide | omega) (by decide)
                                                    have f288880 := jF (e := (12 * u288344 + u288352)) (v := 2147483647) (12 * u288344 + u288352) f288872 rg_91_0_1_72 (by first | decide | omega) (by first | decide | omega) (by decide)
                                                    have m288881 := MB.oth (q := 91) (e := (12 * u288344 + u288352)) (v := 2147483647) m288873 (by decide)
                                                    generalize e288877 : x_up h288867 91 (12 * u288344 + u288352) 2147483647 = h288875 at j288876 f288878 f288879 f288880 m288881 ⊢
                                                    refine x_iinc (np := 346) (i := 2) (j := 2147483649) (v := (1 + v288319)) (lo' := [x_r 75, iv_c v265838, iv_c (1 + v288319), iv_c (12 * u288344 + v265838), iv_c v288821]) (by decide +kernel) (by decide) (by decide) rfl (by first | decide | omega) (by first | decide | omega) (by first | decide | omega) rfl ?_
                                                    refine x_goto (np := 349) (x := 237) (by decide +kernel) ?_
                                                    exact i288329 (1 + v288319) (iv_c (12 * u288344 + v265838)) (iv_c v288821) h288875 (by first | decide | omega) (by first | decide | omega) j288876 f288880 m288881
                                                  have q288839 : ¬ ((h284879 83 u288344) ≤ v288821) := q288839
                                                  refine x_aload (np := 279) (x := 0) (by decide +kernel) rfl (x_nc_le (by decide)) ?_
                                                  have q288882 : h288823 75 19 = 86 := by have z := jB (e := 19) 0 j288825 rg_75_19_0_1 (by decide) (by decide); omega
                                                  refine x_getR (np := 282) (x := 723) (f := 19) (q := 86) (by decide +kernel) (by decide) (by decide +kernel) q288882 ?_
                                                  refine x_const (np := 284) (x := 9223372124901605396) (a := 2147483668) (by decide +kernel) (by decide) (by decide) ?_
                                                  refine x_iload (np := 285) (x := 3) (by decide +kernel) rfl (by first | decide | omega) ?_
                                                  refine x_imul (np := 286) (x := 0) (i := 20) (j := (12 * u288344 + u288352)) (v := (2147483648 + 240 * u288344 + 20 * u288352)) (by decide +kernel) (by first | decide | omega) (by first | decide | omega) (by first | decide | omega) (by first | decide | omega) (by decide) (by first | decide | omega) ?_
                                                  refine x_iload (np := 288) (x := 4) (by decide +kernel) rfl (by first | decide | omega) ?_
                                                  refine x_iadd (np := 289) (x := 0) (v := (240 * u288344 + 20 * u288352 + v288821)) (by decide +kernel) (by first | decide | omega) (by first | decide | omega) (by first | decide | omega) (by first | decide | omega) ?_
                                                  refine x_aload (np := 290) (x := 0) (by decide +kernel) rfl (x_nc_le (by decide)) ?_
                                                  have q288884 : h288823 75 17 = 84 := by have z := jB (e := 17) 0 j288825 rg_75_17_0_1 (by decide) (by decide); omega
                                                  refine x_getR (np := 293) (x := 721) (f := 17) (q := 84) (by decide +kernel) (by decide) (by decide +kernel) q288884 ?_
                                                  refine x_const (np := 295) (x := 9223372124901605396) (a := 2147483668) (by decide +kernel) (by decide) (by decide) ?_
                                                  refine x_iload (np := 296) (x := 2) (by decide +kernel) rfl (by first | decide | omega) ?_
                                                  refine x_imul (np := 297) (x := 0) (i := 20) (j := u288344) (v := (2147483648 + 20 * u288344)) (by decide +kernel) (by first | decide | omega) (by first | decide | omega) (by first | decide | omega) (by first | decide | omega) (by decide) (by first | decide | omega) ?_
                                                  refine x_iload (np := 299) (x := 4) (by decide +kernel) rfl (by first | decide | omega) ?_
                                                  refine x_iadd (np := 300) (x := 0) (v := (20 * u288344 + v288821)) (by decide +kernel) (by first | decide | omega) (by first | decide | omega) (by first | decide | omega) (by first | decide | omega) ?_
                                                  obtain ⟨u288886, q288887⟩ : ∃ z, v288821 = 2147483648 + z := ⟨v288821 - 2147483648, by first | decide | omega⟩
                                                  have q288888 : h288823 84 (20 * u288344 + u288886) = h288354 84 (20 * u288344 + u288886) := jK (20 * u288344 + u288886) f288824 rg_84_0_1_120 (by first | decide | omega) (by first | decide | omega) (by decide)
                                                  have q288889 : h288354 84 (20 * u288344 + u288886) = h288323 84 (20 * u288344 + u288886) := by rw [← e288356]; exact x_up_k (by decide)
                                                  have q288890 : h288323 84 (20 * u288344 + u288886) = h284879 84 (20 * u288344 + u288886) := jK (20 * u288344 + u288886) f288324 rg_84_0_1_120 (by first | decide | omega) (by first | decide | omega) (by decide)
                                                  have b288891 := jB (e := (20 * u288344 + u288886)) (20 * u288344 + u288886) j284881 rg_84_0_1_120 (by first | decide | omega) (by first | decide | omega)
                                                  refine x_aldC (np := 301) (x := 0) (n := 120) (i := (20 * u288344 + u288886)) (q := ((h284879 84 (20 * u288344 + u288886)))) (by decide +kernel) (by decide +kernel) (by first | decide | omega) (by first | decide | omega) (by decide) ((q288888.trans q288889).trans q288890) (fun l288892 => ?_)
                                                  refine x_ast (np := 302) (x := 0) (kd := 1) (n := 1440) (i := (240 * u288344 + 20 * u288352 + u288886)) (by decide +kernel) (Or.inl rfl) (by decide +kernel) (by first | decide | omega) (by first | decide | omega) (by decide) l288892 (fun z => absurd z (by decide)) ?_
                                                  have j288894 := jU (e := (240 * u288344 + 20 * u288352 + u288886)) (v := ((h284879 84 (20 * u288344 + u288886)))) (240 * u288344 + 20 * u288352 + u288886) j288825 rg_86_0_1_1440 (by first | decide | omega) (by first | decide | omega) (by first | decide | omega)
                                                  have f288896 := jF (e := (240 * u288344 + 20 * u288352 + u288886)) (v := ((h284879 84 (20 * u288344 + u288886)))) (240 * u288344 + 20 * u288352 + u288886) f288830 rg_86_0_1_1440 (by first | decide | omega) (by first | decide | omega) (by decide)
                                                  have f288897 := jF (e := (240 * u288344 + 20 * u288352 + u288886)) (v := ((h284879 84 (20 * u288344 + u288886)))) (240 * u288344 + 20 * u288352 + u288886) f288831 rg_86_0_1_1440 (by first | decide | omega) (by first | decide | omega) (by decide)
                                                  have f288898 := jF (e := (240 * u288344 + 20 * u288352 + u288886)) (v := ((h284879 84 (20 * u288344 + u288886)))) (240 * u288344 + 20 * u288352 + u288886) f288832 rg_86_0_1_1440 (by first | decide | omega) (by first | decide | omega) (by decide)
                                                  have f288899 := jF (e := (240 * u288344 + 20 * u288352 + u288886)) (v := ((h284879 84 (20 * u288344 + u288886)))) (240 * u288344 + 20 * u288352 + u288886) f288824 rg_86_0_1_1440 (by first | decide | omega) (by first | decide | omega) (by decide)
                                                  have m288900 := MB.oth (q := 86) (e := (240 * u288344 + 20 * u288352 + u288886)) (v := ((h284879 84 (20 * u288344 + u288886)))) m288827 (by decide)
                                                  generalize e288895 : x_up h288823 86 (240 * u288344 + 20 * u288352 + u288886) ((h284879 84 (20 * u288344 + u288886))) = h288893 at j288894 f288896 f288897 f288898 f288899 m288900 ⊢
                                                  refine x_iinc (np := 305) (i := 4) (j := 2147483649) (v := (1 + v288821)) (lo' := [x_r 75, iv_c v265838, iv_c v288319, iv_c (12 * u288344 + v265838), iv_c (1 + v288821)]) (by decide +kernel) (by decide) (by decide) rfl (by first | decide | omega) (by first | decide | omega) (by first | decide | omega) rfl ?_
                                                  refine x_goto (np := 308) (x := 267) (by decide +kernel) ?_
                                                  exact i288829 (1 + v288821) h288893 (by first | decide | omega) (by first | decide | omega) j288894 f288899 m288900
                                              exact p288826 _ 2147483648 h288354 (Nat.lt_succ_self _) (by first | decide | omega) j288355 (Fr.refl _ _) m288360
                                          exact p288326 _ 2147483648 w284112 w284113 h284879 (Nat.lt_succ_self _) (by first | decide | omega) j284881 (Fr.refl _ _) (MB.mono m284883 (Nat.le_refl _) (by rw [Nat.add_comm 1 v265838]; exact cn_day 20))
                                        have q284899 : ¬ ((h 76 2) ≤ v284877) := q284899
                                        refine x_aload (np := 214) (x := 0) (by decide +kernel) rfl (x_nc_le (by decide)) ?_
                                        refine x_iload (np := 215) (x := 2) (by decide +kernel) rfl (by first | decide | omega) ?_
                                        refine x_const (np := 216) (x := 9223372047592194050) (a := 2147483650) (by decide +kernel) (by decide) (by decide) ?_
                                        refine x_nI (t := 6) (mj := 161) (n := 3) (rc := 12) (ml := 3) (nr := 0) (np := 219) (as := [x_r 75, iv_c v284877, iv_c 2147483650]) (rest := []) (lo1 := [x_r 75, iv_c v284877, iv_c 2147483650]) (by decide +kernel) (by decide) (by decide +kernel) (x_rb_of (by decide +kernel)) rfl rfl (x_wr (by decide) (x_wi (by first | decide | omega) (x_wi (by decide) x_wn))) x_wn (by decide) rfl ?_
                                        refine x_aload (np := 1) (x := 0) (by decide +kernel) rfl (x_nc_le (by decide)) ?_
                                        have q288901 : h284879 75 1 = 76 := by have z := jB (e := 1) 0 j284881 rg_75_1_0_1 (by decide) (by decide); omega
                                        refine x_getR (np := 4) (x := 705) (f := 1) (q := 76) (by decide +kernel) (by decide) (by decide +kernel) q288901 ?_
                                        refine x_const (np := 6) (x := 9223372124901605396) (a := 2147483668) (by decide +kernel) (by decide) (by decide) ?_
                                        refine x_const (np := 8) (x := 9223372069067030535) (a := 2147483655) (by decide +kernel) (by decide) (by decide) ?_
                                        refine x_iload (np := 9) (x := 1) (by decide +kernel) rfl (by first | decide | omega) ?_
                                        obtain ⟨u288902, q288903⟩ : ∃ z, v284877 = 2147483648 + z := ⟨v284877 - 2147483648, by first | decide | omega⟩
                                        refine x_imul (np := 10) (x := 0) (i := 7) (j := u288902) (v := (2147483648 + 7 * u288902)) (by decide +kernel) (by first | decide | omega) (by first | decide | omega) (by first | decide | omega) (by first | decide | omega) (by decide) (by first | decide | omega) ?_
                                        refine x_iadd (np := 11) (x := 0) (v := (2147483668 + 7 * u288902)) (by decide +kernel) (by decide) (by first | decide | omega) (by first | decide | omega) (by first | decide | omega) ?_
                                        refine x_iload (np := 12) (x := 2) (by decide +kernel) rfl (by decide) ?_
                                        refine x_iadd (np := 13) (x := 0) (v := (2147483670 + 7 * u288902)) (by decide +kernel) (by first | decide | omega) (by decide) (by first | decide | omega) (by first | decide | omega) ?_
                                        have q288905 : h284879 76 (22 + 7 * u288902) = h284114 76 (22 + 7 * u288902) := jK u288902 f284880 rg_76_22_7_20 (by first | decide | omega) (by first | decide | omega) (by decide)
                                        have q288906 : h284114 76 (22 + 7 * u288902) = h266244 76 (22 + 7 * u288902) := jK u288902 f284115 rg_76_22_7_20 (by first | decide | omega) (by first | decide | omega) (by decide)
                                        have q288907 : h266244 76 (22 + 7 * u288902) = h266001 76 (22 + 7 * u288902) := jK u288902 f266245 rg_76_22_7_20 (by first | decide | omega) (by first | decide | omega) (by decide)
                                        have q288908 : h266001 76 (22 + 7 * u288902) = h265843 76 (22 + 7 * u288902) := jK u288902 f266002 rg_76_22_7_20 (by first | decide | omega) (by first | decide | omega) (by decide)
                                        have q288909 : h265843 76 (22 + 7 * u288902) = h564 76 (22 + 7 * u288902) := jK u288902 f265844 rg_76_22_7_20 (by first | decide | omega) (by first | decide | omega) (by decide)
                                        have q288910 : h564 76 (22 + 7 * u288902) = h102 76 (22 + 7 * u288902) := jK u288902 f565 rg_76_22_7_20 (by first | decide | omega) (by first | decide | omega) (by decide)
                                        have q288911 : h102 76 (22 + 7 * u288902) = h 76 (22 + 7 * u288902) := jK u288902 f103 rg_76_22_7_20 (by first | decide | omega) (by first | decide | omega) (by decide)
                                        refine x_aldC (np := 14) (x := 0) (n := 1952) (i := (22 + 7 * u288902)) (q := ((h 76 (22 + 7 * u288902)))) (by decide +kernel) (by decide +kernel) (by first | decide | omega) (by first | decide | omega) (by decide) ((((((q288905.trans q288906).trans q288907).trans q288908).trans q288909).trans q288910).trans q288911) (fun l288912 => ?_)
                                        refine x_retI (np := 15) (x := 0) (by decide +kernel) l288912 (Or.inl (by decide +kernel)) ⟨_, rfl, l288912, ?_⟩
                                        refine x_iload (np := 220) (x := 1) (by decide +kernel) rfl (by first | decide | omega) ?_
                                        refine x_icmp (k := 1) (tg := 229) (np := 223) (by decide +kernel) (by decide) l288912 (by first | decide | omega) (fun q288913 => ?_) (fun q288914 => ?_)
                                        · have q288913 : ((h 76 (22 + 7 * u288902))) ≠ v265838 := q288913
                                          refine x_iinc (np := 232) (i := 2) (j := 2147483649) (v := (1 + v284877)) (lo' := [x_r 75, iv_c v265838, iv_c (1 + v284877), w284112, w284113]) (by decide +kernel) (by decide) (by decide) rfl (by first | decide | omega) (by first | decide | omega) (by first | decide | omega) rfl ?_
                                          refine x_goto (np := 235) (x := 203) (by decide +kernel) ?_
                                          have m288915 : MB 6 (cn (fun l => h 76 (22 + 7 * l)) v265838 ((1 + v284877) - 2147483648) 20) h284879 := by
                                            have e0 : v284877 - 2147483648 = u288902 := by first | decide | omega
                                            have e9 : (1 + v284877) = 2147483648 + (u288902 + 1) := by first | decide | omega
                                            have e1 : (1 + v284877) - 2147483648 = u288902 + 1 := by rw [e9]; exact Nat.add_sub_cancel_left _ _
                                            have p9 := m284883
                                            rw [e0] at p9
                                            rw [e1, cn_skip (f := (fun l => h 76 (22 + 7 * l))) (d := v265838) (l := u288902) (show h 76 (22 + 7 * u288902) ≠ v265838 by first | decide | omega) 20]
                                            exact p9
                                          exact i284885 (1 + v284877) h284879 (by first | decide | omega) (by first | decide | omega) j284881 f284880 m288915
                                        have q288914 : ¬ (((h 76 (22 + 7 * u288902))) ≠ v265838) := q288914
                                        refine x_aload (np := 224) (x := 0) (by decide +kernel) rfl (x_nc_le (by decide)) ?_
                                        refine x_iload (np := 225) (x := 2) (by decide +kernel) rfl (by first | decide | omega) ?_
                                        refine x_iload (np := 226) (x := 1) (by decide +kernel) rfl (by first | decide | omega) ?_
                                        have m288925 := WT.fr hW hJ f103 (by decide)
                                        have m288924 := WT.fr m288925 j104 f565 (by decide)
                                        have m288923 := WT.fr m288924 j566 f265844 (by decide)
                                        have m288922 := WT.fr m288923 j265845 f266002 (by decide)
                                        have m288921 := WT.fr m288922 j266003 f266245 (by decide)
                                        have m288920 := WT.fr m288921 j266246 f284115 (by decide)
                                        have m288919 := WT.fr m288920 j284116 f284880 (by decide)
                                        have q288926 : cn (fun l => h 76 (22 + 7 * l)) v265838 (v284877 - 2147483648) 20 ≤ 19 := by
                                          have e0 : v284877 - 2147483648 = u288902 := by first | decide | omega
                                          have z := cn_lt (f := (fun l => h 76 (22 + 7 * l))) (d := v265838) (l := u288902) (show h 76 (22 + 7 * u288902) = v265838 by first | decide | omega) 20 (by first | decide | omega)
                                          rw [e0]
                                          omega
                                        refine x_cV (t := 6) (mj := 209) (n := 3) (rc := 12) (ml := 7) (nr := 0) (np := 229) (as := [x_r 75, iv_c v284877, iv_c v265838]) (rest := []) (lo1 := [x_r 75, iv_c v284877, iv_c v265838, 147573952589676412928, 147573952589676412928, 147573952589676412928, 147573952589676412928]) (by decide +kernel) (by decide) (by decide +kernel) (x_rb_of (by decide +kernel)) rfl rfl (x_wr (by decide) (x_wi (by first | decide | omega) (x_wi (by first | decide | omega) x_wn))) x_wn (by decide) rfl (c209_75 (n0 := cn (fun l => h 76 (22 + 7 * l)) v265838 (v284877 - 2147483648) 20) j284881  (by first | decide | omega) (by first | decide | omega) q288926 m284883 m288919) (fun h288927 q288918 => ?_)
                                        obtain ⟨j288928, f288929, m288931⟩ := q288918
                                        have f288932 := Fr.trans f284886 f288929 (by decide)
                                        have f288933 := Fr.trans f284887 f288929 (by decide)
                                        have f288934 := Fr.trans f284880 f288929 (by decide)
                                        refine x_iinc (np := 232) (i := 2) (j := 2147483649) (v := (1 + v284877)) (lo' := [x_r 75, iv_c v265838, iv_c (1 + v284877), w284112, w284113]) (by decide +kernel) (by decide) (by decide) rfl (by first | decide | omega) (by first | decide | omega) (by first | decide | omega) rfl ?_
                                        refine x_goto (np := 235) (x := 203) (by decide +kernel) ?_
                                        have m288935 : MB 6 (cn (fun l => h 76 (22 + 7 * l)) v265838 ((1 + v284877) - 2147483648) 20) h288927 := by
                                          have e0 : v284877 - 2147483648 = u288902 := by first | decide | omega
                                          have e9 : (1 + v284877) = 2147483648 + (u288902 + 1) := by first | decide | omega
                                          have e1 : (1 + v284877) - 2147483648 = u288902 + 1 := by rw [e9]; exact Nat.add_sub_cancel_left _ _
                                          have p9 := m288931
                                          rw [e0] at p9
                                          rw [e1, cn_step (f := (fun l => h 76 (22 + 7 * l))) (d := v265838) (l := u288902) (show h 76 (22 + 7 * u288902) = v265838 by first | decide | omega) 20 (by first | decide | omega)]
                                          exact p9
                                        exact i284885 (1 + v284877) h288927 (by first | decide | omega) (by first | decide | omega) j288928 f288934 m288935
                                    exact p284882 _ 2147483648 h284114 (Nat.lt_succ_self _) (by first | decide | omega) j284116 (Fr.refl _ _) m284118
                                  have q284132 : ¬ ((h 76 0) ≤ v284110) := q284132
                                  refine x_const (np := 134) (x := 9223372039002259456) (a := 2147483648) (by decide +kernel) (by decide) (by decide) ?_
                                  refine x_istore (np := 135) (x := 3) (lo' := [x_r 75, iv_c v265838, iv_c v284110, iv_c 2147483648, w284113]) (by decide +kernel) (by decide) (Nat.le_of_ble_eq_true rfl) rfl ?_
                                  have p289866 : ∀ (n : Nat) (v289860 : Nat) (w289862 : Nat) (h289863 : xh), 4294967296 - v289860 < n → (2147483648 ≤ v289860 ∧ v289860 ≤ 2147483668) → J h289863 → Fr 34359738368 h284114 h289863 → MB 6 (cn (fun l => h 76 (22 + 7 * l)) v265838 0 20) h289863 → X sc 210 (d + 4) (xV fun h' => J h' ∧ Fr 135291469825 h h') 0 0 135 [x_r 75, iv_c v265838, iv_c v284110, iv_c v289860, w289862] [] h289863 := by
                                    intro n
                                    induction n with
                                    | zero => intro v289860 w289862 h289863 q289868; exact absurd q289868 (Nat.not_lt_zero _)
                                    | succ n i289869 =>
                                      intro v289860 w289862 h289863 q289868 b289861 j289865 f289864 m289867
                                      have f289870 := Fr.trans f284121 f289864 (by decide)
                                      have f289871 := Fr.trans f284122 f289864 (by decide)
                                      have f289872 := Fr.trans f284115 f289864 (by decide)
                                      refine x_iload (np := 136) (x := 3) (by decide +kernel) rfl (by first | decide | omega) ?_
                                      refine x_aload (np := 137) (x := 0) (by decide +kernel) rfl (x_nc_le (by decide)) ?_
                                      have q289873 : h289863 75 16 = 83 := by have z := jB (e := 16) 0 j289865 rg_75_16_0_1 (by decide) (by decide); omega
                                      refine x_getR (np := 140) (x := 720) (f := 16) (q := 83) (by decide +kernel) (by decide) (by decide +kernel) q289873 ?_
                                      refine x_iload (np := 141) (x := 2) (by decide +kernel) rfl (by first | decide | omega) ?_
                                      obtain ⟨u289874, q289875⟩ : ∃ z, v284110 = 2147483648 + z := ⟨v284110 - 2147483648, by first | decide | omega⟩
                                      have q289876 : h289863 83 u289874 = h284114 83 u289874 := jK u289874 f289864 rg_83_0_1_6 (by first | decide | omega) (by first | decide | omega) (by decide)
                                      have q289877 : h284114 83 u289874 = h266244 83 u289874 := jK u289874 f284115 rg_83_0_1_6 (by first | decide | omega) (by first | decide | omega) (by decide)
                                      have b289878 := jB (e := u289874) u289874 j266246 rg_83_0_1_6 (by first | decide | omega) (by first | decide | omega)
                                      refine x_aldC (np := 142) (x := 0) (n := 6) (i := u289874) (q := (h266244 83 u289874)) (by decide +kernel) (by decide +kernel) (by first | decide | omega) (by first | decide | omega) (by decide) (q289876.trans q289877) (fun l289879 => ?_)
                                      refine x_icmp (k := 3) (tg := 195) (np := 145) (by decide +kernel) (by decide) (by first | decide | omega) l289879 (fun q289880 => ?_) (fun q289881 => ?_)
                                      · have q289880 : (h266244 83 u289874) ≤ v289860 := q289880
                                        refine x_iinc (np := 198) (i := 2) (j := 2147483649) (v := (1 + v284110)) (lo' := [x_r 75, iv_c v265838, iv_c (1 + v284110), iv_c v289860, w289862]) (by decide +kernel) (by decide) (by decide) rfl (by first | decide | omega) (by first | decide | omega) (by first | decide | omega) rfl ?_
                                        refine x_goto (np := 201) (x := 125) (by decide +kernel) ?_
                                        exact i284120 (1 + v284110) (iv_c v289860) w289862 h289863 (by first | decide | omega) (by first | decide | omega) j289865 f289872 m289867
                                      have q289881 : ¬ ((h266244 83 u289874) ≤ v289860) := q289881
                                      refine x_aload (np := 146) (x := 0) (by decide +kernel) rfl (x_nc_le (by decide)) ?_
                                      have q289882 : h289863 75 17 = 84 := by have z := jB (e := 17) 0 j289865 rg_75_17_0_1 (by decide) (by decide); omega
                                      refine x_getR (np := 149) (x := 721) (f := 17) (q := 84) (by decide +kernel) (by decide) (by decide +kernel) q289882 ?_
                                      refine x_const (np := 151) (x := 9223372124901605396) (a := 2147483668) (by decide +kernel) (by decide) (by decide) ?_
                                      refine x_iload (np := 152) (x := 2) (by decide +kernel) rfl (by first | decide | omega) ?_
                                      refine x_imul (np := 153) (x := 0) (i := 20) (j := u289874) (v := (2147483648 + 20 * u289874)) (by decide +kernel) (by first | decide | omega) (by first | decide | omega) (by first | decide | omega) (by first | decide | omega) (by decide) (by first | decide | omega) ?_
                                      refine x_iload (np := 154) (x := 3) (by decide +kernel) rfl (by first | decide | omega) ?_
                                      refine x_iadd (np := 155) (x := 0) (v := (20 * u289874 + v289860)) (by decide +kernel) (by first | decide | omega) (by first | decide | omega) (by first | decide | omega) (by first | decide | omega) ?_
                                      obtain ⟨u289884, q289885⟩ : ∃ z, v289860 = 2147483648 + z := ⟨v289860 - 2147483648, by first | decide | omega⟩
                                      have q289886 : h289863 84 (20 * u289874 + u289884) = h284114 84 (20 * u289874 + u289884) := jK (20 * u289874 + u289884) f289864 rg_84_0_1_120 (by first | decide | omega) (by first | decide | omega) (by decide)
                                      have q289887 : h284114 84 (20 * u289874 + u289884) = h266244 84 (20 * u289874 + u289884) := jK (20 * u289874 + u289884) f284115 rg_84_0_1_120 (by first | decide | omega) (by first | decide | omega) (by decide)
                                      have q289888 : h266244 84 (20 * u289874 + u289884) = h266001 84 (20 * u289874 + u289884) := jK (20 * u289874 + u289884) f266245 rg_84_0_1_120 (by first | decide | omega) (by first | decide | omega) (by decide)
                                      have q289889 : h266001 84 (20 * u289874 + u289884) = h265843 84 (20 * u289874 + u289884) := jK (20 * u289874 + u289884) f266002 rg_84_0_1_120 (by first | decide | omega) (by first | decide | omega) (by decide)
                                      have b289890 := jB (e := (20 * u289874 + u289884)) (20 * u289874 + u289884) j265845 rg_84_0_1_120 (by first | decide | omega) (by first | decide | omega)
                                      refine x_aldC (np := 156) (x := 0) (n := 120) (i := (20 * u289874 + u289884)) (q := ((h265843 84 (20 * u289874 + u289884)))) (by decide +kernel) (by decide +kernel) (by first | decide | omega) (by first | decide | omega) (by decide) (((q289886.trans q289887).trans q289888).trans q289889) (fun l289891 => ?_)
                                      refine x_istore (np := 158) (x := 4) (lo' := [x_r 75, iv_c v265838, iv_c v284110, iv_c v289860, iv_c ((h265843 84 (20 * u289874 + u289884)))]) (by decide +kernel) l289891 (Nat.le_of_ble_eq_true rfl) rfl ?_
                                      refine x_aload (np := 159) (x := 0) (by decide +kernel) rfl (x_nc_le (by decide)) ?_
                                      have q289892 : h289863 75 23 = 90 := by have z := jB (e := 23) 0 j289865 rg_75_23_0_1 (by decide) (by decide); omega
                                      refine x_getR (np := 162) (x := 727) (f := 23) (q := 90) (by decide +kernel) (by decide) (by decide +kernel) q289892 ?_
                                      refine x_iload (np := 164) (x := 4) (by decide +kernel) rfl l289891 ?_
                                      refine x_dup2 (np := 165) (x := 0) (by decide +kernel) (by have z := (iw_c_lt (a := ((h265843 84 (20 * u289874 + u289884)))) l289891).1; omega) (by have z := x_nc_le (k := 90) (by decide); unfold x_r; omega) ?_
                                      obtain ⟨u289893, q289894⟩ : ∃ z, ((h265843 84 (20 * u289874 + u289884))) = 2147483648 + z := ⟨((h265843 84 (20 * u289874 + u289884))) - 2147483648, by first | decide | omega⟩
                                      refine x_aldC (np := 166) (x := 0) (n := 20) (i := u289893) (q := (h289863 90 u289893)) (by decide +kernel) (by decide +kernel) (by first | decide | omega) (by first | decide | omega) (by decide) rfl (fun l289895 => ?_)
                                      refine x_aload (np := 167) (x := 0) (by decide +kernel) rfl (x_nc_le (by decide)) ?_
                                      refine x_iload (np := 169) (x := 4) (by decide +kernel) rfl l289891 ?_
                                      refine x_iload (np := 170) (x := 1) (by decide +kernel) rfl (by first | decide | omega) ?_
                                      refine x_cP (t := 6) (mj := 202) (n := 3) (rc := 12) (ml := 3) (nr := 3) (np := 173) (as := [x_r 75, iv_c ((h265843 84 (20 * u289874 + u289884))), iv_c v265838]) (rest := [iv_c (h289863 90 u289893), iv_c ((h265843 84 (20 * u289874 + u289884))), x_r 90]) (lo1 := [x_r 75, iv_c ((h265843 84 (20 * u289874 + u289884))), iv_c v265838]) (by decide +kernel) (by decide) (by decide +kernel) (x_rb_of (by decide +kernel)) rfl rfl (x_wr (by decide) (x_wi l289891 (x_wi (by first | decide | omega) x_wn))) (x_wi l289895 (x_wi l289891 (x_wr (by decide) x_wn))) (by decide) rfl (c202_75 j289865  (by first | decide | omega) (by first | decide | omega)) (fun v289896 l289897 q289898 => ?_)
                                      refine x_ifz (k := 0) (tg := 186) (np := 176) (by decide +kernel) (by decide) l289897 (fun q289899 => ?_) (fun q289900 => ?_)
                                      · have q289899 : v289896 = 2147483648 := q289899
                                        refine x_const (np := 187) (x := 9223372039002259456) (a := 2147483648) (by decide +kernel) (by decide) (by decide) ?_
                                        refine x_iadd (np := 188) (x := 0) (v := (h289863 90 u289893)) (by decide +kernel) l289895 (by decide) (by first | decide | omega) (by first | decide | omega) ?_
                                        refine x_ast (np := 189) (x := 0) (kd := 1) (n := 20) (i := u289893) (by decide +kernel) (Or.inl rfl) (by decide +kernel) (by first | decide | omega) (by first | decide | omega) (by decide) l289895 (fun z => absurd z (by decide)) ?_
                                        have j289902 := jU (e := u289893) (v := (h289863 90 u289893)) u289893 j289865 rg_90_0_1_20 (by first | decide | omega) (by first | decide | omega) (by first | decide | omega)
                                        have f289904 := jF (e := u289893) (v := (h289863 90 u289893)) u289893 f289870 rg_90_0_1_20 (by first | decide | omega) (by first | decide | omega) (by decide)
                                        have f289905 := jF (e := u289893) (v := (h289863 90 u289893)) u289893 f289871 rg_90_0_1_20 (by first | decide | omega) (by first | decide | omega) (by decide)
                                        have f289906 := jF (e := u289893) (v := (h289863 90 u289893)) u289893 f289872 rg_90_0_1_20 (by first | decide | omega) (by first | decide | omega) (by decide)
                                        have f289907 := jF (e := u289893) (v := (h289863 90 u289893)) u289893 f289864 rg_90_0_1_20 (by first | decide | omega) (by first | decide | omega) (by decide)
                                        have m289908 := MB.oth (q := 90) (e := u289893) (v := (h289863 90 u289893)) m289867 (by decide)
                                        generalize e289903 : x_up h289863 90 u289893 (h289863 90 u289893) = h289901 at j289902 f289904 f289905 f289906 f289907 m289908 ⊢
                                        refine x_iinc (np := 192) (i := 3) (j := 2147483649) (v := (1 + v289860)) (lo' := [x_r 75, iv_c v265838, iv_c v284110, iv_c (1 + v289860), iv_c ((h265843 84 (20 * u289874 + u289884)))]) (by decide +kernel) (by decide) (by decide) rfl (by first | decide | omega) (by first | decide | omega) (by first | decide | omega) rfl ?_
                                        refine x_goto (np := 195) (x := 135) (by decide +kernel) ?_
                                        exact i289869 (1 + v289860) (iv_c ((h265843 84 (20 * u289874 + u289884)))) h289901 (by first | decide | omega) (by first | decide | omega) j289902 f289907 m289908
                                      have q289900 : ¬ (v289896 = 2147483648) := q289900
                                      refine x_aload (np := 177) (x := 0) (by decide +kernel) rfl (x_nc_le (by decide)) ?_
                                      refine x_iload (np := 179) (x := 4) (by decide +kernel) rfl l289891 ?_
                                      refine x_const (np := 180) (x := 9223372060477095941) (a := 2147483653) (by decide +kernel) (by decide) (by decide) ?_
                                      refine x_nI (t := 6) (mj := 161) (n := 3) (rc := 12) (ml := 3) (nr := 3) (np := 183) (as := [x_r 75, iv_c ((h265843 84 (20 * u289874 + u289884))), iv_c 2147483653]) (rest := [iv_c (h289863 90 u289893), iv_c ((h265843 84 (20 * u289874 + u289884))), x_r 90]) (lo1 := [x_r 75, iv_c ((h265843 84 (20 * u289874 + u289884))), iv_c 2147483653]) (by decide +kernel) (by decide) (by decide +kernel) (x_rb_of (by decide +kernel)) rfl rfl (x_wr (by decide) (x_wi l289891 (x_wi (by decide) x_wn))) (x_wi l289895 (x_wi l289891 (x_wr (by decide) x_wn))) (by decide) rfl ?_
                                      refine x_aload (np := 1) (x := 0) (by decide +kernel) rfl (x_nc_le (by decide)) ?_
                                      have q289909 : h289863 75 1 = 76 := by have z := jB (e := 1) 0 j289865 rg_75_1_0_1 (by decide) (by decide); omega
                                      refine x_getR (np := 4) (x := 705) (f := 1) (q := 76) (by decide +kernel) (by decide) (by decide +kernel) q289909 ?_
                                      refine x_const (np := 6) (x := 9223372124901605396) (a := 2147483668) (by decide +kernel) (by decide) (by decide) ?_
                                      refine x_const (np := 8) (x := 9223372069067030535) (a := 2147483655) (by decide +kernel) (by decide) (by decide) ?_
                                      refine x_iload (np := 9) (x := 1) (by decide +kernel) rfl l289891 ?_
                                      refine x_imul (np := 10) (x := 0) (i := 7) (j := u289893) (v := (2147483648 + 7 * u289893)) (by decide +kernel) (by first | decide | omega) (by first | decide | omega) (by first | decide | omega) (by first | decide | omega) (by decide) l289891 ?_
                                      refine x_iadd (np := 11) (x := 0) (v := (2147483668 + 7 * u289893)) (by decide +kernel) (by decide) (by first | decide | omega) (by first | decide | omega) (by first | decide | omega) ?_
                                      refine x_iload (np := 12) (x := 2) (by decide +kernel) rfl (by decide) ?_
                                      refine x_iadd (np := 13) (x := 0) (v := (2147483673 + 7 * u289893)) (by decide +kernel) (by first | decide | omega) (by decide) (by first | decide | omega) (by first | decide | omega) ?_
                                      have q289911 : h289863 76 (25 + 7 * u289893) = h284114 76 (25 + 7 * u289893) := jK u289893 f289864 rg_76_25_7_20 (by first | decide | omega) (by first | decide | omega) (by decide)
                                      have q289912 : h284114 76 (25 + 7 * u289893) = h266244 76 (25 + 7 * u289893) := jK u289893 f284115 rg_76_25_7_20 (by first | decide | omega) (by first | decide | omega) (by decide)
                                      have q289913 : h266244 76 (25 + 7 * u289893) = h266001 76 (25 + 7 * u289893) := jK u289893 f266245 rg_76_25_7_20 (by first | decide | omega) (by first | decide | omega) (by decide)
                                      have q289914 : h266001 76 (25 + 7 * u289893) = h265843 76 (25 + 7 * u289893) := jK u289893 f266002 rg_76_25_7_20 (by first | decide | omega) (by first | decide | omega) (by decide)
                                      have q289915 : h265843 76 (25 + 7 * u289893) = h564 76 (25 + 7 * u289893) := jK u289893 f265844 rg_76_25_7_20 (by first | decide | omega) (by first | decide | omega) (by decide)
                                      have q289916 : h564 76 (25 + 7 * u289893) = h102 76 (25 + 7 * u289893) := jK u289893 f565 rg_76_25_7_20 (by first | decide | omega) (by first | decide | omega) (by decide)
                                      have q289917 : h102 76 (25 + 7 * u289893) = h 76 (25 + 7 * u289893) := jK u289893 f103 rg_76_25_7_20 (by first | decide | omega) (by first | decide | omega) (by decide)
                                      refine x_aldC (np := 14) (x := 0) (n := 1952) (i := (25 + 7 * u289893)) (q := ((h 76 (25 + 7 * u289893)))) (by decide +kernel) (by decide +kernel) (by first | decide | omega) (by first | decide | omega) (by decide) ((((((q289911.trans q289912).trans q289913).trans q289914).trans q289915).trans q289916).trans q289917) (fun l289918 => ?_)
                                      refine x_retI (np := 15) (x := 0) (by decide +kernel) l289918 (Or.inl (by decide +kernel)) ⟨_, rfl, l289918, ?_⟩
                                      refine x_goto (np := 186) (x := 187) (by decide +kernel) ?_
                                      refine x_addA (by rw [tb_b210]; decide +kernel) l289895 l289918 (fun v289919 l289920 => ?_)
                                      refine x_ast (np := 189) (x := 0) (kd := 1) (n := 20) (i := u289893) (by decide +kernel) (Or.inl rfl) (by decide +kernel) (by first | decide | omega) (by first | decide | omega) (by decide) l289920 (fun z => absurd z (by decide)) ?_
                                      have j289922 := jU (e := u289893) (v := v289919) u289893 j289865 rg_90_0_1_20 (by first | decide | omega) (by first | decide | omega) (by first | decide | omega)
                                      have f289924 := jF (e := u289893) (v := v289919) u289893 f289870 rg_90_0_1_20 (by first | decide | omega) (by first | decide | omega) (by decide)
                                      have f289925 := jF (e := u289893) (v := v289919) u289893 f289871 rg_90_0_1_20 (by first | decide | omega) (by first | decide | omega) (by decide)
                                      have f289926 := jF (e := u289893) (v := v289919) u289893 f289872 rg_90_0_1_20 (by first | decide | omega) (by first | decide | omega) (by decide)
                                      have f289927 := jF (e := u289893) (v := v289919) u289893 f289864 rg_90_0_1_20 (by first | decide | omega) (by first | decide | omega) (by decide)
                                      have m289928 := MB.oth (q := 90) (e := u289893) (v := v289919) m289867 (by decide)
                                      generalize e289923 : x_up h289863 90 u289893 v289919 = h289921 at j289922 f289924 f289925 f289926 f289927 m289928 ⊢
                                      refine x_iinc (np := 192) (i := 3) (j := 2147483649) (v := (1 + v289860)) (lo' := [x_r 75, iv_c v265838, iv_c v284110, iv_c (1 + v289860), iv_c ((h265843 84 (20 * u289874 + u289884)))]) (by decide +kernel) (by decide) (by decide) rfl (by first | decide | omega) (by first | decide | omega) (by first | decide | omega) rfl ?_
                                      refine x_goto (np := 195) (x := 135) (by decide +kernel) ?_
                                      exact i289869 (1 + v289860) (iv_c ((h265843 84 (20 * u289874 + u289884)))) h289921 (by first | decide | omega) (by first | decide | omega) j289922 f289927 m289928
                                  exact p289866 _ 2147483648 w284113 h284114 (Nat.lt_succ_self _) (by first | decide | omega) j284116 (Fr.refl _ _) m284118
                              exact p284117 _ 2147483648 w265841 w265842 h266244 (Nat.lt_succ_self _) (by first | decide | omega) j266246 (Fr.refl _ _) m266248
                            have q278101 : ¬ ((2147483648 + u278098) ≠ 2147483649) := q278101
                            refine x_aload (np := 112) (x := 0) (by decide +kernel) rfl (x_nc_le (by decide)) ?_
                            refine x_iload (np := 113) (x := 2) (by decide +kernel) rfl (by first | decide | omega) ?_
                            refine x_iload (np := 114) (x := 1) (by decide +kernel) rfl (by first | decide | omega) ?_
                            refine x_cV (t := 6) (mj := 207) (n := 3) (rc := 12) (ml := 3) (nr := 0) (np := 117) (as := [x_r 75, iv_c v266242, iv_c v265838]) (rest := []) (lo1 := [x_r 75, iv_c v266242, iv_c v265838]) (by decide +kernel) (by decide) (by decide +kernel) (x_rb_of (by decide +kernel)) rfl rfl (x_wr (by decide) (x_wi (by first | decide | omega) (x_wi (by first | decide | omega) x_wn))) x_wn (by decide) rfl (c207_75 (n0 := cn (fun l => h 76 (22 + 7 * l)) v265838 0 20) j266246  (by first | decide | omega) (by first | decide | omega)  m266248) (fun h289932 q289931 => ?_)
                            obtain ⟨j289933, f289934, m289936⟩ := q289931
                            have f289937 := Fr.trans f266251 f289934 (by decide)
                            have f289938 := Fr.trans f266252 f289934 (by decide)
                            have f289939 := Fr.trans f266245 f289934 (by decide)
                            refine x_iinc (np := 120) (i := 2) (j := 2147483649) (v := (1 + v266242)) (lo' := [x_r 75, iv_c v265838, iv_c (1 + v266242), w265841, w265842]) (by decide +kernel) (by decide) (by decide) rfl (by first | decide | omega) (by first | decide | omega) (by first | decide | omega) rfl ?_
                            refine x_goto (np := 123) (x := 88) (by decide +kernel) ?_
                            exact i266250 (1 + v266242) h289932 (by first | decide | omega) (by first | decide | omega) j289933 f289939 m289936
                        exact p266247 _ 2147483648 h266001 (Nat.lt_succ_self _) (by first | decide | omega) j266003 (Fr.refl _ _) m266005
                      have q266018 : ¬ ((h 76 0) ≤ v265999) := q266018
                      refine x_aload (np := 75) (x := 0) (by decide +kernel) rfl (x_nc_le (by decide)) ?_
                      refine x_iload (np := 76) (x := 2) (by decide +kernel) rfl (by first | decide | omega) ?_
                      refine x_iload (np := 77) (x := 1) (by decide +kernel) rfl (by first | decide | omega) ?_
                      refine x_cV (t := 6) (mj := 206) (n := 3) (rc := 12) (ml := 4) (nr := 0) (np := 80) (as := [x_r 75, iv_c v265999, iv_c v265838]) (rest := []) (lo1 := [x_r 75, iv_c v265999, iv_c v265838, 147573952589676412928]) (by decide +kernel) (by decide) (by decide +kernel) (x_rb_of (by decide +kernel)) rfl rfl (x_wr (by decide) (x_wi (by first | decide | omega) (x_wi (by first | decide | omega) x_wn))) x_wn (by decide) rfl (c206_75 (n0 := cn (fun l => h 76 (22 + 7 * l)) v265838 0 20) j266003  (by first | decide | omega) (by first | decide | omega)  m266005) (fun h289943 q289942 => ?_)
                      obtain ⟨j289944, f289945, m289947⟩ := q289942
                      have f289948 := Fr.trans f266008 f289945 (by decide)
                      have f289949 := Fr.trans f266009 f289945 (by decide)
                      have f289950 := Fr.trans f266002 f289945 (by decide)
                      refine x_iinc (np := 83) (i := 2) (j := 2147483649) (v := (1 + v265999)) (lo' := [x_r 75, iv_c v265838, iv_c (1 + v265999), w265841, w265842]) (by decide +kernel) (by decide) (by decide) rfl (by first | decide | omega) (by first | decide | omega) (by first | decide | omega) rfl ?_
                      refine x_goto (np := 86) (x := 66) (by decide +kernel) ?_
                      exact i266007 (1 + v265999) h289943 (by first | decide | omega) (by first | decide | omega) j289944 f289950 m289947
                  exact p266004 _ 2147483648 h265843 (Nat.lt_succ_self _) (by first | decide | omega) j265845 (Fr.refl _ _) m265847
              exact p265846 _ 2147483648 147573952589676412928 147573952589676412928 147573952589676412928 h564 (Nat.lt_succ_self _) (by first | decide | omega) j566 (Fr.refl _ _) (MB.mono m568 (Nat.le_refl _) (Nat.zero_le _))
            have q573 : ¬ (2147483668 ≤ v562) := q573
            refine x_aload (np := 30) (x := 0) (by decide +kernel) rfl (x_nc_le (by decide)) ?_
            have q289951 : h564 75 21 = 88 := by have z := jB (e := 21) 0 j566 rg_75_21_0_1 (by decide) (by decide); omega
            refine x_getR (np := 33) (x := 725) (f := 21) (q := 88) (by decide +kernel) (by decide) (by decide +kernel) q289951 ?_
            refine x_iload (np := 34) (x := 1) (by decide +kernel) rfl (by first | decide | omega) ?_
            refine x_const (np := 35) (x := 9223372034707292159) (a := 2147483647) (by decide +kernel) (by decide) (by decide) ?_
            obtain ⟨u289952, q289953⟩ : ∃ z, v562 = 2147483648 + z := ⟨v562 - 2147483648, by first | decide | omega⟩
            refine x_ast (np := 36) (x := 0) (kd := 1) (n := 20) (i := u289952) (by decide +kernel) (Or.inl rfl) (by decide +kernel) (by first | decide | omega) (by first | decide | omega) (by decide) (by decide) (fun z => absurd z (by decide)) ?_
            have j289955 := jU (e := u289952) (v := 2147483647) u289952 j566 rg_88_0_1_20 (by first | decide | omega) (by first | decide | omega) (by first | decide | omega)
            have f289957 := jF (e := u289952) (v := 2147483647) u289952 f571 rg_88_0_1_20 (by first | decide | omega) (by first | decide | omega) (by decide)
            have f289958 := jF (e := u289952) (v := 2147483647) u289952 f565 rg_88_0_1_20 (by first | decide | omega) (by first | decide | omega) (by decide)
            have m289959 := MB.oth (q := 88) (e := u289952) (v := 2147483647) m568 (by decide)
            generalize e289956 : x_up h564 88 u289952 2147483647 = h289954 at j289955 f289957 f289958 m289959 ⊢
            refine x_aload (np := 37) (x := 0) (by decide +kernel) rfl (x_nc_le (by decide)) ?_
            have q289960 : h289954 75 22 = 89 := by have z := jB (e := 22) 0 j289955 rg_75_22_0_1 (by decide) (by decide); omega
            refine x_getR (np := 40) (x := 726) (f := 22) (q := 89) (by decide +kernel) (by decide) (by decide +kernel) q289960 ?_
            refine x_iload (np := 41) (x := 1) (by decide +kernel) rfl (by first | decide | omega) ?_
            refine x_const (np := 42) (x := 9223372034707292159) (a := 2147483647) (by decide +kernel) (by decide) (by decide) ?_
            refine x_ast (np := 43) (x := 0) (kd := 1) (n := 20) (i := u289952) (by decide +kernel) (Or.inl rfl) (by decide +kernel) (by first | decide | omega) (by first | decide | omega) (by decide) (by decide) (fun z => absurd z (by decide)) ?_
            have j289962 := jU (e := u289952) (v := 2147483647) u289952 j289955 rg_89_0_1_20 (by first | decide | omega) (by first | decide | omega) (by first | decide | omega)
            have f289964 := jF (e := u289952) (v := 2147483647) u289952 f289957 rg_89_0_1_20 (by first | decide | omega) (by first | decide | omega) (by decide)
            have f289965 := jF (e := u289952) (v := 2147483647) u289952 f289958 rg_89_0_1_20 (by first | decide | omega) (by first | decide | omega) (by decide)
            have m289966 := MB.oth (q := 89) (e := u289952) (v := 2147483647) m289959 (by decide)
            generalize e289963 : x_up h289954 89 u289952 2147483647 = h289961 at j289962 f289964 f289965 m289966 ⊢
            refine x_aload (np := 44) (x := 0) (by decide +kernel) rfl (x_nc_le (by decide)) ?_
            have q289967 : h289961 75 23 = 90 := by have z := jB (e := 23) 0 j289962 rg_75_23_0_1 (by decide) (by decide); omega
            refine x_getR (np := 47) (x := 727) (f := 23) (q := 90) (by decide +kernel) (by decide) (by decide +kernel) q289967 ?_
            refine x_iload (np := 48) (x := 1) (by decide +kernel) rfl (by first | decide | omega) ?_
            refine x_const (np := 49) (x := 9223372039002259456) (a := 2147483648) (by decide +kernel) (by decide) (by decide) ?_
            refine x_ast (np := 50) (x := 0) (kd := 1) (n := 20) (i := u289952) (by decide +kernel) (Or.inl rfl) (by decide +kernel) (by first | decide | omega) (by first | decide | omega) (by decide) (by decide) (fun z => absurd z (by decide)) ?_
            have j289969 := jU (e := u289952) (v := 2147483648) u289952 j289962 rg_90_0_1_20 (by first | decide | omega) (by first | decide | omega) (by first | decide | omega)
            have f289971 := jF (e := u289952) (v := 2147483648) u289952 f289964 rg_90_0_1_20 (by first | decide | omega) (by first | decide | omega) (by decide)
            have f289972 := jF (e := u289952) (v := 2147483648) u289952 f289965 rg_90_0_1_20 (by first | decide | omega) (by first | decide | omega) (by decide)
            have m289973 := MB.oth (q := 90) (e := u289952) (v := 2147483648) m289966 (by decide)
            generalize e289970 : x_up h289961 90 u289952 2147483648 = h289968 at j289969 f289971 f289972 m289973 ⊢
            refine x_iinc (np := 53) (i := 1) (j := 2147483649) (v := (1 + v562)) (lo' := [x_r 75, iv_c (1 + v562), 147573952589676412928, 147573952589676412928, 147573952589676412928]) (by decide +kernel) (by decide) (by decide) rfl (by first | decide | omega) (by first | decide | omega) (by first | decide | omega) rfl ?_
            refine x_goto (np := 56) (x := 23) (by decide +kernel) ?_
            exact i570 (1 + v562) h289968 (by first | decide | omega) (by first | decide | omega) j289969 f289972 m289973
        exact p567 _ 2147483648 h102 (Nat.lt_succ_self _) (by first | decide | omega) j104 (Fr.refl _ _) (MB.mono m112 (by first | decide | omega) (Nat.le_refl _))
      have q114 : ¬ (2147483654 ≤ v100) := q114
      refine x_aload (np := 9) (x := 0) (by decide +kernel) rfl (x_nc_le (by decide)) ?_
      have q289974 : h102 75 16 = 83 := by have z := jB (e := 16) 0 j104 rg_75_16_0_1 (by decide) (by decide); omega
      refine x_getR (np := 12) (x := 720) (f := 16) (q := 83) (by decide +kernel) (by decide) (by decide +kernel) q289974 ?_
      refine x_iload (np := 13) (x := 1) (by decide +kernel) rfl (by first | decide | omega) ?_
      refine x_const (np := 14) (x := 9223372039002259456) (a := 2147483648) (by decide +kernel) (by decide) (by decide) ?_
      refine x_ast (np := 15) (x := 0) (kd := 1) (n := 6) (i := u110) (by decide +kernel) (Or.inl rfl) (by decide +kernel) (by first | decide | omega) (by first | decide | omega) (by decide) (by decide) (fun z => absurd z (by decide)) ?_
      have j289976 := jU (e := u110) (v := 2147483648) u110 j104 rg_83_0_1_6 (by first | decide | omega) (by first | decide | omega) (by first | decide | omega)
      have f289978 := jF (e := u110) (v := 2147483648) u110 f109 rg_83_0_1_6 (by first | decide | omega) (by first | decide | omega) (by decide)
      have f289979 := jF (e := u110) (v := 2147483648) u110 f103 rg_83_0_1_6 (by first | decide | omega) (by first | decide | omega) (by decide)
      have m289980 := MB.ext (k := u110) (v := 2147483648) m112 (by first | decide | omega)
      generalize e289977 : x_up h102 83 u110 2147483648 = h289975 at j289976 f289978 f289979 m289980 ⊢
      refine x_iinc (np := 18) (i := 1) (j := 2147483649) (v := (1 + v100)) (lo' := [x_r 75, iv_c (1 + v100), 147573952589676412928, 147573952589676412928, 147573952589676412928]) (by decide +kernel) (by decide) (by decide) rfl (by first | decide | omega) (by first | decide | omega) (by first | decide | omega) rfl ?_
      refine x_goto (np := 21) (x := 2) (by decide +kernel) ?_
      have m289981 : MB ((1 + v100) - 2147483648) 0 h289975 := by
        have e : (1 + v100) - 2147483648 = (u110 + 1) := by first | decide | omega
        rw [e]
        exact m289980
      exact i108 (1 + v100) h289975 (by first | decide | omega) (by first | decide | omega) j289976 f289979 m289981
  exact p105 _ 2147483648 h (Nat.lt_succ_self _) (by first | decide | omega) hJ (Fr.refl _ _) (show MB (2147483648 - 2147483648) 0 h from MB.zero)
set_option maxHeartbeats 0 in
/-- LentNamesModel.bears(II)I -/
theorem c212_75 {sc : Nat × Nat} {d a1 a2 : Nat} {h : xh} (hJ : J h) (ba1 : 0 ≤ a1 ∧ a1 ≤ 4294967295) (ba2 : 0 ≤ a2 ∧ a2 ≤ 4294967295) (hW : WT 76 h) : X sc 212 (d + 5) (xI fun r h' => J h' ∧ Fr 135291600897 h h' ∧ (2147483647 ≤ r ∧ r ≤ 2147483653)) 0 0 0 [x_r 75, iv_c a1, iv_c a2] [] h := by
  have la1 : a1 < 4294967296 := by first | decide | omega
  have la2 : a2 < 4294967296 := by first | decide | omega
  have hF := Fr.refl 135291600897 h
  refine x_aload (np := 1) (x := 0) (by decide +kernel) rfl (x_nc_le (by decide)) ?_
  refine x_const (np := 2) (x := 9223372039002259456) (a := 2147483648) (by decide +kernel) (by decide) (by decide) ?_
  refine x_putI (np := 5) (x := 704) (f := 0) (by decide +kernel) (by decide +kernel) (by decide) (Or.inl (by decide)) ?_
  have j2 := jU (e := 0) (v := 2147483648) 0 hJ rg_75_0_0_1 (by first | decide | omega) (by first | decide | omega) (by first | decide | omega)
  have f4 := jF (e := 0) (v := 2147483648) 0 hF rg_75_0_0_1 (by first | decide | omega) (by first | decide | omega) (by decide)
  generalize e3 : x_up h 75 0 2147483648 = h1 at j2 f4 ⊢
  refine x_aload (np := 6) (x := 0) (by decide +kernel) rfl (x_nc_le (by decide)) ?_
  refine x_aload (np := 7) (x := 0) (by decide +kernel) rfl (x_nc_le (by decide)) ?_
  refine x_iload (np := 8) (x := 1) (by decide +kernel) rfl la1 ?_
  refine x_nI (t := 6) (mj := 159) (n := 2) (rc := 12) (ml := 2) (nr := 1) (np := 11) (as := [x_r 75, iv_c a1]) (rest := [x_r 75]) (lo1 := [x_r 75, iv_c a1]) (by decide +kernel) (by decide) (by decide +kernel) (x_rb_of (by decide +kernel)) rfl rfl (x_wr (by decide) (x_wi la1 x_wn)) (x_wr (by decide) x_wn) (by decide) rfl ?_
  refine x_aload (np := 1) (x := 0) (by decide +kernel) rfl (x_nc_le (by decide)) ?_
  refine x_iload (np := 2) (x := 1) (by decide +kernel) rfl la1 ?_
  refine x_const (np := 3) (x := 9223372039002259456) (a := 2147483648) (by decide +kernel) (by decide) (by decide) ?_
  refine x_nI (t := 6) (mj := 158) (n := 3) (rc := 12) (ml := 3) (nr := 0) (np := 6) (as := [x_r 75, iv_c a1, iv_c 2147483648]) (rest := []) (lo1 := [x_r 75, iv_c a1, iv_c 2147483648]) (by decide +kernel) (by decide) (by decide +kernel) (x_rb_of (by decide +kernel)) rfl rfl (x_wr (by decide) (x_wi la1 (x_wi (by decide) x_wn))) x_wn (by decide) rfl ?_
  refine x_iload (np := 1) (x := 1) (by decide +kernel) rfl la1 ?_
  refine x_const (np := 2) (x := 9223372039002259456) (a := 2147483648) (by decide +kernel) (by decide) (by decide) ?_
  refine x_aload (np := 3) (x := 0) (by decide +kernel) rfl (x_nc_le (by decide)) ?_
  have q5 : h1 75 1 = 76 := by have z := jB (e := 1) 0 j2 rg_75_1_0_1 (by decide) (by decide); omega
  refine x_getR (np := 6) (x := 705) (f := 1) (q := 76) (by decide +kernel) (by decide) (by decide +kernel) q5 ?_
  refine x_iload (np := 7) (x := 2) (by decide +kernel) rfl (by decide) ?_
  have q6 : h1 76 0 = h 76 0 := by rw [← e3]; exact x_up_k (by decide)
  have b7 := jB (e := 0) 0 hJ rg_76_0_0_1 (by first | decide | omega) (by first | decide | omega)
  refine x_aldC (np := 8) (x := 0) (n := 1952) (i := 0) (q := (h 76 0)) (by decide +kernel) (by decide +kernel) (by first | decide | omega) (by first | decide | omega) (by decide) q6 (fun l8 => ?_)
  refine x_const (np := 9) (x := 9223372043297226753) (a := 2147483649) (by decide +kernel) (by decide) (by decide) ?_
  obtain ⟨v9, q10⟩ : ∃ z, z + 2147483649 = (h 76 0) + 2147483648 := ⟨(h 76 0) + 2147483648 - 2147483649, by first | decide | omega⟩
  refine x_isub (np := 10) (x := 0) (v := v9) (by decide +kernel) l8 (by decide) (by first | decide | omega) (by first | decide | omega) ?_
  refine x_nI (t := 0) (mj := 153) (n := 3) (rc := 0) (ml := 3) (nr := 0) (np := 13) (as := [iv_c a1, iv_c 2147483648, iv_c v9]) (rest := []) (lo1 := [iv_c a1, iv_c 2147483648, iv_c v9]) (by decide +kernel) (by decide) (by decide +kernel) (Or.inl rfl) rfl rfl (x_wi la1 (x_wi (by decide) (x_wi (by first | decide | omega) x_wn))) x_wn (by decide) rfl ?_
  refine x_iload (np := 1) (x := 0) (by decide +kernel) rfl la1 ?_
  refine x_iload (np := 2) (x := 1) (by decide +kernel) rfl (by decide) ?_
  refine x_icmp (k := 2) (tg := 14) (np := 5) (by decide +kernel) (by decide) la1 (by decide) (fun q11 => ?_) (fun q12 => ?_)
  · have q11 : a1 < 2147483648 := q11
    refine x_const (np := 15) (x := 9223372039002259456) (a := 2147483648) (by decide +kernel) (by decide) (by decide) ?_
    refine x_retI (np := 16) (x := 0) (by decide +kernel) (by decide) (Or.inr ⟨by decide +kernel, by first | decide | omega, by first | decide | omega⟩) ⟨_, rfl, (by decide), ?_⟩
    refine x_ifz (k := 1) (tg := 20) (np := 16) (by decide +kernel) (by decide) (by decide) (fun q13 => ?_) (fun q14 => ?_)
    · have q13 : 2147483648 ≠ 2147483648 := q13
      exfalso; omega
    have q14 : ¬ (2147483648 ≠ 2147483648) := q14
    refine x_const (np := 17) (x := 9223372043297226753) (a := 2147483649) (by decide +kernel) (by decide) (by decide) ?_
    refine x_goto (np := 20) (x := 21) (by decide +kernel) ?_
    refine x_retI (np := 22) (x := 0) (by decide +kernel) (by decide) (Or.inr ⟨by decide +kernel, by first | decide | omega, by first | decide | omega⟩) ⟨_, rfl, (by decide), ?_⟩
    refine x_retI (np := 7) (x := 0) (by decide +kernel) (by decide) (Or.inr ⟨by decide +kernel, by first | decide | omega, by first | decide | omega⟩) ⟨_, rfl, (by decide), ?_⟩
    refine x_ifz (k := 1) (tg := 21) (np := 14) (by decide +kernel) (by decide) (by decide) (fun q15 => ?_) (fun q16 => ?_)
    · have q15 : 2147483649 ≠ 2147483648 := q15
      refine x_const (np := 22) (x := 9223372043297226753) (a := 2147483649) (by decide +kernel) (by decide) (by decide) ?_
      refine x_goto (np := 25) (x := 26) (by decide +kernel) ?_
      refine x_const (np := 27) (x := 9223372043297226753) (a := 2147483649) (by decide +kernel) (by decide) (by decide) ?_
      refine x_nI (t := 6) (mj := 152) (n := 3) (rc := 12) (ml := 3) (nr := 0) (np := 30) (as := [x_r 75, iv_c 2147483649, iv_c 2147483649]) (rest := []) (lo1 := [x_r 75, iv_c 2147483649, iv_c 2147483649]) (by decide +kernel) (by decide) (by decide +kernel) (x_rb_of (by decide +kernel)) rfl rfl (x_wr (by decide) (x_wi (by decide) (x_wi (by decide) x_wn))) x_wn (by decide) rfl ?_
      refine x_iload (np := 1) (x := 1) (by decide +kernel) rfl (by decide) ?_
      refine x_ifz (k := 0) (tg := 9) (np := 4) (by decide +kernel) (by decide) (by decide) (fun q17 => ?_) (fun q18 => ?_)
      · have q17 : 2147483649 = 2147483648 := q17
        exfalso; omega
      have q18 : ¬ (2147483649 = 2147483648) := q18
      refine x_aload (np := 5) (x := 0) (by decide +kernel) rfl (x_nc_le (by decide)) ?_
      refine x_iload (np := 6) (x := 2) (by decide +kernel) rfl (by decide) ?_
      refine x_putI (np := 9) (x := 704) (f := 0) (by decide +kernel) (by decide +kernel) (by decide) (Or.inl (by decide)) ?_
      have j20 := jU (e := 0) (v := 2147483649) 0 j2 rg_75_0_0_1 (by first | decide | omega) (by first | decide | omega) (by first | decide | omega)
      have f22 := jF (e := 0) (v := 2147483649) 0 f4 rg_75_0_0_1 (by first | decide | omega) (by first | decide | omega) (by decide)
      generalize e21 : x_up h1 75 0 2147483649 = h19 at j20 f22 ⊢
      refine x_iload (np := 10) (x := 1) (by decide +kernel) rfl (by decide) ?_
      refine x_retI (np := 11) (x := 0) (by decide +kernel) (by decide) (Or.inr ⟨by decide +kernel, by first | decide | omega, by first | decide | omega⟩) ⟨_, rfl, (by decide), ?_⟩
      refine x_ifz (k := 0) (tg := 35) (np := 33) (by decide +kernel) (by decide) (by decide) (fun q23 => ?_) (fun q24 => ?_)
      · have q23 : 2147483649 = 2147483648 := q23
        exfalso; omega
      have q24 : ¬ (2147483649 = 2147483648) := q24
      refine x_const (np := 34) (x := 9223372039002259456) (a := 2147483648) (by decide +kernel) (by decide) (by decide) ?_
      refine x_retI (np := 35) (x := 0) (by decide +kernel) (by decide) (Or.inl (by decide +kernel)) ⟨_, rfl, (by decide), ?_⟩
      exact ⟨j20, f22, (by first | decide | omega)⟩
    have q16 : ¬ (2147483649 ≠ 2147483648) := q16
    exfalso; omega
  have q12 : ¬ (a1 < 2147483648) := q12
  refine x_iload (np := 6) (x := 0) (by decide +kernel) rfl la1 ?_
  refine x_iload (np := 7) (x := 2) (by decide +kernel) rfl (by first | decide | omega) ?_
  refine x_icmp (k := 4) (tg := 14) (np := 10) (by decide +kernel) (by decide) la1 (by first | decide | omega) (fun q25 => ?_) (fun q26 => ?_)
  · have q25 : v9 < a1 := q25
    refine x_const (np := 15) (x := 9223372039002259456) (a := 2147483648) (by decide +kernel) (by decide) (by decide) ?_
    refine x_retI (np := 16) (x := 0) (by decide +kernel) (by decide) (Or.inr ⟨by decide +kernel, by first | decide | omega, by first | decide | omega⟩) ⟨_, rfl, (by decide), ?_⟩
    refine x_ifz (k := 1) (tg := 20) (np := 16) (by decide +kernel) (by decide) (by decide) (fun q27 => ?_) (fun q28 => ?_)
    · have q27 : 2147483648 ≠ 2147483648 := q27
      exfalso; omega
    have q28 : ¬ (2147483648 ≠ 2147483648) := q28
    refine x_const (np := 17) (x := 9223372043297226753) (a := 2147483649) (by decide +kernel) (by decide) (by decide) ?_
    refine x_goto (np := 20) (x := 21) (by decide +kernel) ?_
    refine x_retI (np := 22) (x := 0) (by decide +kernel) (by decide) (Or.inr ⟨by decide +kernel, by first | decide | omega, by first | decide | omega⟩) ⟨_, rfl, (by decide), ?_⟩
    refine x_retI (np := 7) (x := 0) (by decide +kernel) (by decide) (Or.inr ⟨by decide +kernel, by first | decide | omega, by first | decide | omega⟩) ⟨_, rfl, (by decide), ?_⟩
    refine x_ifz (k := 1) (tg := 21) (np := 14) (by decide +kernel) (by decide) (by decide) (fun q29 => ?_) (fun q30 => ?_)
    · have q29 : 2147483649 ≠ 2147483648 := q29
      refine x_const (np := 22) (x := 9223372043297226753) (a := 2147483649) (by decide +kernel) (by decide) (by decide) ?_
      refine x_goto (np := 25) (x := 26) (by decide +kernel) ?_
      refine x_const (np := 27) (x := 9223372043297226753) (a := 2147483649) (by decide +kernel) (by decide) (by decide) ?_
      refine x_nI (t := 6) (mj := 152) (n := 3) (rc := 12) (ml := 3) (nr := 0) (np := 30) (as := [x_r 75, iv_c 2147483649, iv_c 2147483649]) (rest := []) (lo1 := [x_r 75, iv_c 2147483649, iv_c 2147483649]) (by decide +kernel) (by decide) (by decide +kernel) (x_rb_of (by decide +kernel)) rfl rfl (x_wr (by decide) (x_wi (by decide) (x_wi (by decide) x_wn))) x_wn (by decide) rfl ?_
      refine x_iload (np := 1) (x := 1) (by decide +kernel) rfl (by decide) ?_
      refine x_ifz (k := 0) (tg := 9) (np := 4) (by decide +kernel) (by decide) (by decide) (fun q31 => ?_) (fun q32 => ?_)
      · have q31 : 2147483649 = 2147483648 := q31
        exfalso; omega
      have q32 : ¬ (2147483649 = 2147483648) := q32
      refine x_aload (np := 5) (x := 0) (by decide +kernel) rfl (x_nc_le (by decide)) ?_
      refine x_iload (np := 6) (x := 2) (by decide +kernel) rfl (by decide) ?_
      refine x_putI (np := 9) (x := 704) (f := 0) (by decide +kernel) (by decide +kernel) (by decide) (Or.inl (by decide)) ?_
      have j34 := jU (e := 0) (v := 2147483649) 0 j2 rg_75_0_0_1 (by first | decide | omega) (by first | decide | omega) (by first | decide | omega)
      have f36 := jF (e := 0) (v := 2147483649) 0 f4 rg_75_0_0_1 (by first | decide | omega) (by first | decide | omega) (by decide)
      generalize e35 : x_up h1 75 0 2147483649 = h33 at j34 f36 ⊢
      refine x_iload (np := 10) (x := 1) (by decide +kernel) rfl (by decide) ?_
      refine x_retI (np := 11) (x := 0) (by decide +kernel) (by decide) (Or.inr ⟨by decide +kernel, by first | decide | omega, by first | decide | omega⟩) ⟨_, rfl, (by decide), ?_⟩
      refine x_ifz (k := 0) (tg := 35) (np := 33) (by decide +kernel) (by decide) (by decide) (fun q37 => ?_) (fun q38 => ?_)
      · have q37 : 2147483649 = 2147483648 := q37
        exfalso; omega
      have q38 : ¬ (2147483649 = 2147483648) := q38
      refine x_const (np := 34) (x := 9223372039002259456) (a := 2147483648) (by decide +kernel) (by decide) (by decide) ?_
      refine x_retI (np := 35) (x := 0) (by decide +kernel) (by decide) (Or.inl (by decide +kernel)) ⟨_, rfl, (by decide), ?_⟩
      exact ⟨j34, f36, (by first | decide | omega)⟩
    have q30 : ¬ (2147483649 ≠ 2147483648) := q30
    exfalso; omega
  have q26 : ¬ (v9 < a1) := q26
  refine x_const (np := 11) (x := 9223372043297226753) (a := 2147483649) (by decide +kernel) (by decide) (by decide) ?_
  refine x_goto (np := 14) (x := 15) (by decide +kernel) ?_
  refine x_retI (np := 16) (x := 0) (by decide +kernel) (by decide) (Or.inr ⟨by decide +kernel, by first | decide | omega, by first | decide | omega⟩) ⟨_, rfl, (by decide), ?_⟩
  refine x_ifz (k := 1) (tg := 20) (np := 16) (by decide +kernel) (by decide) (by decide) (fun q39 => ?_) (fun q40 => ?_)
  · have q39 : 2147483649 ≠ 2147483648 := q39
    refine x_const (np := 21) (x := 9223372039002259456) (a := 2147483648) (by decide +kernel) (by decide) (by decide) ?_
    refine x_retI (np := 22) (x := 0) (by decide +kernel) (by decide) (Or.inr ⟨by decide +kernel, by first | decide | omega, by first | decide | omega⟩) ⟨_, rfl, (by decide), ?_⟩
    refine x_retI (np := 7) (x := 0) (by decide +kernel) (by decide) (Or.inr ⟨by decide +kernel, by first | decide | omega, by first | decide | omega⟩) ⟨_, rfl, (by decide), ?_⟩
    refine x_ifz (k := 1) (tg := 21) (np := 14) (by decide +kernel) (by decide) (by decide) (fun q41 => ?_) (fun q42 => ?_)
    · have q41 : 2147483648 ≠ 2147483648 := q41
      exfalso; omega
    have q42 : ¬ (2147483648 ≠ 2147483648) := q42
    refine x_iload (np := 15) (x := 2) (by decide +kernel) rfl la2 ?_
    refine x_nI (t := 0) (mj := 160) (n := 1) (rc := 0) (ml := 1) (nr := 1) (np := 18) (as := [iv_c a2]) (rest := [x_r 75]) (lo1 := [iv_c a2]) (by decide +kernel) (by decide) (by decide +kernel) (Or.inl rfl) rfl rfl (x_wi la2 x_wn) (x_wr (by decide) x_wn) (by decide) rfl ?_
    refine x_iload (np := 1) (x := 0) (by decide +kernel) rfl la2 ?_
    refine x_const (np := 2) (x := 9223372039002259456) (a := 2147483648) (by decide +kernel) (by decide) (by decide) ?_
    refine x_const (np := 4) (x := 9223372086246899723) (a := 2147483659) (by decide +kernel) (by decide) (by decide) ?_
    refine x_nI (t := 0) (mj := 153) (n := 3) (rc := 0) (ml := 3) (nr := 0) (np := 7) (as := [iv_c a2, iv_c 2147483648, iv_c 2147483659]) (rest := []) (lo1 := [iv_c a2, iv_c 2147483648, iv_c 2147483659]) (by decide +kernel) (by decide) (by decide +kernel) (Or.inl rfl) rfl rfl (x_wi la2 (x_wi (by decide) (x_wi (by decide) x_wn))) x_wn (by decide) rfl ?_
    refine x_iload (np := 1) (x := 0) (by decide +kernel) rfl la2 ?_
    refine x_iload (np := 2) (x := 1) (by decide +kernel) rfl (by decide) ?_
    refine x_icmp (k := 2) (tg := 14) (np := 5) (by decide +kernel) (by decide) la2 (by decide) (fun q43 => ?_) (fun q44 => ?_)
    · have q43 : a2 < 2147483648 := q43
      refine x_const (np := 15) (x := 9223372039002259456) (a := 2147483648) (by decide +kernel) (by decide) (by decide) ?_
      refine x_retI (np := 16) (x := 0) (by decide +kernel) (by decide) (Or.inr ⟨by decide +kernel, by first | decide | omega, by first | decide | omega⟩) ⟨_, rfl, (by decide), ?_⟩
      refine x_ifz (k := 1) (tg := 14) (np := 10) (by decide +kernel) (by decide) (by decide) (fun q45 => ?_) (fun q46 => ?_)
      · have q45 : 2147483648 ≠ 2147483648 := q45
        exfalso; omega
      have q46 : ¬ (2147483648 ≠ 2147483648) := q46
      refine x_const (np := 11) (x := 9223372043297226753) (a := 2147483649) (by decide +kernel) (by decide) (by decide) ?_
      refine x_goto (np := 14) (x := 15) (by decide +kernel) ?_
      refine x_retI (np := 16) (x := 0) (by decide +kernel) (by decide) (Or.inr ⟨by decide +kernel, by first | decide | omega, by first | decide | omega⟩) ⟨_, rfl, (by decide), ?_⟩
      refine x_ifz (k := 0) (tg := 25) (np := 21) (by decide +kernel) (by decide) (by decide) (fun q47 => ?_) (fun q48 => ?_)
      · have q47 : 2147483649 = 2147483648 := q47
        exfalso; omega
      have q48 : ¬ (2147483649 = 2147483648) := q48
      refine x_const (np := 22) (x := 9223372043297226753) (a := 2147483649) (by decide +kernel) (by decide) (by decide) ?_
      refine x_goto (np := 25) (x := 26) (by decide +kernel) ?_
      refine x_const (np := 27) (x := 9223372043297226753) (a := 2147483649) (by decide +kernel) (by decide) (by decide) ?_
      refine x_nI (t := 6) (mj := 152) (n := 3) (rc := 12) (ml := 3) (nr := 0) (np := 30) (as := [x_r 75, iv_c 2147483649, iv_c 2147483649]) (rest := []) (lo1 := [x_r 75, iv_c 2147483649, iv_c 2147483649]) (by decide +kernel) (by decide) (by decide +kernel) (x_rb_of (by decide +kernel)) rfl rfl (x_wr (by decide) (x_wi (by decide) (x_wi (by decide) x_wn))) x_wn (by decide) rfl ?_
      refine x_iload (np := 1) (x := 1) (by decide +kernel) rfl (by decide) ?_
      refine x_ifz (k := 0) (tg := 9) (np := 4) (by decide +kernel) (by decide) (by decide) (fun q49 => ?_) (fun q50 => ?_)
      · have q49 : 2147483649 = 2147483648 := q49
        exfalso; omega
      have q50 : ¬ (2147483649 = 2147483648) := q50
      refine x_aload (np := 5) (x := 0) (by decide +kernel) rfl (x_nc_le (by decide)) ?_
      refine x_iload (np := 6) (x := 2) (by decide +kernel) rfl (by decide) ?_
      refine x_putI (np := 9) (x := 704) (f := 0) (by decide +kernel) (by decide +kernel) (by decide) (Or.inl (by decide)) ?_
      have j52 := jU (e := 0) (v := 2147483649) 0 j2 rg_75_0_0_1 (by first | decide | omega) (by first | decide | omega) (by first | decide | omega)
      have f54 := jF (e := 0) (v := 2147483649) 0 f4 rg_75_0_0_1 (by first | decide | omega) (by first | decide | omega) (by decide)
      generalize e53 : x_up h1 75 0 2147483649 = h51 at j52 f54 ⊢
      refine x_iload (np := 10) (x := 1) (by decide +kernel) rfl (by decide) ?_
      refine x_retI (np := 11) (x := 0) (by decide +kernel) (by decide) (Or.inr ⟨by decide +kernel, by first | decide | omega, by first | decide | omega⟩) ⟨_, rfl, (by decide), ?_⟩
      refine x_ifz (k := 0) (tg := 35) (np := 33) (by decide +kernel) (by decide) (by decide) (fun q55 => ?_) (fun q56 => ?_)
      · have q55 : 2147483649 = 2147483648 := q55
        exfalso; omega
      have q56 : ¬ (2147483649 = 2147483648) := q56
      refine x_const (np := 34) (x := 9223372039002259456) (a := 2147483648) (by decide +kernel) (by decide) (by decide) ?_
      refine x_retI (np := 35) (x := 0) (by decide +kernel) (by decide) (Or.inl (by decide +kernel)) ⟨_, rfl, (by decide), ?_⟩
      exact ⟨j52, f54, (by first | decide | omega)⟩
    have q44 : ¬ (a2 < 2147483648) := q44
    refine x_iload (np := 6) (x := 0) (by decide +kernel) rfl la2 ?_
    refine x_iload (np := 7) (x := 2) (by decide +kernel) rfl (by decide) ?_
    refine x_icmp (k := 4) (tg := 14) (np := 10) (by decide +kernel) (by decide) la2 (by decide) (fun q57 => ?_) (fun q58 => ?_)
    · have q57 : 2147483659 < a2 := q57
      refine x_const (np := 15) (x := 9223372039002259456) (a := 2147483648) (by decide +kernel) (by decide) (by decide) ?_
      refine x_retI (np := 16) (x := 0) (by decide +kernel) (by decide) (Or.inr ⟨by decide +kernel, by first | decide | omega, by first | decide | omega⟩) ⟨_, rfl, (by decide), ?_⟩
      refine x_ifz (k := 1) (tg := 14) (np := 10) (by decide +kernel) (by decide) (by decide) (fun q59 => ?_) (fun q60 => ?_)
      · have q59 : 2147483648 ≠ 2147483648 := q59
        exfalso; omega
      have q60 : ¬ (2147483648 ≠ 2147483648) := q60
      refine x_const (np := 11) (x := 9223372043297226753) (a := 2147483649) (by decide +kernel) (by decide) (by decide) ?_
      refine x_goto (np := 14) (x := 15) (by decide +kernel) ?_
      refine x_retI (np := 16) (x := 0) (by decide +kernel) (by decide) (Or.inr ⟨by decide +kernel, by first | decide | omega, by first | decide | omega⟩) ⟨_, rfl, (by decide), ?_⟩
      refine x_ifz (k := 0) (tg := 25) (np := 21) (by decide +kernel) (by decide) (by decide) (fun q61 => ?_) (fun q62 => ?_)
      · have q61 : 2147483649 = 2147483648 := q61
        exfalso; omega
      have q62 : ¬ (2147483649 = 2147483648) := q62
      refine x_const (np := 22) (x := 9223372043297226753) (a := 2147483649) (by decide +kernel) (by decide) (by decide) ?_
      refine x_goto (np := 25) (x := 26) (by decide +kernel) ?_
      refine x_const (np := 27) (x := 9223372043297226753) (a := 2147483649) (by decide +kernel) (by decide) (by decide) ?_
      refine x_nI (t := 6) (mj := 152) (n := 3) (rc := 12) (ml := 3) (nr := 0) (np := 30) (as := [x_r 75, iv_c 2147483649, iv_c 2147483649]) (rest := []) (lo1 := [x_r 75, iv_c 2147483649, iv_c 2147483649]) (by decide +kernel) (by decide) (by decide +kernel) (x_rb_of (by decide +kernel)) rfl rfl (x_wr (by decide) (x_wi (by decide) (x_wi (by decide) x_wn))) x_wn (by decide) rfl ?_
      refine x_iload (np := 1) (x := 1) (by decide +kernel) rfl (by decide) ?_
      refine x_ifz (k := 0) (tg := 9) (np := 4) (by decide +kernel) (by decide) (by decide) (fun q63 => ?_) (fun q64 => ?_)
      · have q63 : 2147483649 = 2147483648 := q63
        exfalso; omega
      have q64 : ¬ (2147483649 = 2147483648) := q64
      refine x_aload (np := 5) (x := 0) (by decide +kernel) rfl (x_nc_le (by decide)) ?_
      refine x_iload (np := 6) (x := 2) (by decide +kernel) rfl (by decide) ?_
      refine x_putI (np := 9) (x := 704) (f := 0) (by decide +kernel) (by decide +kernel) (by decide) (Or.inl (by decide)) ?_
      have j66 := jU (e := 0) (v := 2147483649) 0 j2 rg_75_0_0_1 (by first | decide | omega) (by first | decide | omega) (by first | decide | omega)
      have f68 := jF (e := 0) (v := 2147483649) 0 f4 rg_75_0_0_1 (by first | decide | omega) (by first | decide | omega) (by decide)
      generalize e67 : x_up h1 75 0 2147483649 = h65 at j66 f68 ⊢
      refine x_iload (np := 10) (x := 1) (by decide +kernel) rfl (by decide) ?_
      refine x_retI (np := 11) (x := 0) (by decide +kernel) (by decide) (Or.inr ⟨by decide +kernel, by first | decide | omega, by first | decide | omega⟩) ⟨_, rfl, (by decide), ?_⟩
      refine x_ifz (k := 0) (tg := 35) (np := 33) (by decide +kernel) (by decide) (by decide) (fun q69 => ?_) (fun q70 => ?_)
      · have q69 : 2147483649 = 2147483648 := q69
        exfalso; omega
      have q70 : ¬ (2147483649 = 2147483648) := q70
      refine x_const (np := 34) (x := 9223372039002259456) (a := 2147483648) (by decide +kernel) (by decide) (by decide) ?_
      refine x_retI (np := 35) (x := 0) (by decide +kernel) (by decide) (Or.inl (by decide +kernel)) ⟨_, rfl, (by decide), ?_⟩
      exact ⟨j66, f68, (by first | decide | omega)⟩
    have q58 : ¬ (2147483659 < a2) := q58
    refine x_const (np := 11) (x := 9223372043297226753) (a := 2147483649) (by decide +kernel) (by decide) (by decide) ?_
    refine x_goto (np := 14) (x := 15) (by decide +kernel) ?_
    refine x_retI (np := 16) (x := 0) (by decide +kernel) (by decide) (Or.inr ⟨by decide +kernel, by first | decide | omega, by first | decide | omega⟩) ⟨_, rfl, (by decide), ?_⟩
    refine x_ifz (k := 1) (tg := 14) (np := 10) (by decide +kernel) (by decide) (by decide) (fun q71 => ?_) (fun q72 => ?_)
    · have q71 : 2147483649 ≠ 2147483648 := q71
      refine x_const (np := 15) (x := 9223372039002259456) (a := 2147483648) (by decide +kernel) (by decide) (by decide) ?_
      refine x_retI (np := 16) (x := 0) (by decide +kernel) (by decide) (Or.inr ⟨by decide +kernel, by first | decide | omega, by first | decide | omega⟩) ⟨_, rfl, (by decide), ?_⟩
      refine x_ifz (k := 0) (tg := 25) (np := 21) (by decide +kernel) (by decide) (by decide) (fun q73 => ?_) (fun q74 => ?_)
      · have q73 : 2147483648 = 2147483648 := q73
        refine x_const (np := 26) (x := 9223372039002259456) (a := 2147483648) (by decide +kernel) (by decide) (by decide) ?_
        refine x_const (np := 27) (x := 9223372043297226753) (a := 2147483649) (by decide +kernel) (by decide) (by decide) ?_
        refine x_nI (t := 6) (mj := 152) (n := 3) (rc := 12) (ml := 3) (nr := 0) (np := 30) (as := [x_r 75, iv_c 2147483648, iv_c 2147483649]) (rest := []) (lo1 := [x_r 75, iv_c 2147483648, iv_c 2147483649]) (by decide +kernel) (by decide) (by decide +kernel) (x_rb_of (by decide +kernel)) rfl rfl (x_wr (by decide) (x_wi (by decide) (x_wi (by decide) x_wn))) x_wn (by decide) rfl ?_
        refine x_iload (np := 1) (x := 1) (by decide +kernel) rfl (by decide) ?_
        refine x_ifz (k := 0) (tg := 9) (np := 4) (by decide +kernel) (by decide) (by decide) (fun q75 => ?_) (fun q76 => ?_)
        · have q75 : 2147483648 = 2147483648 := q75
          refine x_iload (np := 10) (x := 1) (by decide +kernel) rfl (by decide) ?_
          refine x_retI (np := 11) (x := 0) (by decide +kernel) (by decide) (Or.inr ⟨by decide +kernel, by first | decide | omega, by first | decide | omega⟩) ⟨_, rfl, (by decide), ?_⟩
          refine x_ifz (k := 0) (tg := 35) (np := 33) (by decide +kernel) (by decide) (by decide) (fun q77 => ?_) (fun q78 => ?_)
          · have q77 : 2147483648 = 2147483648 := q77
            refine x_aload (np := 36) (x := 0) (by decide +kernel) rfl (x_nc_le (by decide)) ?_
            have m82 : WT 76 h1 := by rw [← e3]; exact WT.oth hW hJ (by decide)
            refine x_cV (t := 6) (mj := 210) (n := 1) (rc := 12) (ml := 5) (nr := 0) (np := 39) (as := [x_r 75]) (rest := []) (lo1 := [x_r 75, 147573952589676412928, 147573952589676412928, 147573952589676412928, 147573952589676412928]) (by decide +kernel) (by decide) (by decide +kernel) (x_rb_of (by decide +kernel)) rfl rfl (x_wr (by decide) x_wn) x_wn (by decide) rfl (c210_75 j2  m82) (fun h83 q81 => ?_)
            obtain ⟨j84, f85⟩ := q81
            have f88 := Fr.trans f4 f85 (by decide)
            refine x_aload (np := 40) (x := 0) (by decide +kernel) rfl (x_nc_le (by decide)) ?_
            refine x_iload (np := 41) (x := 1) (by decide +kernel) rfl la1 ?_
            refine x_iload (np := 42) (x := 2) (by decide +kernel) rfl la2 ?_
            refine x_nI (t := 6) (mj := 211) (n := 3) (rc := 12) (ml := 3) (nr := 0) (np := 45) (as := [x_r 75, iv_c a1, iv_c a2]) (rest := []) (lo1 := [x_r 75, iv_c a1, iv_c a2]) (by decide +kernel) (by decide) (by decide +kernel) (x_rb_of (by decide +kernel)) rfl rfl (x_wr (by decide) (x_wi la1 (x_wi la2 x_wn))) x_wn (by decide) rfl ?_
            refine x_aload (np := 1) (x := 0) (by decide +kernel) rfl (x_nc_le (by decide)) ?_
            have q89 : h83 75 20 = 87 := by have z := jB (e := 20) 0 j84 rg_75_20_0_1 (by decide) (by decide); omega
            refine x_getR (np := 4) (x := 724) (f := 20) (q := 87) (by decide +kernel) (by decide) (by decide +kernel) q89 ?_
            refine x_const (np := 6) (x := 9223372090541867020) (a := 2147483660) (by decide +kernel) (by decide) (by decide) ?_
            refine x_iload (np := 7) (x := 1) (by decide +kernel) rfl la1 ?_
            obtain ⟨u90, q91⟩ : ∃ z, a1 = 2147483648 + z := ⟨a1 - 2147483648, by first | decide | omega⟩
            refine x_imul (np := 8) (x := 0) (i := 12) (j := u90) (v := (2147483648 + 12 * u90)) (by decide +kernel) (by first | decide | omega) (by first | decide | omega) (by first | decide | omega) (by first | decide | omega) (by decide) la1 ?_
            refine x_iload (np := 9) (x := 2) (by decide +kernel) rfl la2 ?_
            refine x_iadd (np := 10) (x := 0) (v := (12 * u90 + a2)) (by decide +kernel) (by first | decide | omega) la2 (by first | decide | omega) (by first | decide | omega) ?_
            obtain ⟨u93, q94⟩ : ∃ z, a2 = 2147483648 + z := ⟨a2 - 2147483648, by first | decide | omega⟩
            have b95 := jB (e := (12 * u90 + u93)) (12 * u90 + u93) j84 rg_87_0_1_72 (by first | decide | omega) (by first | decide | omega)
            refine x_aldC (np := 11) (x := 0) (n := 72) (i := (12 * u90 + u93)) (q := ((h83 87 (12 * u90 + u93)))) (by decide +kernel) (by decide +kernel) (by first | decide | omega) (by first | decide | omega) (by decide) rfl (fun l96 => ?_)
            refine x_retI (np := 12) (x := 0) (by decide +kernel) l96 (Or.inl (by decide +kernel)) ⟨_, rfl, l96, ?_⟩
            refine x_retI (np := 46) (x := 0) (by decide +kernel) l96 (Or.inl (by decide +kernel)) ⟨_, rfl, l96, ?_⟩
            exact ⟨j84, f88, (by first | decide | omega)⟩
          have q78 : ¬ (2147483648 = 2147483648) := q78
          exfalso; omega
        have q76 : ¬ (2147483648 = 2147483648) := q76
        exfalso; omega
      have q74 : ¬ (2147483648 = 2147483648) := q74
      exfalso; omega
    have q72 : ¬ (2147483649 ≠ 2147483648) := q72
    exfalso; omega
  have q40 : ¬ (2147483649 ≠ 2147483648) := q40
  exfalso; omega
set_option maxHeartbeats 0 in
/-- LentNamesModel.namesOf(II)I -/
theorem c213_75 {sc : Nat × Nat} {d a1 a2 : Nat} {h : xh} (hJ : J h) (ba1 : 2147483648 ≤ a1 ∧ a1 ≤ 2147483653) (ba2 : 2147483648 ≤ a2 ∧ a2 ≤ 2147483659) : X sc 213 (d + 1) (xI fun r h' => h' = h ∧ (0 ≤ r ∧ r ≤ 4294967295)) 0 0 0 [x_r 75, iv_c a1, iv_c a2, 147573952589676412928, 147573952589676412928] [] h := by
  have la1 : a1 < 4294967296 := by first | decide | omega
  have la2 : a2 < 4294967296 := by first | decide | omega
  refine x_const (np := 1) (x := 9223372039002259456) (a := 2147483648) (by decide +kernel) (by decide) (by decide) ?_
  refine x_istore (np := 2) (x := 3) (lo' := [x_r 75, iv_c a1, iv_c a2, iv_c 2147483648, 147573952589676412928]) (by decide +kernel) (by decide) (Nat.le_of_ble_eq_true rfl) rfl ?_
  refine x_const (np := 3) (x := 9223372039002259456) (a := 2147483648) (by decide +kernel) (by decide) (by decide) ?_
  refine x_istore (np := 5) (x := 4) (lo' := [x_r 75, iv_c a1, iv_c a2, iv_c 2147483648, iv_c 2147483648]) (by decide +kernel) (by decide) (Nat.le_of_ble_eq_true rfl) rfl ?_
  have p155 : ∀ (n : Nat) (v151 : Nat) (v153 : Nat), 4294967296 - v153 < n → (0 ≤ v151 ∧ v151 ≤ 4294967295) → (2147483648 ≤ v153 ∧ v153 ≤ 2147483654) → X sc 213 (d + 1) (xI fun r h' => h' = h ∧ (0 ≤ r ∧ r ≤ 4294967295)) 0 0 5 [x_r 75, iv_c a1, iv_c a2, iv_c v151, iv_c v153] [] h := by
    intro n
    induction n with
    | zero => intro v151 v153 q156; exact absurd q156 (Nat.not_lt_zero _)
    | succ n i157 =>
      intro v151 v153 q156 b152 b154
      refine x_iload (np := 7) (x := 4) (by decide +kernel) rfl (by first | decide | omega) ?_
      refine x_aload (np := 8) (x := 0) (by decide +kernel) rfl (x_nc_le (by decide)) ?_
      refine x_nI (t := 6) (mj := 157) (n := 1) (rc := 12) (ml := 1) (nr := 1) (np := 11) (as := [x_r 75]) (rest := [iv_c v153]) (lo1 := [x_r 75]) (by decide +kernel) (by decide) (by decide +kernel) (x_rb_of (by decide +kernel)) rfl rfl (x_wr (by decide) x_wn) (x_wi (by first | decide | omega) x_wn) (by decide) rfl ?_
      refine x_aload (np := 1) (x := 0) (by decide +kernel) rfl (x_nc_le (by decide)) ?_
      have q158 : h 75 1 = 76 := by have z := jB (e := 1) 0 hJ rg_75_1_0_1 (by decide) (by decide); omega
      refine x_getR (np := 4) (x := 705) (f := 1) (q := 76) (by decide +kernel) (by decide) (by decide +kernel) q158 ?_
      refine x_const (np := 5) (x := 9223372039002259456) (a := 2147483648) (by decide +kernel) (by decide) (by decide) ?_
      have b159 := jB (e := 0) 0 hJ rg_76_0_0_1 (by first | decide | omega) (by first | decide | omega)
      refine x_aldC (np := 6) (x := 0) (n := 1952) (i := 0) (q := (h 76 0)) (by decide +kernel) (by decide +kernel) (by first | decide | omega) (by first | decide | omega) (by decide) rfl (fun l160 => ?_)
      refine x_retI (np := 7) (x := 0) (by decide +kernel) l160 (Or.inl (by decide +kernel)) ⟨_, rfl, l160, ?_⟩
      refine x_icmp (k := 3) (tg := 42) (np := 14) (by decide +kernel) (by decide) (by first | decide | omega) l160 (fun q161 => ?_) (fun q162 => ?_)
      · have q161 : (h 76 0) ≤ v153 := q161
        refine x_iload (np := 43) (x := 3) (by decide +kernel) rfl (by first | decide | omega) ?_
        refine x_retI (np := 44) (x := 0) (by decide +kernel) (by first | decide | omega) (Or.inl (by decide +kernel)) ⟨_, rfl, (by first | decide | omega), ?_⟩
        exact ⟨rfl, (by first | decide | omega)⟩
      have q162 : ¬ ((h 76 0) ≤ v153) := q162
      refine x_iload (np := 15) (x := 3) (by decide +kernel) rfl (by first | decide | omega) ?_
      refine x_aload (np := 16) (x := 0) (by decide +kernel) rfl (x_nc_le (by decide)) ?_
      refine x_iload (np := 18) (x := 4) (by decide +kernel) rfl (by first | decide | omega) ?_
      refine x_iload (np := 19) (x := 2) (by decide +kernel) rfl la2 ?_
      refine x_nI (t := 6) (mj := 211) (n := 3) (rc := 12) (ml := 3) (nr := 1) (np := 22) (as := [x_r 75, iv_c v153, iv_c a2]) (rest := [iv_c v151]) (lo1 := [x_r 75, iv_c v153, iv_c a2]) (by decide +kernel) (by decide) (by decide +kernel) (x_rb_of (by decide +kernel)) rfl rfl (x_wr (by decide) (x_wi (by first | decide | omega) (x_wi la2 x_wn))) (x_wi (by first | decide | omega) x_wn) (by decide) rfl ?_
      refine x_aload (np := 1) (x := 0) (by decide +kernel) rfl (x_nc_le (by decide)) ?_
      have q163 : h 75 20 = 87 := by have z := jB (e := 20) 0 hJ rg_75_20_0_1 (by decide) (by decide); omega
      refine x_getR (np := 4) (x := 724) (f := 20) (q := 87) (by decide +kernel) (by decide) (by decide +kernel) q163 ?_
      refine x_const (np := 6) (x := 9223372090541867020) (a := 2147483660) (by decide +kernel) (by decide) (by decide) ?_
      refine x_iload (np := 7) (x := 1) (by decide +kernel) rfl (by first | decide | omega) ?_
      obtain ⟨u164, q165⟩ : ∃ z, v153 = 2147483648 + z := ⟨v153 - 2147483648, by first | decide | omega⟩
      refine x_imul (np := 8) (x := 0) (i := 12) (j := u164) (v := (2147483648 + 12 * u164)) (by decide +kernel) (by first | decide | omega) (by first | decide | omega) (by first | decide | omega) (by first | decide | omega) (by decide) (by first | decide | omega) ?_
      refine x_iload (np := 9) (x := 2) (by decide +kernel) rfl la2 ?_
      refine x_iadd (np := 10) (x := 0) (v := (12 * u164 + a2)) (by decide +kernel) (by first | decide | omega) la2 (by first | decide | omega) (by first | decide | omega) ?_
      obtain ⟨u167, q168⟩ : ∃ z, a2 = 2147483648 + z := ⟨a2 - 2147483648, by first | decide | omega⟩
      have b169 := jB (e := (12 * u164 + u167)) (12 * u164 + u167) hJ rg_87_0_1_72 (by first | decide | omega) (by first | decide | omega)
      refine x_aldC (np := 11) (x := 0) (n := 72) (i := (12 * u164 + u167)) (q := ((h 87 (12 * u164 + u167)))) (by decide +kernel) (by decide +kernel) (by first | decide | omega) (by first | decide | omega) (by decide) rfl (fun l170 => ?_)
      refine x_retI (np := 12) (x := 0) (by decide +kernel) l170 (Or.inl (by decide +kernel)) ⟨_, rfl, l170, ?_⟩
      refine x_iload (np := 23) (x := 1) (by decide +kernel) rfl la1 ?_
      refine x_icmp (k := 1) (tg := 33) (np := 26) (by decide +kernel) (by decide) l170 la1 (fun q171 => ?_) (fun q172 => ?_)
      · have q171 : ((h 87 (12 * u164 + u167))) ≠ a1 := q171
        refine x_const (np := 34) (x := 9223372039002259456) (a := 2147483648) (by decide +kernel) (by decide) (by decide) ?_
        refine x_any (np := 35) (k9 := 1) (by decide +kernel) (by decide) (by first | decide | omega) (by decide) (fun v173 l174 => ?_)
        refine x_istore (np := 36) (x := 3) (lo' := [x_r 75, iv_c a1, iv_c a2, iv_c v173, iv_c v153]) (by decide +kernel) l174 (Nat.le_of_ble_eq_true rfl) rfl ?_
        refine x_iinc (np := 39) (i := 4) (j := 2147483649) (v := (1 + v153)) (lo' := [x_r 75, iv_c a1, iv_c a2, iv_c v173, iv_c (1 + v153)]) (by decide +kernel) (by decide) (by decide) rfl (by first | decide | omega) (by first | decide | omega) (by first | decide | omega) rfl ?_
        refine x_goto (np := 42) (x := 5) (by decide +kernel) ?_
        exact i157 v173 (1 + v153) (by first | decide | omega) (by first | decide | omega) (by first | decide | omega)
      have q172 : ¬ (((h 87 (12 * u164 + u167))) ≠ a1) := q172
      refine x_const (np := 27) (x := 9223372043297226753) (a := 2147483649) (by decide +kernel) (by decide) (by decide) ?_
      refine x_iload (np := 29) (x := 4) (by decide +kernel) rfl (by first | decide | omega) ?_
      refine x_any (np := 30) (k9 := 3) (by decide +kernel) (by decide) (by decide) (by first | decide | omega) (fun v175 l176 => ?_)
      refine x_goto (np := 33) (x := 34) (by decide +kernel) ?_
      refine x_any (np := 35) (k9 := 1) (by decide +kernel) (by decide) (by first | decide | omega) l176 (fun v177 l178 => ?_)
      refine x_istore (np := 36) (x := 3) (lo' := [x_r 75, iv_c a1, iv_c a2, iv_c v177, iv_c v153]) (by decide +kernel) l178 (Nat.le_of_ble_eq_true rfl) rfl ?_
      refine x_iinc (np := 39) (i := 4) (j := 2147483649) (v := (1 + v153)) (lo' := [x_r 75, iv_c a1, iv_c a2, iv_c v177, iv_c (1 + v153)]) (by decide +kernel) (by decide) (by decide) rfl (by first | decide | omega) (by first | decide | omega) (by first | decide | omega) rfl ?_
      refine x_goto (np := 42) (x := 5) (by decide +kernel) ?_
      exact i157 v177 (1 + v153) (by first | decide | omega) (by first | decide | omega) (by first | decide | omega)
  exact p155 _ 2147483648 2147483648 (Nat.lt_succ_self _) (by first | decide | omega) (by first | decide | omega)
set_option maxHeartbeats 0 in
/-- LentNamesModel.names(II)I -/
theorem c214_75 {sc : Nat × Nat} {d a1 a2 : Nat} {h : xh} (hJ : J h) (ba1 : 0 ≤ a1 ∧ a1 ≤ 4294967295) (ba2 : 0 ≤ a2 ∧ a2 ≤ 4294967295) (hW : WT 76 h) : X sc 214 (d + 5) (xI fun r h' => J h' ∧ Fr 135291600897 h h' ∧ (0 ≤ r ∧ r ≤ 4294967295)) 0 0 0 [x_r 75, iv_c a1, iv_c a2] [] h := by
  have la1 : a1 < 4294967296 := by first | decide | omega
  have la2 : a2 < 4294967296 := by first | decide | omega
  have hF := Fr.refl 135291600897 h
  refine x_aload (np := 1) (x := 0) (by decide +kernel) rfl (x_nc_le (by decide)) ?_
  refine x_const (np := 2) (x := 9223372039002259456) (a := 2147483648) (by decide +kernel) (by decide) (by decide) ?_
  refine x_putI (np := 5) (x := 704) (f := 0) (by decide +kernel) (by decide +kernel) (by decide) (Or.inl (by decide)) ?_
  have j2 := jU (e := 0) (v := 2147483648) 0 hJ rg_75_0_0_1 (by first | decide | omega) (by first | decide | omega) (by first | decide | omega)
  have f4 := jF (e := 0) (v := 2147483648) 0 hF rg_75_0_0_1 (by first | decide | omega) (by first | decide | omega) (by decide)
  generalize e3 : x_up h 75 0 2147483648 = h1 at j2 f4 ⊢
  refine x_aload (np := 6) (x := 0) (by decide +kernel) rfl (x_nc_le (by decide)) ?_
  refine x_aload (np := 7) (x := 0) (by decide +kernel) rfl (x_nc_le (by decide)) ?_
  refine x_iload (np := 8) (x := 1) (by decide +kernel) rfl la1 ?_
  refine x_nI (t := 6) (mj := 159) (n := 2) (rc := 12) (ml := 2) (nr := 1) (np := 11) (as := [x_r 75, iv_c a1]) (rest := [x_r 75]) (lo1 := [x_r 75, iv_c a1]) (by decide +kernel) (by decide) (by decide +kernel) (x_rb_of (by decide +kernel)) rfl rfl (x_wr (by decide) (x_wi la1 x_wn)) (x_wr (by decide) x_wn) (by decide) rfl ?_
  refine x_aload (np := 1) (x := 0) (by decide +kernel) rfl (x_nc_le (by decide)) ?_
  refine x_iload (np := 2) (x := 1) (by decide +kernel) rfl la1 ?_
  refine x_const (np := 3) (x := 9223372039002259456) (a := 2147483648) (by decide +kernel) (by decide) (by decide) ?_
  refine x_nI (t := 6) (mj := 158) (n := 3) (rc := 12) (ml := 3) (nr := 0) (np := 6) (as := [x_r 75, iv_c a1, iv_c 2147483648]) (rest := []) (lo1 := [x_r 75, iv_c a1, iv_c 2147483648]) (by decide +kernel) (by decide) (by decide +kernel) (x_rb_of (by decide +kernel)) rfl rfl (x_wr (by decide) (x_wi la1 (x_wi (by decide) x_wn))) x_wn (by decide) rfl ?_
  refine x_iload (np := 1) (x := 1) (by decide +kernel) rfl la1 ?_
  refine x_const (np := 2) (x := 9223372039002259456) (a := 2147483648) (by decide +kernel) (by decide) (by decide) ?_
  refine x_aload (np := 3) (x := 0) (by decide +kernel) rfl (x_nc_le (by decide)) ?_
  have q5 : h1 75 1 = 76 := by have z := jB (e := 1) 0 j2 rg_75_1_0_1 (by decide) (by decide); omega
  refine x_getR (np := 6) (x := 705) (f := 1) (q := 76) (by decide +kernel) (by decide) (by decide +kernel) q5 ?_
  refine x_iload (np := 7) (x := 2) (by decide +kernel) rfl (by decide) ?_
  have q6 : h1 76 0 = h 76 0 := by rw [← e3]; exact x_up_k (by decide)
  have b7 := jB (e := 0) 0 hJ rg_76_0_0_1 (by first | decide | omega) (by first | decide | omega)
  refine x_aldC (np := 8) (x := 0) (n := 1952) (i := 0) (q := (h 76 0)) (by decide +kernel) (by decide +kernel) (by first | decide | omega) (by first | decide | omega) (by decide) q6 (fun l8 => ?_)
  refine x_const (np := 9) (x := 9223372043297226753) (a := 2147483649) (by decide +kernel) (by decide) (by decide) ?_
  obtain ⟨v9, q10⟩ : ∃ z, z + 2147483649 = (h 76 0) + 2147483648 := ⟨(h 76 0) + 2147483648 - 2147483649, by first | decide | omega⟩
  refine x_isub (np := 10) (x := 0) (v := v9) (by decide +kernel) l8 (by decide) (by first | decide | omega) (by first | decide | omega) ?_
  refine x_nI (t := 0) (mj := 153) (n := 3) (rc := 0) (ml := 3) (nr := 0) (np := 13) (as := [iv_c a1, iv_c 2147483648, iv_c v9]) (rest := []) (lo1 := [iv_c a1, iv_c 2147483648, iv_c v9]) (by decide +kernel) (by decide) (by decide +kernel) (Or.inl rfl) rfl rfl (x_wi la1 (x_wi (by decide) (x_wi (by first | decide | omega) x_wn))) x_wn (by decide) rfl ?_
  refine x_iload (np := 1) (x := 0) (by decide +kernel) rfl la1 ?_
  refine x_iload (np := 2) (x := 1) (by decide +kernel) rfl (by decide) ?_
  refine x_icmp (k := 2) (tg := 14) (np := 5) (by decide +kernel) (by decide) la1 (by decide) (fun q11 => ?_) (fun q12 => ?_)
  · have q11 : a1 < 2147483648 := q11
    refine x_const (np := 15) (x := 9223372039002259456) (a := 2147483648) (by decide +kernel) (by decide) (by decide) ?_
    refine x_retI (np := 16) (x := 0) (by decide +kernel) (by decide) (Or.inr ⟨by decide +kernel, by first | decide | omega, by first | decide | omega⟩) ⟨_, rfl, (by decide), ?_⟩
    refine x_ifz (k := 1) (tg := 20) (np := 16) (by decide +kernel) (by decide) (by decide) (fun q13 => ?_) (fun q14 => ?_)
    · have q13 : 2147483648 ≠ 2147483648 := q13
      exfalso; omega
    have q14 : ¬ (2147483648 ≠ 2147483648) := q14
    refine x_const (np := 17) (x := 9223372043297226753) (a := 2147483649) (by decide +kernel) (by decide) (by decide) ?_
    refine x_goto (np := 20) (x := 21) (by decide +kernel) ?_
    refine x_retI (np := 22) (x := 0) (by decide +kernel) (by decide) (Or.inr ⟨by decide +kernel, by first | decide | omega, by first | decide | omega⟩) ⟨_, rfl, (by decide), ?_⟩
    refine x_retI (np := 7) (x := 0) (by decide +kernel) (by decide) (Or.inr ⟨by decide +kernel, by first | decide | omega, by first | decide | omega⟩) ⟨_, rfl, (by decide), ?_⟩
    refine x_ifz (k := 1) (tg := 21) (np := 14) (by decide +kernel) (by decide) (by decide) (fun q15 => ?_) (fun q16 => ?_)
    · have q15 : 2147483649 ≠ 2147483648 := q15
      refine x_const (np := 22) (x := 9223372043297226753) (a := 2147483649) (by decide +kernel) (by decide) (by decide) ?_
      refine x_goto (np := 25) (x := 26) (by decide +kernel) ?_
      refine x_const (np := 27) (x := 9223372043297226753) (a := 2147483649) (by decide +kernel) (by decide) (by decide) ?_
      refine x_nI (t := 6) (mj := 152) (n := 3) (rc := 12) (ml := 3) (nr := 0) (np := 30) (as := [x_r 75, iv_c 2147483649, iv_c 2147483649]) (rest := []) (lo1 := [x_r 75, iv_c 2147483649, iv_c 2147483649]) (by decide +kernel) (by decide) (by decide +kernel) (x_rb_of (by decide +kernel)) rfl rfl (x_wr (by decide) (x_wi (by decide) (x_wi (by decide) x_wn))) x_wn (by decide) rfl ?_
      refine x_iload (np := 1) (x := 1) (by decide +kernel) rfl (by decide) ?_
      refine x_ifz (k := 0) (tg := 9) (np := 4) (by decide +kernel) (by decide) (by decide) (fun q17 => ?_) (fun q18 => ?_)
      · have q17 : 2147483649 = 2147483648 := q17
        exfalso; omega
      have q18 : ¬ (2147483649 = 2147483648) := q18
      refine x_aload (np := 5) (x := 0) (by decide +kernel) rfl (x_nc_le (by decide)) ?_
      refine x_iload (np := 6) (x := 2) (by decide +kernel) rfl (by decide) ?_
      refine x_putI (np := 9) (x := 704) (f := 0) (by decide +kernel) (by decide +kernel) (by decide) (Or.inl (by decide)) ?_
      have j20 := jU (e := 0) (v := 2147483649) 0 j2 rg_75_0_0_1 (by first | decide | omega) (by first | decide | omega) (by first | decide | omega)
      have f22 := jF (e := 0) (v := 2147483649) 0 f4 rg_75_0_0_1 (by first | decide | omega) (by first | decide | omega) (by decide)
      generalize e21 : x_up h1 75 0 2147483649 = h19 at j20 f22 ⊢
      refine x_iload (np := 10) (x := 1) (by decide +kernel) rfl (by decide) ?_
      refine x_retI (np := 11) (x := 0) (by decide +kernel) (by decide) (Or.inr ⟨by decide +kernel, by first | decide | omega, by first | decide | omega⟩) ⟨_, rfl, (by decide), ?_⟩
      refine x_ifz (k := 0) (tg := 35) (np := 33) (by decide +kernel) (by decide) (by decide) (fun q23 => ?_) (fun q24 => ?_)
      · have q23 : 2147483649 = 2147483648 := q23
        exfalso; omega
      have q24 : ¬ (2147483649 = 2147483648) := q24
      refine x_const (np := 34) (x := 9223372039002259456) (a := 2147483648) (by decide +kernel) (by decide) (by decide) ?_
      refine x_retI (np := 35) (x := 0) (by decide +kernel) (by decide) (Or.inl (by decide +kernel)) ⟨_, rfl, (by decide), ?_⟩
      exact ⟨j20, f22, (by first | decide | omega)⟩
    have q16 : ¬ (2147483649 ≠ 2147483648) := q16
    exfalso; omega
  have q12 : ¬ (a1 < 2147483648) := q12
  refine x_iload (np := 6) (x := 0) (by decide +kernel) rfl la1 ?_
  refine x_iload (np := 7) (x := 2) (by decide +kernel) rfl (by first | decide | omega) ?_
  refine x_icmp (k := 4) (tg := 14) (np := 10) (by decide +kernel) (by decide) la1 (by first | decide | omega) (fun q25 => ?_) (fun q26 => ?_)
  · have q25 : v9 < a1 := q25
    refine x_const (np := 15) (x := 9223372039002259456) (a := 2147483648) (by decide +kernel) (by decide) (by decide) ?_
    refine x_retI (np := 16) (x := 0) (by decide +kernel) (by decide) (Or.inr ⟨by decide +kernel, by first | decide | omega, by first | decide | omega⟩) ⟨_, rfl, (by decide), ?_⟩
    refine x_ifz (k := 1) (tg := 20) (np := 16) (by decide +kernel) (by decide) (by decide) (fun q27 => ?_) (fun q28 => ?_)
    · have q27 : 2147483648 ≠ 2147483648 := q27
      exfalso; omega
    have q28 : ¬ (2147483648 ≠ 2147483648) := q28
    refine x_const (np := 17) (x := 9223372043297226753) (a := 2147483649) (by decide +kernel) (by decide) (by decide) ?_
    refine x_goto (np := 20) (x := 21) (by decide +kernel) ?_
    refine x_retI (np := 22) (x := 0) (by decide +kernel) (by decide) (Or.inr ⟨by decide +kernel, by first | decide | omega, by first | decide | omega⟩) ⟨_, rfl, (by decide), ?_⟩
    refine x_retI (np := 7) (x := 0) (by decide +kernel) (by decide) (Or.inr ⟨by decide +kernel, by first | decide | omega, by first | decide | omega⟩) ⟨_, rfl, (by decide), ?_⟩
    refine x_ifz (k := 1) (tg := 21) (np := 14) (by decide +kernel) (by decide) (by decide) (fun q29 => ?_) (fun q30 => ?_)
    · have q29 : 2147483649 ≠ 2147483648 := q29
      refine x_const (np := 22) (x := 9223372043297226753) (a := 2147483649) (by decide +kernel) (by decide) (by decide) ?_
      refine x_goto (np := 25) (x := 26) (by decide +kernel) ?_
      refine x_const (np := 27) (x := 9223372043297226753) (a := 2147483649) (by decide +kernel) (by decide) (by decide) ?_
      refine x_nI (t := 6) (mj := 152) (n := 3) (rc := 12) (ml := 3) (nr := 0) (np := 30) (as := [x_r 75, iv_c 2147483649, iv_c 2147483649]) (rest := []) (lo1 := [x_r 75, iv_c 2147483649, iv_c 2147483649]) (by decide +kernel) (by decide) (by decide +kernel) (x_rb_of (by decide +kernel)) rfl rfl (x_wr (by decide) (x_wi (by decide) (x_wi (by decide) x_wn))) x_wn (by decide) rfl ?_
      refine x_iload (np := 1) (x := 1) (by decide +kernel) rfl (by decide) ?_
      refine x_ifz (k := 0) (tg := 9) (np := 4) (by decide +kernel) (by decide) (by decide) (fun q31 => ?_) (fun q32 => ?_)
      · have q31 : 2147483649 = 2147483648 := q31
        exfalso; omega
      have q32 : ¬ (2147483649 = 2147483648) := q32
      refine x_aload (np := 5) (x := 0) (by decide +kernel) rfl (x_nc_le (by decide)) ?_
      refine x_iload (np := 6) (x := 2) (by decide +kernel) rfl (by decide) ?_
      refine x_putI (np := 9) (x := 704) (f := 0) (by decide +kernel) (by decide +kernel) (by decide) (Or.inl (by decide)) ?_
      have j34 := jU (e := 0) (v := 2147483649) 0 j2 rg_75_0_0_1 (by first | decide | omega) (by first | decide | omega) (by first | decide | omega)
      have f36 := jF (e := 0) (v := 2147483649) 0 f4 rg_75_0_0_1 (by first | decide | omega) (by first | decide | omega) (by decide)
      generalize e35 : x_up h1 75 0 2147483649 = h33 at j34 f36 ⊢
      refine x_iload (np := 10) (x := 1) (by decide +kernel) rfl (by decide) ?_
      refine x_retI (np := 11) (x := 0) (by decide +kernel) (by decide) (Or.inr ⟨by decide +kernel, by first | decide | omega, by first | decide | omega⟩) ⟨_, rfl, (by decide), ?_⟩
      refine x_ifz (k := 0) (tg := 35) (np := 33) (by decide +kernel) (by decide) (by decide) (fun q37 => ?_) (fun q38 => ?_)
      · have q37 : 2147483649 = 2147483648 := q37
        exfalso; omega
      have q38 : ¬ (2147483649 = 2147483648) := q38
      refine x_const (np := 34) (x := 9223372039002259456) (a := 2147483648) (by decide +kernel) (by decide) (by decide) ?_
      refine x_retI (np := 35) (x := 0) (by decide +kernel) (by decide) (Or.inl (by decide +kernel)) ⟨_, rfl, (by decide), ?_⟩
      exact ⟨j34, f36, (by first | decide | omega)⟩
    have q30 : ¬ (2147483649 ≠ 2147483648) := q30
    exfalso; omega
  have q26 : ¬ (v9 < a1) := q26
  refine x_const (np := 11) (x := 9223372043297226753) (a := 2147483649) (by decide +kernel) (by decide) (by decide) ?_
  refine x_goto (np := 14) (x := 15) (by decide +kernel) ?_
  refine x_retI (np := 16) (x := 0) (by decide +kernel) (by decide) (Or.inr ⟨by decide +kernel, by first | decide | omega, by first | decide | omega⟩) ⟨_, rfl, (by decide), ?_⟩
  refine x_ifz (k := 1) (tg := 20) (np := 16) (by decide +kernel) (by decide) (by decide) (fun q39 => ?_) (fun q40 => ?_)
  · have q39 : 2147483649 ≠ 2147483648 := q39
    refine x_const (np := 21) (x := 9223372039002259456) (a := 2147483648) (by decide +kernel) (by decide) (by decide) ?_
    refine x_retI (np := 22) (x := 0) (by decide +kernel) (by decide) (Or.inr ⟨by decide +kernel, by first | decide | omega, by first | decide | omega⟩) ⟨_, rfl, (by decide), ?_⟩
    refine x_retI (np := 7) (x := 0) (by decide +kernel) (by decide) (Or.inr ⟨by decide +kernel, by first | decide | omega, by first | decide | omega⟩) ⟨_, rfl, (by decide), ?_⟩
    refine x_ifz (k := 1) (tg := 21) (np := 14) (by decide +kernel) (by decide) (by decide) (fun q41 => ?_) (fun q42 => ?_)
    · have q41 : 2147483648 ≠ 2147483648 := q41
      exfalso; omega
    have q42 : ¬ (2147483648 ≠ 2147483648) := q42
    refine x_iload (np := 15) (x := 2) (by decide +kernel) rfl la2 ?_
    refine x_nI (t := 0) (mj := 160) (n := 1) (rc := 0) (ml := 1) (nr := 1) (np := 18) (as := [iv_c a2]) (rest := [x_r 75]) (lo1 := [iv_c a2]) (by decide +kernel) (by decide) (by decide +kernel) (Or.inl rfl) rfl rfl (x_wi la2 x_wn) (x_wr (by decide) x_wn) (by decide) rfl ?_
    refine x_iload (np := 1) (x := 0) (by decide +kernel) rfl la2 ?_
    refine x_const (np := 2) (x := 9223372039002259456) (a := 2147483648) (by decide +kernel) (by decide) (by decide) ?_
    refine x_const (np := 4) (x := 9223372086246899723) (a := 2147483659) (by decide +kernel) (by decide) (by decide) ?_
    refine x_nI (t := 0) (mj := 153) (n := 3) (rc := 0) (ml := 3) (nr := 0) (np := 7) (as := [iv_c a2, iv_c 2147483648, iv_c 2147483659]) (rest := []) (lo1 := [iv_c a2, iv_c 2147483648, iv_c 2147483659]) (by decide +kernel) (by decide) (by decide +kernel) (Or.inl rfl) rfl rfl (x_wi la2 (x_wi (by decide) (x_wi (by decide) x_wn))) x_wn (by decide) rfl ?_
    refine x_iload (np := 1) (x := 0) (by decide +kernel) rfl la2 ?_
    refine x_iload (np := 2) (x := 1) (by decide +kernel) rfl (by decide) ?_
    refine x_icmp (k := 2) (tg := 14) (np := 5) (by decide +kernel) (by decide) la2 (by decide) (fun q43 => ?_) (fun q44 => ?_)
    · have q43 : a2 < 2147483648 := q43
      refine x_const (np := 15) (x := 9223372039002259456) (a := 2147483648) (by decide +kernel) (by decide) (by decide) ?_
      refine x_retI (np := 16) (x := 0) (by decide +kernel) (by decide) (Or.inr ⟨by decide +kernel, by first | decide | omega, by first | decide | omega⟩) ⟨_, rfl, (by decide), ?_⟩
      refine x_ifz (k := 1) (tg := 14) (np := 10) (by decide +kernel) (by decide) (by decide) (fun q45 => ?_) (fun q46 => ?_)
      · have q45 : 2147483648 ≠ 2147483648 := q45
        exfalso; omega
      have q46 : ¬ (2147483648 ≠ 2147483648) := q46
      refine x_const (np := 11) (x := 9223372043297226753) (a := 2147483649) (by decide +kernel) (by decide) (by decide) ?_
      refine x_goto (np := 14) (x := 15) (by decide +kernel) ?_
      refine x_retI (np := 16) (x := 0) (by decide +kernel) (by decide) (Or.inr ⟨by decide +kernel, by first | decide | omega, by first | decide | omega⟩) ⟨_, rfl, (by decide), ?_⟩
      refine x_ifz (k := 0) (tg := 25) (np := 21) (by decide +kernel) (by decide) (by decide) (fun q47 => ?_) (fun q48 => ?_)
      · have q47 : 2147483649 = 2147483648 := q47
        exfalso; omega
      have q48 : ¬ (2147483649 = 2147483648) := q48
      refine x_const (np := 22) (x := 9223372043297226753) (a := 2147483649) (by decide +kernel) (by decide) (by decide) ?_
      refine x_goto (np := 25) (x := 26) (by decide +kernel) ?_
      refine x_const (np := 27) (x := 9223372043297226753) (a := 2147483649) (by decide +kernel) (by decide) (by decide) ?_
      refine x_nI (t := 6) (mj := 152) (n := 3) (rc := 12) (ml := 3) (nr := 0) (np := 30) (as := [x_r 75, iv_c 2147483649, iv_c 2147483649]) (rest := []) (lo1 := [x_r 75, iv_c 2147483649, iv_c 2147483649]) (by decide +kernel) (by decide) (by decide +kernel) (x_rb_of (by decide +kernel)) rfl rfl (x_wr (by decide) (x_wi (by decide) (x_wi (by decide) x_wn))) x_wn (by decide) rfl ?_
      refine x_iload (np := 1) (x := 1) (by decide +kernel) rfl (by decide) ?_
      refine x_ifz (k := 0) (tg := 9) (np := 4) (by decide +kernel) (by decide) (by decide) (fun q49 => ?_) (fun q50 => ?_)
      · have q49 : 2147483649 = 2147483648 := q49
        exfalso; omega
      have q50 : ¬ (2147483649 = 2147483648) := q50
      refine x_aload (np := 5) (x := 0) (by decide +kernel) rfl (x_nc_le (by decide)) ?_
      refine x_iload (np := 6) (x := 2) (by decide +kernel) rfl (by decide) ?_
      refine x_putI (np := 9) (x := 704) (f := 0) (by decide +kernel) (by decide +kernel) (by decide) (Or.inl (by decide)) ?_
      have j52 := jU (e := 0) (v := 2147483649) 0 j2 rg_75_0_0_1 (by first | decide | omega) (by first | decide | omega) (by first | decide | omega)
      have f54 := jF (e := 0) (v := 2147483649) 0 f4 rg_75_0_0_1 (by first | decide | omega) (by first | decide | omega) (by decide)
      generalize e53 : x_up h1 75 0 2147483649 = h51 at j52 f54 ⊢
      refine x_iload (np := 10) (x := 1) (by decide +kernel) rfl (by decide) ?_
      refine x_retI (np := 11) (x := 0) (by decide +kernel) (by decide) (Or.inr ⟨by decide +kernel, by first | decide | omega, by first | decide | omega⟩) ⟨_, rfl, (by decide), ?_⟩
      refine x_ifz (k := 0) (tg := 35) (np := 33) (by decide +kernel) (by decide) (by decide) (fun q55 => ?_) (fun q56 => ?_)
      · have q55 : 2147483649 = 2147483648 := q55
        exfalso; omega
      have q56 : ¬ (2147483649 = 2147483648) := q56
      refine x_const (np := 34) (x := 9223372039002259456) (a := 2147483648) (by decide +kernel) (by decide) (by decide) ?_
      refine x_retI (np := 35) (x := 0) (by decide +kernel) (by decide) (Or.inl (by decide +kernel)) ⟨_, rfl, (by decide), ?_⟩
      exact ⟨j52, f54, (by first | decide | omega)⟩
    have q44 : ¬ (a2 < 2147483648) := q44
    refine x_iload (np := 6) (x := 0) (by decide +kernel) rfl la2 ?_
    refine x_iload (np := 7) (x := 2) (by decide +kernel) rfl (by decide) ?_
    refine x_icmp (k := 4) (tg := 14) (np := 10) (by decide +kernel) (by decide) la2 (by decide) (fun q57 => ?_) (fun q58 => ?_)
    · have q57 : 2147483659 < a2 := q57
      refine x_const (np := 15) (x := 9223372039002259456) (a := 2147483648) (by decide +kernel) (by decide) (by decide) ?_
      refine x_retI (np := 16) (x := 0) (by decide +kernel) (by decide) (Or.inr ⟨by decide +kernel, by first | decide | omega, by first | decide | omega⟩) ⟨_, rfl, (by decide), ?_⟩
      refine x_ifz (k := 1) (tg := 14) (np := 10) (by decide +kernel) (by decide) (by decide) (fun q59 => ?_) (fun q60 => ?_)
      · have q59 : 2147483648 ≠ 2147483648 := q59
        exfalso; omega
      have q60 : ¬ (2147483648 ≠ 2147483648) := q60
      refine x_const (np := 11) (x := 9223372043297226753) (a := 2147483649) (by decide +kernel) (by decide) (by decide) ?_
      refine x_goto (np := 14) (x := 15) (by decide +kernel) ?_
      refine x_retI (np := 16) (x := 0) (by decide +kernel) (by decide) (Or.inr ⟨by decide +kernel, by first | decide | omega, by first | decide | omega⟩) ⟨_, rfl, (by decide), ?_⟩
      refine x_ifz (k := 0) (tg := 25) (np := 21) (by decide +kernel) (by decide) (by decide) (fun q61 => ?_) (fun q62 => ?_)
      · have q61 : 2147483649 = 2147483648 := q61
        exfalso; omega
      have q62 : ¬ (2147483649 = 2147483648) := q62
      refine x_const (np := 22) (x := 9223372043297226753) (a := 2147483649) (by decide +kernel) (by decide) (by decide) ?_
      refine x_goto (np := 25) (x := 26) (by decide +kernel) ?_
      refine x_const (np := 27) (x := 9223372043297226753) (a := 2147483649) (by decide +kernel) (by decide) (by decide) ?_
      refine x_nI (t := 6) (mj := 152) (n := 3) (rc := 12) (ml := 3) (nr := 0) (np := 30) (as := [x_r 75, iv_c 2147483649, iv_c 2147483649]) (rest := []) (lo1 := [x_r 75, iv_c 2147483649, iv_c 2147483649]) (by decide +kernel) (by decide) (by decide +kernel) (x_rb_of (by decide +kernel)) rfl rfl (x_wr (by decide) (x_wi (by decide) (x_wi (by decide) x_wn))) x_wn (by decide) rfl ?_
      refine x_iload (np := 1) (x := 1) (by decide +kernel) rfl (by decide) ?_
      refine x_ifz (k := 0) (tg := 9) (np := 4) (by decide +kernel) (by decide) (by decide) (fun q63 => ?_) (fun q64 => ?_)
      · have q63 : 2147483649 = 2147483648 := q63
        exfalso; omega
      have q64 : ¬ (2147483649 = 2147483648) := q64
      refine x_aload (np := 5) (x := 0) (by decide +kernel) rfl (x_nc_le (by decide)) ?_
      refine x_iload (np := 6) (x := 2) (by decide +kernel) rfl (by decide) ?_
      refine x_putI (np := 9) (x := 704) (f := 0) (by decide +kernel) (by decide +kernel) (by decide) (Or.inl (by decide)) ?_
      have j66 := jU (e := 0) (v := 2147483649) 0 j2 rg_75_0_0_1 (by first | decide | omega) (by first | decide | omega) (by first | decide | omega)
      have f68 := jF (e := 0) (v := 2147483649) 0 f4 rg_75_0_0_1 (by first | decide | omega) (by first | decide | omega) (by decide)
      generalize e67 : x_up h1 75 0 2147483649 = h65 at j66 f68 ⊢
      refine x_iload (np := 10) (x := 1) (by decide +kernel) rfl (by decide) ?_
      refine x_retI (np := 11) (x := 0) (by decide +kernel) (by decide) (Or.inr ⟨by decide +kernel, by first | decide | omega, by first | decide | omega⟩) ⟨_, rfl, (by decide), ?_⟩
      refine x_ifz (k := 0) (tg := 35) (np := 33) (by decide +kernel) (by decide) (by decide) (fun q69 => ?_) (fun q70 => ?_)
      · have q69 : 2147483649 = 2147483648 := q69
        exfalso; omega
      have q70 : ¬ (2147483649 = 2147483648) := q70
      refine x_const (np := 34) (x := 9223372039002259456) (a := 2147483648) (by decide +kernel) (by decide) (by decide) ?_
      refine x_retI (np := 35) (x := 0) (by decide +kernel) (by decide) (Or.inl (by decide +kernel)) ⟨_, rfl, (by decide), ?_⟩
      exact ⟨j66, f68, (by first | decide | omega)⟩
    have q58 : ¬ (2147483659 < a2) := q58
    refine x_const (np := 11) (x := 9223372043297226753) (a := 2147483649) (by decide +kernel) (by decide) (by decide) ?_
    refine x_goto (np := 14) (x := 15) (by decide +kernel) ?_
    refine x_retI (np := 16) (x := 0) (by decide +kernel) (by decide) (Or.inr ⟨by decide +kernel, by first | decide | omega, by first | decide | omega⟩) ⟨_, rfl, (by decide), ?_⟩
    refine x_ifz (k := 1) (tg := 14) (np := 10) (by decide +kernel) (by decide) (by decide) (fun q71 => ?_) (fun q72 => ?_)
    · have q71 : 2147483649 ≠ 2147483648 := q71
      refine x_const (np := 15) (x := 9223372039002259456) (a := 2147483648) (by decide +kernel) (by decide) (by decide) ?_
      refine x_retI (np := 16) (x := 0) (by decide +kernel) (by decide) (Or.inr ⟨by decide +kernel, by first | decide | omega, by first | decide | omega⟩) ⟨_, rfl, (by decide), ?_⟩
      refine x_ifz (k := 0) (tg := 25) (np := 21) (by decide +kernel) (by decide) (by decide) (fun q73 => ?_) (fun q74 => ?_)
      · have q73 : 2147483648 = 2147483648 := q73
        refine x_const (np := 26) (x := 9223372039002259456) (a := 2147483648) (by decide +kernel) (by decide) (by decide) ?_
        refine x_const (np := 27) (x := 9223372043297226753) (a := 2147483649) (by decide +kernel) (by decide) (by decide) ?_
        refine x_nI (t := 6) (mj := 152) (n := 3) (rc := 12) (ml := 3) (nr := 0) (np := 30) (as := [x_r 75, iv_c 2147483648, iv_c 2147483649]) (rest := []) (lo1 := [x_r 75, iv_c 2147483648, iv_c 2147483649]) (by decide +kernel) (by decide) (by decide +kernel) (x_rb_of (by decide +kernel)) rfl rfl (x_wr (by decide) (x_wi (by decide) (x_wi (by decide) x_wn))) x_wn (by decide) rfl ?_
        refine x_iload (np := 1) (x := 1) (by decide +kernel) rfl (by decide) ?_
        refine x_ifz (k := 0) (tg := 9) (np := 4) (by decide +kernel) (by decide) (by decide) (fun q75 => ?_) (fun q76 => ?_)
        · have q75 : 2147483648 = 2147483648 := q75
          refine x_iload (np := 10) (x := 1) (by decide +kernel) rfl (by decide) ?_
          refine x_retI (np := 11) (x := 0) (by decide +kernel) (by decide) (Or.inr ⟨by decide +kernel, by first | decide | omega, by first | decide | omega⟩) ⟨_, rfl, (by decide), ?_⟩
          refine x_ifz (k := 0) (tg := 35) (np := 33) (by decide +kernel) (by decide) (by decide) (fun q77 => ?_) (fun q78 => ?_)
          · have q77 : 2147483648 = 2147483648 := q77
            refine x_aload (np := 36) (x := 0) (by decide +kernel) rfl (x_nc_le (by decide)) ?_
            have m82 : WT 76 h1 := by rw [← e3]; exact WT.oth hW hJ (by decide)
            refine x_cV (t := 6) (mj := 210) (n := 1) (rc := 12) (ml := 5) (nr := 0) (np := 39) (as := [x_r 75]) (rest := []) (lo1 := [x_r 75, 147573952589676412928, 147573952589676412928, 147573952589676412928, 147573952589676412928]) (by decide +kernel) (by decide) (by decide +kernel) (x_rb_of (by decide +kernel)) rfl rfl (x_wr (by decide) x_wn) x_wn (by decide) rfl (c210_75 j2  m82) (fun h83 q81 => ?_)
            obtain ⟨j84, f85⟩ := q81
            have f88 := Fr.trans f4 f85 (by decide)
            refine x_aload (np := 40) (x := 0) (by decide +kernel) rfl (x_nc_le (by decide)) ?_
            refine x_iload (np := 41) (x := 1) (by decide +kernel) rfl la1 ?_
            refine x_iload (np := 42) (x := 2) (by decide +kernel) rfl la2 ?_
            refine x_cP (t := 6) (mj := 213) (n := 3) (rc := 12) (ml := 5) (nr := 0) (np := 45) (as := [x_r 75, iv_c a1, iv_c a2]) (rest := []) (lo1 := [x_r 75, iv_c a1, iv_c a2, 147573952589676412928, 147573952589676412928]) (by decide +kernel) (by decide) (by decide +kernel) (x_rb_of (by decide +kernel)) rfl rfl (x_wr (by decide) (x_wi la1 (x_wi la2 x_wn))) x_wn (by decide) rfl (c213_75 j84  (by first | decide | omega) (by first | decide | omega)) (fun v89 l90 q91 => ?_)
            refine x_retI (np := 46) (x := 0) (by decide +kernel) l90 (Or.inl (by decide +kernel)) ⟨_, rfl, l90, ?_⟩
            exact ⟨j84, f88, (by first | decide | omega)⟩
          have q78 : ¬ (2147483648 = 2147483648) := q78
          exfalso; omega
        have q76 : ¬ (2147483648 = 2147483648) := q76
        exfalso; omega
      have q74 : ¬ (2147483648 = 2147483648) := q74
      exfalso; omega
    have q72 : ¬ (2147483649 ≠ 2147483648) := q72
    exfalso; omega
  have q40 : ¬ (2147483649 ≠ 2147483648) := q40
  exfalso; omega
set_option maxHeartbeats 0 in
/-- LentNamesModel.how(II)I -/
theorem c215_75 {sc : Nat × Nat} {d a1 a2 : Nat} {h : xh} (hJ : J h) (ba1 : 0 ≤ a1 ∧ a1 ≤ 4294967295) (ba2 : 0 ≤ a2 ∧ a2 ≤ 4294967295) (hW : WT 76 h) : X sc 215 (d + 5) (xI fun r h' => J h' ∧ Fr 135291600897 h h' ∧ (2147483648 ≤ r ∧ r ≤ 2147483651)) 0 0 0 [x_r 75, iv_c a1, iv_c a2, 147573952589676412928, 147573952589676412928, 147573952589676412928] [] h := by
  have la1 : a1 < 4294967296 := by first | decide | omega
  have la2 : a2 < 4294967296 := by first | decide | omega
  have hF := Fr.refl 135291600897 h
  refine x_aload (np := 1) (x := 0) (by decide +kernel) rfl (x_nc_le (by decide)) ?_
  refine x_const (np := 2) (x := 9223372039002259456) (a := 2147483648) (by decide +kernel) (by decide) (by decide) ?_
  refine x_putI (np := 5) (x := 704) (f := 0) (by decide +kernel) (by decide +kernel) (by decide) (Or.inl (by decide)) ?_
  have j2 := jU (e := 0) (v := 2147483648) 0 hJ rg_75_0_0_1 (by first | decide | omega) (by first | decide | omega) (by first | decide | omega)
  have f4 := jF (e := 0) (v := 2147483648) 0 hF rg_75_0_0_1 (by first | decide | omega) (by first | decide | omega) (by decide)
  generalize e3 : x_up h 75 0 2147483648 = h1 at j2 f4 ⊢
  refine x_aload (np := 6) (x := 0) (by decide +kernel) rfl (x_nc_le (by decide)) ?_
  refine x_aload (np := 7) (x := 0) (by decide +kernel) rfl (x_nc_le (by decide)) ?_
  refine x_iload (np := 8) (x := 1) (by decide +kernel) rfl la1 ?_
  refine x_nI (t := 6) (mj := 159) (n := 2) (rc := 12) (ml := 2) (nr := 1) (np := 11) (as := [x_r 75, iv_c a1]) (rest := [x_r 75]) (lo1 := [x_r 75, iv_c a1]) (by decide +kernel) (by decide) (by decide +kernel) (x_rb_of (by decide +kernel)) rfl rfl (x_wr (by decide) (x_wi la1 x_wn)) (x_wr (by decide) x_wn) (by decide) rfl ?_
  refine x_aload (np := 1) (x := 0) (by decide +kernel) rfl (x_nc_le (by decide)) ?_
  refine x_iload (np := 2) (x := 1) (by decide +kernel) rfl la1 ?_
  refine x_const (np := 3) (x := 9223372039002259456) (a := 2147483648) (by decide +kernel) (by decide) (by decide) ?_
  refine x_nI (t := 6) (mj := 158) (n := 3) (rc := 12) (ml := 3) (nr := 0) (np := 6) (as := [x_r 75, iv_c a1, iv_c 2147483648]) (rest := []) (lo1 := [x_r 75, iv_c a1, iv_c 2147483648]) (by decide +kernel) (by decide) (by decide +kernel) (x_rb_of (by decide +kernel)) rfl rfl (x_wr (by decide) (x_wi la1 (x_wi (by decide) x_wn))) x_wn (by decide) rfl ?_
  refine x_iload (np := 1) (x := 1) (by decide +kernel) rfl la1 ?_
  refine x_const (np := 2) (x := 9223372039002259456) (a := 2147483648) (by decide +kernel) (by decide) (by decide) ?_
  refine x_aload (np := 3) (x := 0) (by decide +kernel) rfl (x_nc_le (by decide)) ?_
  have q5 : h1 75 1 = 76 := by have z := jB (e := 1) 0 j2 rg_75_1_0_1 (by decide) (by decide); omega
  refine x_getR (np := 6) (x := 705) (f := 1) (q := 76) (by decide +kernel) (by decide) (by decide +kernel) q5 ?_
  refine x_iload (np := 7) (x := 2) (by decide +kernel) rfl (by decide) ?_
  have q6 : h1 76 0 = h 76 0 := by rw [← e3]; exact x_up_k (by decide)
  have b7 := jB (e := 0) 0 hJ rg_76_0_0_1 (by first | decide | omega) (by first | decide | omega)
  refine x_aldC (np := 8) (x := 0) (n := 1952) (i := 0) (q := (h 76 0)) (by decide +kernel) (by decide +kernel) (by first | decide | omega) (by first | decide | omega) (by decide) q6 (fun l8 => ?_)
  refine x_const (np := 9) (x := 9223372043297226753) (a := 2147483649) (by decide +kernel) (by decide) (by decide) ?_
  obtain ⟨v9, q10⟩ : ∃ z, z + 2147483649 = (h 76 0) + 2147483648 := ⟨(h 76 0) + 2147483648 - 2147483649, by first | decide | omega⟩
  refine x_isub (np := 10) (x := 0) (v := v9) (by decide +kernel) l8 (by decide) (by first | decide | omega) (by first | decide | omega) ?_
  refine x_nI (t := 0) (mj := 153) (n := 3) (rc := 0) (ml := 3) (nr := 0) (np := 13) (as := [iv_c a1, iv_c 2147483648, iv_c v9]) (rest := []) (lo1 := [iv_c a1, iv_c 2147483648, iv_c v9]) (by decide +kernel) (by decide) (by decide +kernel) (Or.inl rfl) rfl rfl (x_wi la1 (x_wi (by decide) (x_wi (by first | decide | omega) x_wn))) x_wn (by decide) rfl ?_
  refine x_iload (np := 1) (x := 0) (by decide +kernel) rfl la1 ?_
  refine x_iload (np := 2) (x := 1) (by decide +kernel) rfl (by decide) ?_
  refine x_icmp (k := 2) (tg := 14) (np := 5) (by decide +kernel) (by decide) la1 (by decide) (fun q11 => ?_) (fun q12 => ?_)
  · have q11 : a1 < 2147483648 := q11
    refine x_const (np := 15) (x := 9223372039002259456) (a := 2147483648) (by decide +kernel) (by decide) (by decide) ?_
    refine x_retI (np := 16) (x := 0) (by decide +kernel) (by decide) (Or.inr ⟨by decide +kernel, by first | decide | omega, by first | decide | omega⟩) ⟨_, rfl, (by decide), ?_⟩
    refine x_ifz (k := 1) (tg := 20) (np := 16) (by decide +kernel) (by decide) (by decide) (fun q13 => ?_) (fun q14 => ?_)
    · have q13 : 2147483648 ≠ 2147483648 := q13
      exfalso; omega
    have q14 : ¬ (2147483648 ≠ 2147483648) := q14
    refine x_const (np := 17) (x := 9223372043297226753) (a := 2147483649) (by decide +kernel) (by decide) (by decide) ?_
    refine x_goto (np := 20) (x := 21) (by decide +kernel) ?_
    refine x_retI (np := 22) (x := 0) (by decide +kernel) (by decide) (Or.inr ⟨by decide +kernel, by first | decide | omega, by first | decide | omega⟩) ⟨_, rfl, (by decide), ?_⟩
    refine x_retI (np := 7) (x := 0) (by decide +kernel) (by decide) (Or.inr ⟨by decide +kernel, by first | decide | omega, by first | decide | omega⟩) ⟨_, rfl, (by decide), ?_⟩
    refine x_ifz (k := 1) (tg := 21) (np := 14) (by decide +kernel) (by decide) (by decide) (fun q15 => ?_) (fun q16 => ?_)
    · have q15 : 2147483649 ≠ 2147483648 := q15
      refine x_const (np := 22) (x := 9223372043297226753) (a := 2147483649) (by decide +kernel) (by decide) (by decide) ?_
      refine x_goto (np := 25) (x := 26) (by decide +kernel) ?_
      refine x_const (np := 27) (x := 9223372043297226753) (a := 2147483649) (by decide +kernel) (by decide) (by decide) ?_
      refine x_nI (t := 6) (mj := 152) (n := 3) (rc := 12) (ml := 3) (nr := 0) (np := 30) (as := [x_r 75, iv_c 2147483649, iv_c 2147483649]) (rest := []) (lo1 := [x_r 75, iv_c 2147483649, iv_c 2147483649]) (by decide +kernel) (by decide) (by decide +kernel) (x_rb_of (by decide +kernel)) rfl rfl (x_wr (by decide) (x_wi (by decide) (x_wi (by decide) x_wn))) x_wn (by decide) rfl ?_
      refine x_iload (np := 1) (x := 1) (by decide +kernel) rfl (by decide) ?_
      refine x_ifz (k := 0) (tg := 9) (np := 4) (by decide +kernel) (by decide) (by decide) (fun q17 => ?_) (fun q18 => ?_)
      · have q17 : 2147483649 = 2147483648 := q17
        exfalso; omega
      have q18 : ¬ (2147483649 = 2147483648) := q18
      refine x_aload (np := 5) (x := 0) (by decide +kernel) rfl (x_nc_le (by decide)) ?_
      refine x_iload (np := 6) (x := 2) (by decide +kernel) rfl (by decide) ?_
      refine x_putI (np := 9) (x := 704) (f := 0) (by decide +kernel) (by decide +kernel) (by decide) (Or.inl (by decide)) ?_
      have j20 := jU (e := 0) (v := 2147483649) 0 j2 rg_75_0_0_1 (by first | decide | omega) (by first | decide | omega) (by first | decide | omega)
      have f22 := jF (e := 0) (v := 2147483649) 0 f4 rg_75_0_0_1 (by first | decide | omega) (by first | decide | omega) (by decide)
      generalize e21 : x_up h1 75 0 2147483649 = h19 at j20 f22 ⊢
      refine x_iload (np := 10) (x := 1) (by decide +kernel) rfl (by decide) ?_
      refine x_retI (np := 11) (x := 0) (by decide +kernel) (by decide) (Or.inr ⟨by decide +kernel, by first | decide | omega, by first | decide | omega⟩) ⟨_, rfl, (by decide), ?_⟩
      refine x_ifz (k := 0) (tg := 35) (np := 33) (by decide +kernel) (by decide) (by decide) (fun q23 => ?_) (fun q24 => ?_)
      · have q23 : 2147483649 = 2147483648 := q23
        exfalso; omega
      have q24 : ¬ (2147483649 = 2147483648) := q24
      refine x_const (np := 34) (x := 9223372039002259456) (a := 2147483648) (by decide +kernel) (by decide) (by decide) ?_
      refine x_retI (np := 35) (x := 0) (by decide +kernel) (by decide) (Or.inl (by decide +kernel)) ⟨_, rfl, (by decide), ?_⟩
      exact ⟨j20, f22, (by first | decide | omega)⟩
    have q16 : ¬ (2147483649 ≠ 2147483648) := q16
    exfalso; omega
  have q12 : ¬ (a1 < 2147483648) := q12
  refine x_iload (np := 6) (x := 0) (by decide +kernel) rfl la1 ?_
  refine x_iload (np := 7) (x := 2) (by decide +kernel) rfl (by first | decide | omega) ?_
  refine x_icmp (k := 4) (tg := 14) (np := 10) (by decide +kernel) (by decide) la1 (by first | decide | omega) (fun q25 => ?_) (fun q26 => ?_)
  · have q25 : v9 < a1 := q25
    refine x_const (np := 15) (x := 9223372039002259456) (a := 2147483648) (by decide +kernel) (by decide) (by decide) ?_
    refine x_retI (np := 16) (x := 0) (by decide +kernel) (by decide) (Or.inr ⟨by decide +kernel, by first | decide | omega, by first | decide | omega⟩) ⟨_, rfl, (by decide), ?_⟩
    refine x_ifz (k := 1) (tg := 20) (np := 16) (by decide +kernel) (by decide) (by decide) (fun q27 => ?_) (fun q28 => ?_)
    · have q27 : 2147483648 ≠ 2147483648 := q27
      exfalso; omega
    have q28 : ¬ (2147483648 ≠ 2147483648) := q28
    refine x_const (np := 17) (x := 9223372043297226753) (a := 2147483649) (by decide +kernel) (by decide) (by decide) ?_
    refine x_goto (np := 20) (x := 21) (by decide +kernel) ?_
    refine x_retI (np := 22) (x := 0) (by decide +kernel) (by decide) (Or.inr ⟨by decide +kernel, by first | decide | omega, by first | decide | omega⟩) ⟨_, rfl, (by decide), ?_⟩
    refine x_retI (np := 7) (x := 0) (by decide +kernel) (by decide) (Or.inr ⟨by decide +kernel, by first | decide | omega, by first | decide | omega⟩) ⟨_, rfl, (by decide), ?_⟩
    refine x_ifz (k := 1) (tg := 21) (np := 14) (by decide +kernel) (by decide) (by decide) (fun q29 => ?_) (fun q30 => ?_)
    · have q29 : 2147483649 ≠ 2147483648 := q29
      refine x_const (np := 22) (x := 9223372043297226753) (a := 2147483649) (by decide +kernel) (by decide) (by decide) ?_
      refine x_goto (np := 25) (x := 26) (by decide +kernel) ?_
      refine x_const (np := 27) (x := 9223372043297226753) (a := 2147483649) (by decide +kernel) (by decide) (by decide) ?_
      refine x_nI (t := 6) (mj := 152) (n := 3) (rc := 12) (ml := 3) (nr := 0) (np := 30) (as := [x_r 75, iv_c 2147483649, iv_c 2147483649]) (rest := []) (lo1 := [x_r 75, iv_c 2147483649, iv_c 2147483649]) (by decide +kernel) (by decide) (by decide +kernel) (x_rb_of (by decide +kernel)) rfl rfl (x_wr (by decide) (x_wi (by decide) (x_wi (by decide) x_wn))) x_wn (by decide) rfl ?_
      refine x_iload (np := 1) (x := 1) (by decide +kernel) rfl (by decide) ?_
      refine x_ifz (k := 0) (tg := 9) (np := 4) (by decide +kernel) (by decide) (by decide) (fun q31 => ?_) (fun q32 => ?_)
      · have q31 : 2147483649 = 2147483648 := q31
        exfalso; omega
      have q32 : ¬ (2147483649 = 2147483648) := q32
      refine x_aload (np := 5) (x := 0) (by decide +kernel) rfl (x_nc_le (by decide)) ?_
      refine x_iload (np := 6) (x := 2) (by decide +kernel) rfl (by decide) ?_
      refine x_putI (np := 9) (x := 704) (f := 0) (by decide +kernel) (by decide +kernel) (by decide) (Or.inl (by decide)) ?_
      have j34 := jU (e := 0) (v := 2147483649) 0 j2 rg_75_0_0_1 (by first | decide | omega) (by first | decide | omega) (by first | decide | omega)
      have f36 := jF (e := 0) (v := 2147483649) 0 f4 rg_75_0_0_1 (by first | decide | omega) (by first | decide | omega) (by decide)
      generalize e35 : x_up h1 75 0 2147483649 = h33 at j34 f36 ⊢
      refine x_iload (np := 10) (x := 1) (by decide +kernel) rfl (by decide) ?_
      refine x_retI (np := 11) (x := 0) (by decide +kernel) (by decide) (Or.inr ⟨by decide +kernel, by first | decide | omega, by first | decide | omega⟩) ⟨_, rfl, (by decide), ?_⟩
      refine x_ifz (k := 0) (tg := 35) (np := 33) (by decide +kernel) (by decide) (by decide) (fun q37 => ?_) (fun q38 => ?_)
      · have q37 : 2147483649 = 2147483648 := q37
        exfalso; omega
      have q38 : ¬ (2147483649 = 2147483648) := q38
      refine x_const (np := 34) (x := 9223372039002259456) (a := 2147483648) (by decide +kernel) (by decide) (by decide) ?_
      refine x_retI (np := 35) (x := 0) (by decide +kernel) (by decide) (Or.inl (by decide +kernel)) ⟨_, rfl, (by decide), ?_⟩
      exact ⟨j34, f36, (by first | decide | omega)⟩
    have q30 : ¬ (2147483649 ≠ 2147483648) := q30
    exfalso; omega
  have q26 : ¬ (v9 < a1) := q26
  refine x_const (np := 11) (x := 9223372043297226753) (a := 2147483649) (by decide +kernel) (by decide) (by decide) ?_
  refine x_goto (np := 14) (x := 15) (by decide +kernel) ?_
  refine x_retI (np := 16) (x := 0) (by decide +kernel) (by decide) (Or.inr ⟨by decide +kernel, by first | decide | omega, by first | decide | omega⟩) ⟨_, rfl, (by decide), ?_⟩
  refine x_ifz (k := 1) (tg := 20) (np := 16) (by decide +kernel) (by decide) (by decide) (fun q39 => ?_) (fun q40 => ?_)
  · have q39 : 2147483649 ≠ 2147483648 := q39
    refine x_const (np := 21) (x := 9223372039002259456) (a := 2147483648) (by decide +kernel) (by decide) (by decide) ?_
    refine x_retI (np := 22) (x := 0) (by decide +kernel) (by decide) (Or.inr ⟨by decide +kernel, by first | decide | omega, by first | decide | omega⟩) ⟨_, rfl, (by decide), ?_⟩
    refine x_retI (np := 7) (x := 0) (by decide +kernel) (by decide) (Or.inr ⟨by decide +kernel, by first | decide | omega, by first | decide | omega⟩) ⟨_, rfl, (by decide), ?_⟩
    refine x_ifz (k := 1) (tg := 21) (np := 14) (by decide +kernel) (by decide) (by decide) (fun q41 => ?_) (fun q42 => ?_)
    · have q41 : 2147483648 ≠ 2147483648 := q41
      exfalso; omega
    have q42 : ¬ (2147483648 ≠ 2147483648) := q42
    refine x_iload (np := 15) (x := 2) (by decide +kernel) rfl la2 ?_
    refine x_nI (t := 0) (mj := 160) (n := 1) (rc := 0) (ml := 1) (nr := 1) (np := 18) (as := [iv_c a2]) (rest := [x_r 75]) (lo1 := [iv_c a2]) (by decide +kernel) (by decide) (by decide +kernel) (Or.inl rfl) rfl rfl (x_wi la2 x_wn) (x_wr (by decide) x_wn) (by decide) rfl ?_
    refine x_iload (np := 1) (x := 0) (by decide +kernel) rfl la2 ?_
    refine x_const (np := 2) (x := 9223372039002259456) (a := 2147483648) (by decide +kernel) (by decide) (by decide) ?_
    refine x_const (np := 4) (x := 9223372086246899723) (a := 2147483659) (by decide +kernel) (by decide) (by decide) ?_
    refine x_nI (t := 0) (mj := 153) (n := 3) (rc := 0) (ml := 3) (nr := 0) (np := 7) (as := [iv_c a2, iv_c 2147483648, iv_c 2147483659]) (rest := []) (lo1 := [iv_c a2, iv_c 2147483648, iv_c 2147483659]) (by decide +kernel) (by decide) (by decide +kernel) (Or.inl rfl) rfl rfl (x_wi la2 (x_wi (by decide) (x_wi (by decide) x_wn))) x_wn (by decide) rfl ?_
    refine x_iload (np := 1) (x := 0) (by decide +kernel) rfl la2 ?_
    refine x_iload (np := 2) (x := 1) (by decide +kernel) rfl (by decide) ?_
    refine x_icmp (k := 2) (tg := 14) (np := 5) (by decide +kernel) (by decide) la2 (by decide) (fun q43 => ?_) (fun q44 => ?_)
    · have q43 : a2 < 2147483648 := q43
      refine x_const (np := 15) (x := 9223372039002259456) (a := 2147483648) (by decide +kernel) (by decide) (by decide) ?_
      refine x_retI (np := 16) (x := 0) (by decide +kernel) (by decide) (Or.inr ⟨by decide +kernel, by first | decide | omega, by first | decide | omega⟩) ⟨_, rfl, (by decide), ?_⟩
      refine x_ifz (k := 1) (tg := 14) (np := 10) (by decide +kernel) (by decide) (by decide) (fun q45 => ?_) (fun q46 => ?_)
      · have q45 : 2147483648 ≠ 2147483648 := q45
        exfalso; omega
      have q46 : ¬ (2147483648 ≠ 2147483648) := q46
      refine x_const (np := 11) (x := 9223372043297226753) (a := 2147483649) (by decide +kernel) (by decide) (by decide) ?_
      refine x_goto (np := 14) (x := 15) (by decide +kernel) ?_
      refine x_retI (np := 16) (x := 0) (by decide +kernel) (by decide) (Or.inr ⟨by decide +kernel, by first | decide | omega, by first | decide | omega⟩) ⟨_, rfl, (by decide), ?_⟩
      refine x_ifz (k := 0) (tg := 25) (np := 21) (by decide +kernel) (by decide) (by decide) (fun q47 => ?_) (fun q48 => ?_)
      · have q47 : 2147483649 = 2147483648 := q47
        exfalso; omega
      have q48 : ¬ (2147483649 = 2147483648) := q48
      refine x_const (np := 22) (x := 9223372043297226753) (a := 2147483649) (by decide +kernel) (by decide) (by decide) ?_
      refine x_goto (np := 25) (x := 26) (by decide +kernel) ?_
      refine x_const (np := 27) (x := 9223372043297226753) (a := 2147483649) (by decide +kernel) (by decide) (by decide) ?_
      refine x_nI (t := 6) (mj := 152) (n := 3) (rc := 12) (ml := 3) (nr := 0) (np := 30) (as := [x_r 75, iv_c 2147483649, iv_c 2147483649]) (rest := []) (lo1 := [x_r 75, iv_c 2147483649, iv_c 2147483649]) (by decide +kernel) (by decide) (by decide +kernel) (x_rb_of (by decide +kernel)) rfl rfl (x_wr (by decide) (x_wi (by decide) (x_wi (by decide) x_wn))) x_wn (by decide) rfl ?_
      refine x_iload (np := 1) (x := 1) (by decide +kernel) rfl (by decide) ?_
      refine x_ifz (k := 0) (tg := 9) (np := 4) (by decide +kernel) (by decide) (by decide) (fun q49 => ?_) (fun q50 => ?_)
      · have q49 : 2147483649 = 2147483648 := q49
        exfalso; omega
      have q50 : ¬ (2147483649 = 2147483648) := q50
      refine x_aload (np := 5) (x := 0) (by decide +kernel) rfl (x_nc_le (by decide)) ?_
      refine x_iload (np := 6) (x := 2) (by decide +kernel) rfl (by decide) ?_
      refine x_putI (np := 9) (x := 704) (f := 0) (by decide +kernel) (by decide +kernel) (by decide) (Or.inl (by decide)) ?_
      have j52 := jU (e := 0) (v := 2147483649) 0 j2 rg_75_0_0_1 (by first | decide | omega) (by first | decide | omega) (by first | decide | omega)
      have f54 := jF (e := 0) (v := 2147483649) 0 f4 rg_75_0_0_1 (by first | decide | omega) (by first | decide | omega) (by decide)
      generalize e53 : x_up h1 75 0 2147483649 = h51 at j52 f54 ⊢
      refine x_iload (np := 10) (x := 1) (by decide +kernel) rfl (by decide) ?_
      refine x_retI (np := 11) (x := 0) (by decide +kernel) (by decide) (Or.inr ⟨by decide +kernel, by first | decide | omega, by first | decide | omega⟩) ⟨_, rfl, (by decide), ?_⟩
      refine x_ifz (k := 0) (tg := 35) (np := 33) (by decide +kernel) (by decide) (by decide) (fun q55 => ?_) (fun q56 => ?_)
      · have q55 : 2147483649 = 2147483648 := q55
        exfalso; omega
      have q56 : ¬ (2147483649 = 2147483648) := q56
      refine x_const (np := 34) (x := 9223372039002259456) (a := 2147483648) (by decide +kernel) (by decide) (by decide) ?_
      refine x_retI (np := 35) (x := 0) (by decide +kernel) (by decide) (Or.inl (by decide +kernel)) ⟨_, rfl, (by decide), ?_⟩
      exact ⟨j52, f54, (by first | decide | omega)⟩
    have q44 : ¬ (a2 < 2147483648) := q44
    refine x_iload (np := 6) (x := 0) (by decide +kernel) rfl la2 ?_
    refine x_iload (np := 7) (x := 2) (by decide +kernel) rfl (by decide) ?_
    refine x_icmp (k := 4) (tg := 14) (np := 10) (by decide +kernel) (by decide) la2 (by decide) (fun q57 => ?_) (fun q58 => ?_)
    · have q57 : 2147483659 < a2 := q57
      refine x_const (np := 15) (x := 9223372039002259456) (a := 2147483648) (by decide +kernel) (by decide) (by decide) ?_
      refine x_retI (np := 16) (x := 0) (by decide +kernel) (by decide) (Or.inr ⟨by decide +kernel, by first | decide | omega, by first | decide | omega⟩) ⟨_, rfl, (by decide), ?_⟩
      refine x_ifz (k := 1) (tg := 14) (np := 10) (by decide +kernel) (by decide) (by decide) (fun q59 => ?_) (fun q60 => ?_)
      · have q59 : 2147483648 ≠ 2147483648 := q59
        exfalso; omega
      have q60 : ¬ (2147483648 ≠ 2147483648) := q60
      refine x_const (np := 11) (x := 9223372043297226753) (a := 2147483649) (by decide +kernel) (by decide) (by decide) ?_
      refine x_goto (np := 14) (x := 15) (by decide +kernel) ?_
      refine x_retI (np := 16) (x := 0) (by decide +kernel) (by decide) (Or.inr ⟨by decide +kernel, by first | decide | omega, by first | decide | omega⟩) ⟨_, rfl, (by decide), ?_⟩
      refine x_ifz (k := 0) (tg := 25) (np := 21) (by decide +kernel) (by decide) (by decide) (fun q61 => ?_) (fun q62 => ?_)
      · have q61 : 2147483649 = 2147483648 := q61
        exfalso; omega
      have q62 : ¬ (2147483649 = 2147483648) := q62
      refine x_const (np := 22) (x := 9223372043297226753) (a := 2147483649) (by decide +kernel) (by decide) (by decide) ?_
      refine x_goto (np := 25) (x := 26) (by decide +kernel) ?_
      refine x_const (np := 27) (x := 9223372043297226753) (a := 2147483649) (by decide +kernel) (by decide) (by decide) ?_
      refine x_nI (t := 6) (mj := 152) (n := 3) (rc := 12) (ml := 3) (nr := 0) (np := 30) (as := [x_r 75, iv_c 2147483649, iv_c 2147483649]) (rest := []) (lo1 := [x_r 75, iv_c 2147483649, iv_c 2147483649]) (by decide +kernel) (by decide) (by decide +kernel) (x_rb_of (by decide +kernel)) rfl rfl (x_wr (by decide) (x_wi (by decide) (x_wi (by decide) x_wn))) x_wn (by decide) rfl ?_
      refine x_iload (np := 1) (x := 1) (by decide +kernel) rfl (by decide) ?_
      refine x_ifz (k := 0) (tg := 9) (np := 4) (by decide +kernel) (by decide) (by decide) (fun q63 => ?_) (fun q64 => ?_)
      · have q63 : 2147483649 = 2147483648 := q63
        exfalso; omega
      have q64 : ¬ (2147483649 = 2147483648) := q64
      refine x_aload (np := 5) (x := 0) (by decide +kernel) rfl (x_nc_le (by decide)) ?_
      refine x_iload (np := 6) (x := 2) (by decide +kernel) rfl (by decide) ?_
      refine x_putI (np := 9) (x := 704) (f := 0) (by decide +kernel) (by decide +kernel) (by decide) (Or.inl (by decide)) ?_
      have j66 := jU (e := 0) (v := 2147483649) 0 j2 rg_75_0_0_1 (by first | decide | omega) (by first | decide | omega) (by first | decide | omega)
      have f68 := jF (e := 0) (v := 2147483649) 0 f4 rg_75_0_0_1 (by first | decide | omega) (by first | decide | omega) (by decide)
      generalize e67 : x_up h1 75 0 2147483649 = h65 at j66 f68 ⊢
      refine x_iload (np := 10) (x := 1) (by decide +kernel) rfl (by decide) ?_
      refine x_retI (np := 11) (x := 0) (by decide +kernel) (by decide) (Or.inr ⟨by decide +kernel, by first | decide | omega, by first | decide | omega⟩) ⟨_, rfl, (by decide), ?_⟩
      refine x_ifz (k := 0) (tg := 35) (np := 33) (by decide +kernel) (by decide) (by decide) (fun q69 => ?_) (fun q70 => ?_)
      · have q69 : 2147483649 = 2147483648 := q69
        exfalso; omega
      have q70 : ¬ (2147483649 = 2147483648) := q70
      refine x_const (np := 34) (x := 9223372039002259456) (a := 2147483648) (by decide +kernel) (by decide) (by decide) ?_
      refine x_retI (np := 35) (x := 0) (by decide +kernel) (by decide) (Or.inl (by decide +kernel)) ⟨_, rfl, (by decide), ?_⟩
      exact ⟨j66, f68, (by first | decide | omega)⟩
    have q58 : ¬ (2147483659 < a2) := q58
    refine x_const (np := 11) (x := 9223372043297226753) (a := 2147483649) (by decide +kernel) (by decide) (by decide) ?_
    refine x_goto (np := 14) (x := 15) (by decide +kernel) ?_
    refine x_retI (np := 16) (x := 0) (by decide +kernel) (by decide) (Or.inr ⟨by decide +kernel, by first | decide | omega, by first | decide | omega⟩) ⟨_, rfl, (by decide), ?_⟩
    refine x_ifz (k := 1) (tg := 14) (np := 10) (by decide +kernel) (by decide) (by decide) (fun q71 => ?_) (fun q72 => ?_)
    · have q71 : 2147483649 ≠ 2147483648 := q71
      refine x_const (np := 15) (x := 9223372039002259456) (a := 2147483648) (by decide +kernel) (by decide) (by decide) ?_
      refine x_retI (np := 16) (x := 0) (by decide +kernel) (by decide) (Or.inr ⟨by decide +kernel, by first | decide | omega, by first | decide | omega⟩) ⟨_, rfl, (by decide), ?_⟩
      refine x_ifz (k := 0) (tg := 25) (np := 21) (by decide +kernel) (by decide) (by decide) (fun q73 => ?_) (fun q74 => ?_)
      · have q73 : 2147483648 = 2147483648 := q73
        refine x_const (np := 26) (x := 9223372039002259456) (a := 2147483648) (by decide +kernel) (by decide) (by decide) ?_
        refine x_const (np := 27) (x := 9223372043297226753) (a := 2147483649) (by decide +kernel) (by decide) (by decide) ?_
        refine x_nI (t := 6) (mj := 152) (n := 3) (rc := 12) (ml := 3) (nr := 0) (np := 30) (as := [x_r 75, iv_c 2147483648, iv_c 2147483649]) (rest := []) (lo1 := [x_r 75, iv_c 2147483648, iv_c 2147483649]) (by decide +kernel) (by decide) (by decide +kernel) (x_rb_of (by decide +kernel)) rfl rfl (x_wr (by decide) (x_wi (by decide) (x_wi (by decide) x_wn))) x_wn (by decide) rfl ?_
        refine x_iload (np := 1) (x := 1) (by decide +kernel) rfl (by decide) ?_
        refine x_ifz (k := 0) (tg := 9) (np := 4) (by decide +kernel) (by decide) (by decide) (fun q75 => ?_) (fun q76 => ?_)
        · have q75 : 2147483648 = 2147483648 := q75
          refine x_iload (np := 10) (x := 1) (by decide +kernel) rfl (by decide) ?_
          refine x_retI (np := 11) (x := 0) (by decide +kernel) (by decide) (Or.inr ⟨by decide +kernel, by first | decide | omega, by first | decide | omega⟩) ⟨_, rfl, (by decide), ?_⟩
          refine x_ifz (k := 0) (tg := 35) (np := 33) (by decide +kernel) (by decide) (by decide) (fun q77 => ?_) (fun q78 => ?_)
          · have q77 : 2147483648 = 2147483648 := q77
            refine x_aload (np := 36) (x := 0) (by decide +kernel) rfl (x_nc_le (by decide)) ?_
            have m82 : WT 76 h1 := by rw [← e3]; exact WT.oth hW hJ (by decide)
            refine x_cV (t := 6) (mj := 210) (n := 1) (rc := 12) (ml := 5) (nr := 0) (np := 39) (as := [x_r 75]) (rest := []) (lo1 := [x_r 75, 147573952589676412928, 147573952589676412928, 147573952589676412928, 147573952589676412928]) (by decide +kernel) (by decide) (by decide +kernel) (x_rb_of (by decide +kernel)) rfl rfl (x_wr (by decide) x_wn) x_wn (by decide) rfl (c210_75 j2  m82) (fun h83 q81 => ?_)
            obtain ⟨j84, f85⟩ := q81
            have f88 := Fr.trans f4 f85 (by decide)
            refine x_const (np := 41) (x := 9223372090541867020) (a := 2147483660) (by decide +kernel) (by decide) (by decide) ?_
            refine x_iload (np := 42) (x := 1) (by decide +kernel) rfl la1 ?_
            obtain ⟨u89, q90⟩ : ∃ z, a1 = 2147483648 + z := ⟨a1 - 2147483648, by first | decide | omega⟩
            refine x_imul (np := 43) (x := 0) (i := 12) (j := u89) (v := (2147483648 + 12 * u89)) (by decide +kernel) (by first | decide | omega) (by first | decide | omega) (by first | decide | omega) (by first | decide | omega) (by decide) la1 ?_
            refine x_iload (np := 44) (x := 2) (by decide +kernel) rfl la2 ?_
            refine x_iadd (np := 45) (x := 0) (v := (12 * u89 + a2)) (by decide +kernel) (by first | decide | omega) la2 (by first | decide | omega) (by first | decide | omega) ?_
            refine x_istore (np := 46) (x := 3) (lo' := [x_r 75, iv_c a1, iv_c a2, iv_c (12 * u89 + a2), 147573952589676412928, 147573952589676412928]) (by decide +kernel) (by first | decide | omega) (Nat.le_of_ble_eq_true rfl) rfl ?_
            refine x_aload (np := 47) (x := 0) (by decide +kernel) rfl (x_nc_le (by decide)) ?_
            have q92 : h83 75 20 = 87 := by have z := jB (e := 20) 0 j84 rg_75_20_0_1 (by decide) (by decide); omega
            refine x_getR (np := 50) (x := 724) (f := 20) (q := 87) (by decide +kernel) (by decide) (by decide +kernel) q92 ?_
            refine x_iload (np := 51) (x := 3) (by decide +kernel) rfl (by first | decide | omega) ?_
            obtain ⟨u93, q94⟩ : ∃ z, a2 = 2147483648 + z := ⟨a2 - 2147483648, by first | decide | omega⟩
            have b95 := jB (e := (12 * u89 + u93)) (12 * u89 + u93) j84 rg_87_0_1_72 (by first | decide | omega) (by first | decide | omega)
            refine x_aldC (np := 52) (x := 0) (n := 72) (i := (12 * u89 + u93)) (q := ((h83 87 (12 * u89 + u93)))) (by decide +kernel) (by decide +kernel) (by first | decide | omega) (by first | decide | omega) (by decide) rfl (fun l96 => ?_)
            refine x_ifz (k := 3) (tg := 57) (np := 55) (by decide +kernel) (by decide) l96 (fun q97 => ?_) (fun q98 => ?_)
            · have q97 : 2147483648 ≤ ((h83 87 (12 * u89 + u93))) := q97
              refine x_const (np := 58) (x := 9223372043297226753) (a := 2147483649) (by decide +kernel) (by decide) (by decide) ?_
              refine x_istore (np := 60) (x := 4) (lo' := [x_r 75, iv_c a1, iv_c a2, iv_c (12 * u89 + a2), iv_c 2147483649, 147573952589676412928]) (by decide +kernel) (by decide) (Nat.le_of_ble_eq_true rfl) rfl ?_
              refine x_const (np := 61) (x := 9223372039002259456) (a := 2147483648) (by decide +kernel) (by decide) (by decide) ?_
              refine x_istore (np := 63) (x := 5) (lo' := [x_r 75, iv_c a1, iv_c a2, iv_c (12 * u89 + a2), iv_c 2147483649, iv_c 2147483648]) (by decide +kernel) (by decide) (Nat.le_of_ble_eq_true rfl) rfl ?_
              have p433 : ∀ (n : Nat) (v429 : Nat) (v431 : Nat), 4294967296 - v431 < n → (2147483648 ≤ v429 ∧ v429 ≤ 2147483649) → (2147483648 ≤ v431 ∧ v431 ≤ 2147483668) → X sc 215 (d + 5) (xI fun r h' => J h' ∧ Fr 135291600897 h h' ∧ (2147483648 ≤ r ∧ r ≤ 2147483651)) 0 0 63 [x_r 75, iv_c a1, iv_c a2, iv_c (12 * u89 + a2), iv_c v429, iv_c v431] [] h83 := by
                intro n
                induction n with
                | zero => intro v429 v431 q434; exact absurd q434 (Nat.not_lt_zero _)
                | succ n i435 =>
                  intro v429 v431 q434 b430 b432
                  refine x_iload (np := 65) (x := 5) (by decide +kernel) rfl (by first | decide | omega) ?_
                  refine x_aload (np := 66) (x := 0) (by decide +kernel) rfl (x_nc_le (by decide)) ?_
                  have q436 : h83 75 18 = 85 := by have z := jB (e := 18) 0 j84 rg_75_18_0_1 (by decide) (by decide); omega
                  refine x_getR (np := 69) (x := 722) (f := 18) (q := 85) (by decide +kernel) (by decide) (by decide +kernel) q436 ?_
                  refine x_iload (np := 70) (x := 3) (by decide +kernel) rfl (by first | decide | omega) ?_
                  have b437 := jB (e := (12 * u89 + u93)) (12 * u89 + u93) j84 rg_85_0_1_72 (by first | decide | omega) (by first | decide | omega)
                  refine x_aldC (np := 71) (x := 0) (n := 72) (i := (12 * u89 + u93)) (q := ((h83 85 (12 * u89 + u93)))) (by decide +kernel) (by decide +kernel) (by first | decide | omega) (by first | decide | omega) (by decide) rfl (fun l438 => ?_)
                  refine x_icmp (k := 3) (tg := 112) (np := 74) (by decide +kernel) (by decide) (by first | decide | omega) l438 (fun q439 => ?_) (fun q440 => ?_)
                  · have q439 : ((h83 85 (12 * u89 + u93))) ≤ v431 := q439
                    refine x_iload (np := 114) (x := 4) (by decide +kernel) rfl (by first | decide | omega) ?_
                    refine x_ifz (k := 1) (tg := 121) (np := 117) (by decide +kernel) (by decide) (by first | decide | omega) (fun q441 => ?_) (fun q442 => ?_)
                    · have q441 : v429 ≠ 2147483648 := q441
                      refine x_aload (np := 122) (x := 0) (by decide +kernel) rfl (x_nc_le (by decide)) ?_
                      have q443 : h83 75 18 = 85 := by have z := jB (e := 18) 0 j84 rg_75_18_0_1 (by decide) (by decide); omega
                      refine x_getR (np := 125) (x := 722) (f := 18) (q := 85) (by decide +kernel) (by decide) (by decide +kernel) q443 ?_
                      refine x_iload (np := 126) (x := 3) (by decide +kernel) rfl (by first | decide | omega) ?_
                      refine x_aldC (np := 127) (x := 0) (n := 72) (i := (12 * u89 + u93)) (q := ((h83 85 (12 * u89 + u93)))) (by decide +kernel) (by decide +kernel) (by first | decide | omega) (by first | decide | omega) (by decide) rfl (fun l444 => ?_)
                      refine x_ifz (k := 5) (tg := 134) (np := 130) (by decide +kernel) (by decide) l438 (fun q445 => ?_) (fun q446 => ?_)
                      · have q445 : ((h83 85 (12 * u89 + u93))) ≤ 2147483648 := q445
                        refine x_const (np := 135) (x := 9223372039002259456) (a := 2147483648) (by decide +kernel) (by decide) (by decide) ?_
                        refine x_retI (np := 136) (x := 0) (by decide +kernel) (by decide) (Or.inl (by decide +kernel)) ⟨_, rfl, (by decide), ?_⟩
                        exact ⟨j84, f88, (by first | decide | omega)⟩
                      have q446 : ¬ (((h83 85 (12 * u89 + u93))) ≤ 2147483648) := q446
                      refine x_const (np := 131) (x := 9223372043297226753) (a := 2147483649) (by decide +kernel) (by decide) (by decide) ?_
                      refine x_goto (np := 134) (x := 135) (by decide +kernel) ?_
                      refine x_retI (np := 136) (x := 0) (by decide +kernel) (by decide) (Or.inl (by decide +kernel)) ⟨_, rfl, (by decide), ?_⟩
                      exact ⟨j84, f88, (by first | decide | omega)⟩
                    have q442 : ¬ (v429 ≠ 2147483648) := q442
                    refine x_const (np := 118) (x := 9223372047592194050) (a := 2147483650) (by decide +kernel) (by decide) (by decide) ?_
                    refine x_goto (np := 121) (x := 135) (by decide +kernel) ?_
                    refine x_retI (np := 136) (x := 0) (by decide +kernel) (by decide) (Or.inl (by decide +kernel)) ⟨_, rfl, (by decide), ?_⟩
                    exact ⟨j84, f88, (by first | decide | omega)⟩
                  have q440 : ¬ (((h83 85 (12 * u89 + u93))) ≤ v431) := q440
                  refine x_iload (np := 76) (x := 4) (by decide +kernel) rfl (by first | decide | omega) ?_
                  refine x_ifz (k := 0) (tg := 103) (np := 79) (by decide +kernel) (by decide) (by first | decide | omega) (fun q447 => ?_) (fun q448 => ?_)
                  · have q447 : v429 = 2147483648 := q447
                    refine x_const (np := 104) (x := 9223372039002259456) (a := 2147483648) (by decide +kernel) (by decide) (by decide) ?_
                    refine x_istore (np := 106) (x := 4) (lo' := [x_r 75, iv_c a1, iv_c a2, iv_c (12 * u89 + a2), iv_c 2147483648, iv_c v431]) (by decide +kernel) (by decide) (Nat.le_of_ble_eq_true rfl) rfl ?_
                    refine x_iinc (np := 109) (i := 5) (j := 2147483649) (v := (1 + v431)) (lo' := [x_r 75, iv_c a1, iv_c a2, iv_c (12 * u89 + a2), iv_c 2147483648, iv_c (1 + v431)]) (by decide +kernel) (by decide) (by decide) rfl (by first | decide | omega) (by first | decide | omega) (by first | decide | omega) rfl ?_
                    refine x_goto (np := 112) (x := 63) (by decide +kernel) ?_
                    exact i435 2147483648 (1 + v431) (by first | decide | omega) (by first | decide | omega) (by first | decide | omega)
                  have q448 : ¬ (v429 = 2147483648) := q448
                  refine x_aload (np := 80) (x := 0) (by decide +kernel) rfl (x_nc_le (by decide)) ?_
                  refine x_aload (np := 81) (x := 0) (by decide +kernel) rfl (x_nc_le (by decide)) ?_
                  have q449 : h83 75 19 = 86 := by have z := jB (e := 19) 0 j84 rg_75_19_0_1 (by decide) (by decide); omega
                  refine x_getR (np := 84) (x := 723) (f := 19) (q := 86) (by decide +kernel) (by decide) (by decide +kernel) q449 ?_
                  refine x_const (np := 86) (x := 9223372124901605396) (a := 2147483668) (by decide +kernel) (by decide) (by decide) ?_
                  refine x_iload (np := 87) (x := 3) (by decide +kernel) rfl (by first | decide | omega) ?_
                  refine x_imul (np := 88) (x := 0) (i := 20) (j := (12 * u89 + u93)) (v := (2147483648 + 240 * u89 + 20 * u93)) (by decide +kernel) (by first | decide | omega) (by first | decide | omega) (by first | decide | omega) (by first | decide | omega) (by decide) (by first | decide | omega) ?_
                  refine x_iload (np := 90) (x := 5) (by decide +kernel) rfl (by first | decide | omega) ?_
                  refine x_iadd (np := 91) (x := 0) (v := (240 * u89 + 20 * u93 + v431)) (by decide +kernel) (by first | decide | omega) (by first | decide | omega) (by first | decide | omega) (by first | decide | omega) ?_
                  obtain ⟨u451, q452⟩ : ∃ z, v431 = 2147483648 + z := ⟨v431 - 2147483648, by first | decide | omega⟩
                  have b453 := jB (e := (240 * u89 + 20 * u93 + u451)) (240 * u89 + 20 * u93 + u451) j84 rg_86_0_1_1440 (by first | decide | omega) (by first | decide | omega)
                  refine x_aldC (np := 92) (x := 0) (n := 1440) (i := (240 * u89 + 20 * u93 + u451)) (q := ((h83 86 (240 * u89 + 20 * u93 + u451)))) (by decide +kernel) (by decide +kernel) (by first | decide | omega) (by first | decide | omega) (by decide) rfl (fun l454 => ?_)
                  refine x_iload (np := 93) (x := 2) (by decide +kernel) rfl la2 ?_
                  refine x_cP (t := 6) (mj := 202) (n := 3) (rc := 12) (ml := 3) (nr := 0) (np := 96) (as := [x_r 75, iv_c ((h83 86 (240 * u89 + 20 * u93 + u451))), iv_c a2]) (rest := []) (lo1 := [x_r 75, iv_c ((h83 86 (240 * u89 + 20 * u93 + u451))), iv_c a2]) (by decide +kernel) (by decide) (by decide +kernel) (x_rb_of (by decide +kernel)) rfl rfl (x_wr (by decide) (x_wi l454 (x_wi la2 x_wn))) x_wn (by decide) rfl (c202_75 j84  (by first | decide | omega) (by first | decide | omega)) (fun v455 l456 q457 => ?_)
                  refine x_ifz (k := 1) (tg := 103) (np := 99) (by decide +kernel) (by decide) l456 (fun q458 => ?_) (fun q459 => ?_)
                  · have q458 : v455 ≠ 2147483648 := q458
                    refine x_const (np := 104) (x := 9223372039002259456) (a := 2147483648) (by decide +kernel) (by decide) (by decide) ?_
                    refine x_istore (np := 106) (x := 4) (lo' := [x_r 75, iv_c a1, iv_c a2, iv_c (12 * u89 + a2), iv_c 2147483648, iv_c v431]) (by decide +kernel) (by decide) (Nat.le_of_ble_eq_true rfl) rfl ?_
                    refine x_iinc (np := 109) (i := 5) (j := 2147483649) (v := (1 + v431)) (lo' := [x_r 75, iv_c a1, iv_c a2, iv_c (12 * u89 + a2), iv_c 2147483648, iv_c (1 + v431)]) (by decide +kernel) (by decide) (by decide) rfl (by first | decide | omega) (by first | decide | omega) (by first | decide | omega) rfl ?_
                    refine x_goto (np := 112) (x := 63) (by decide +kernel) ?_
                    exact i435 2147483648 (1 + v431) (by first | decide | omega) (by first | decide | omega) (by first | decide | omega)
                  have q459 : ¬ (v455 ≠ 2147483648) := q459
                  refine x_const (np := 100) (x := 9223372043297226753) (a := 2147483649) (by decide +kernel) (by decide) (by decide) ?_
                  refine x_goto (np := 103) (x := 104) (by decide +kernel) ?_
                  refine x_istore (np := 106) (x := 4) (lo' := [x_r 75, iv_c a1, iv_c a2, iv_c (12 * u89 + a2), iv_c 2147483649, iv_c v431]) (by decide +kernel) (by decide) (Nat.le_of_ble_eq_true rfl) rfl ?_
                  refine x_iinc (np := 109) (i := 5) (j := 2147483649) (v := (1 + v431)) (lo' := [x_r 75, iv_c a1, iv_c a2, iv_c (12 * u89 + a2), iv_c 2147483649, iv_c (1 + v431)]) (by decide +kernel) (by decide) (by decide) rfl (by first | decide | omega) (by first | decide | omega) (by first | decide | omega) rfl ?_
                  refine x_goto (np := 112) (x := 63) (by decide +kernel) ?_
                  exact i435 2147483649 (1 + v431) (by first | decide | omega) (by first | decide | omega) (by first | decide | omega)
              exact p433 _ 2147483649 2147483648 (Nat.lt_succ_self _) (by first | decide | omega) (by first | decide | omega)
            have q98 : ¬ (2147483648 ≤ ((h83 87 (12 * u89 + u93)))) := q98
            refine x_const (np := 56) (x := 9223372051887161347) (a := 2147483651) (by decide +kernel) (by decide) (by decide) ?_
            refine x_retI (np := 57) (x := 0) (by decide +kernel) (by decide) (Or.inl (by decide +kernel)) ⟨_, rfl, (by decide), ?_⟩
            exact ⟨j84, f88, (by first | decide | omega)⟩
          have q78 : ¬ (2147483648 = 2147483648) := q78
          exfalso; omega
        have q76 : ¬ (2147483648 = 2147483648) := q76
        exfalso; omega
      have q74 : ¬ (2147483648 = 2147483648) := q74
      exfalso; omega
    have q72 : ¬ (2147483649 ≠ 2147483648) := q72
    exfalso; omega
  have q40 : ¬ (2147483649 ≠ 2147483648) := q40
  exfalso; omega
