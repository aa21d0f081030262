/-! ===== the law: its cases ===== -/
set_option maxHeartbeats 0 in
theorem lc_0 {sc : Nat × Nat} {d j c0 s0 w5 w6 : Nat} {h : xh} {Q : Nat → xh → Prop} (hs : scOK sc) (hI : INV9 h) (hj : j + 6 ≤ sc.1) (hc : c0 + 2 ≤ 600000) (hz : s0 + 12 ≤ 7300000) (k : ∀ c1 s1 v5 v6 h', c1 ≤ c0 + 2 → s1 ≤ s0 + 12 → INV9 h' → X sc 309 (d + 60) Q c1 s1 1397 [55340232221128654849, x_r 0, x_r 75, x_r 97, iv_c (2147483648 + j), v5, v6] [] h') : X sc 309 (d + 60) Q c0 s0 204 [55340232221128654849, x_r 0, x_r 75, x_r 97, iv_c (2147483648 + j), w5, w6] [] h := by
  obtain ⟨⟨hJ, hE, w76, w77, hB, hG⟩, hY⟩ := hI
  have h384 := hs.1
  refine x_aload (np := 205) (x := 1) (by decide +kernel) rfl (x_nc_le (by decide)) ?_
  refine x_aloadS (np := 206) (x := 0) (by decide +kernel) rfl ?_
  refine x_iload (np := 208) (x := 4) (by decide +kernel) rfl (by omega) ?_
  refine x_const (np := 209) (x := 9223372043297226753) (a := 2147483649) (by decide +kernel) (by decide) (by decide) ?_
  refine x_iadd (np := 210) (x := 0) (v := (2147483648 + (j + 1))) (by decide +kernel) (by omega) (by decide) (by omega) (by omega) ?_
  refine x_scr (j := (j + 1)) hs (np := 211) (x := 0) (by decide +kernel) rfl (by omega) (by omega) ?_
  refine x_aloadS (np := 212) (x := 0) (by decide +kernel) rfl ?_
  refine x_iload (np := 214) (x := 4) (by decide +kernel) rfl (by omega) ?_
  refine x_const (np := 215) (x := 9223372047592194050) (a := 2147483650) (by decide +kernel) (by decide) (by decide) ?_
  refine x_iadd (np := 216) (x := 0) (v := (2147483648 + (j + 2))) (by decide +kernel) (by omega) (by decide) (by omega) (by omega) ?_
  refine x_scr (j := (j + 2)) hs (np := 217) (x := 0) (by decide +kernel) rfl (by omega) (by omega) ?_
  refine x_aloadS (np := 218) (x := 0) (by decide +kernel) rfl ?_
  refine x_iload (np := 220) (x := 4) (by decide +kernel) rfl (by omega) ?_
  refine x_const (np := 221) (x := 9223372051887161347) (a := 2147483651) (by decide +kernel) (by decide) (by decide) ?_
  refine x_iadd (np := 222) (x := 0) (v := (2147483648 + (j + 3))) (by decide +kernel) (by omega) (by decide) (by omega) (by omega) ?_
  refine x_scr (j := (j + 3)) hs (np := 223) (x := 0) (by decide +kernel) rfl (by omega) (by omega) ?_
  refine x_aloadS (np := 224) (x := 0) (by decide +kernel) rfl ?_
  refine x_iload (np := 226) (x := 4) (by decide +kernel) rfl (by omega) ?_
  refine x_const (np := 227) (x := 9223372056182128644) (a := 2147483652) (by decide +kernel) (by decide) (by decide) ?_
  refine x_iadd (np := 228) (x := 0) (v := (2147483648 + (j + 4))) (by decide +kernel) (by omega) (by decide) (by omega) (by omega) ?_
  refine x_scr (j := (j + 4)) hs (np := 229) (x := 0) (by decide +kernel) rfl (by omega) (by omega) ?_
  refine x_aloadS (np := 230) (x := 0) (by decide +kernel) rfl ?_
  refine x_iload (np := 232) (x := 4) (by decide +kernel) rfl (by omega) ?_
  refine x_const (np := 233) (x := 9223372060477095941) (a := 2147483653) (by decide +kernel) (by decide) (by decide) ?_
  refine x_iadd (np := 234) (x := 0) (v := (2147483648 + (j + 5))) (by decide +kernel) (by omega) (by decide) (by omega) (by omega) ?_
  refine x_scr (j := (j + 5)) hs (np := 235) (x := 0) (by decide +kernel) rfl (by omega) (by omega) ?_
  have b1 : (sv sc (j + 1)) < 4294967296 := sv_lt
  have b2 : (sv sc (j + 2)) < 4294967296 := sv_lt
  have b3 : (sv sc (j + 3)) < 4294967296 := sv_lt
  have b4 : (sv sc (j + 4)) < 4294967296 := sv_lt
  have b5 : (sv sc (j + 5)) < 4294967296 := sv_lt
  refine x_cIc (t := 6) (mj := 104) (n := 6) (rc := 11) (ml := 6) (cc := 0) (ss := 0) (nr := 0) (np := 238) (as := [x_r 0, iv_c (sv sc (j + 1)), iv_c (sv sc (j + 2)), iv_c (sv sc (j + 3)), iv_c (sv sc (j + 4)), iv_c (sv sc (j + 5))]) (rest := []) (lo1 := [x_r 0, iv_c (sv sc (j + 1)), iv_c (sv sc (j + 2)), iv_c (sv sc (j + 3)), iv_c (sv sc (j + 4)), iv_c (sv sc (j + 5))]) (by decide +kernel) (by decide) (x_cbV (by decide +kernel) (by show _ ≤ 600000; omega) (by show _ ≤ 7300000; omega)) (x_rb_of (by decide +kernel)) rfl rfl (x_wr (by decide) (x_wi sv_lt (x_wi sv_lt (x_wi sv_lt (x_wi sv_lt (x_wi sv_lt x_wn)))))) x_wn (by decide) rfl (c104_0nn hJ (by omega) (by omega) (by omega) (by omega) (by omega)) (fun r8 h6 l9 q7 => ?_)
  obtain ⟨j10, f11, g12, g13, g14, g15, g16⟩ := q7
  have q17 : h6 75 6 = h 75 6 := f11 75 6 (by decide +kernel)
  have q18 : h6 0 10 = h 0 10 := f11 0 10 (by decide +kernel)
  have q19 : h6 75 4 = h 75 4 := f11 75 4 (by decide +kernel)
  have m20 := WT.fr w76 hJ f11 (by decide)
  have m21 := WT.fr7 w77 hJ f11 (by decide)
  have m22 : h6 75 4 = 2147483649 → 2147483650 ≤ h6 77 0 := by
    rw [f11 75 4 (by decide +kernel), f11 77 0 (by decide +kernel)]
    exact hB
  refine x_pop (by decide +kernel) l9 ?_
  refine x_aload (np := 240) (x := 2) (by decide +kernel) rfl (x_nc_le (by decide)) ?_
  refine x_aloadS (np := 241) (x := 0) (by decide +kernel) rfl ?_
  refine x_iload (np := 243) (x := 4) (by decide +kernel) rfl (by omega) ?_
  refine x_const (np := 244) (x := 9223372043297226753) (a := 2147483649) (by decide +kernel) (by decide) (by decide) ?_
  refine x_iadd (np := 245) (x := 0) (v := (2147483648 + (j + 1))) (by decide +kernel) (by omega) (by decide) (by omega) (by omega) ?_
  refine x_scr (j := (j + 1)) hs (np := 246) (x := 0) (by decide +kernel) rfl (by omega) (by omega) ?_
  refine x_aloadS (np := 247) (x := 0) (by decide +kernel) rfl ?_
  refine x_iload (np := 249) (x := 4) (by decide +kernel) rfl (by omega) ?_
  refine x_const (np := 250) (x := 9223372047592194050) (a := 2147483650) (by decide +kernel) (by decide) (by decide) ?_
  refine x_iadd (np := 251) (x := 0) (v := (2147483648 + (j + 2))) (by decide +kernel) (by omega) (by decide) (by omega) (by omega) ?_
  refine x_scr (j := (j + 2)) hs (np := 252) (x := 0) (by decide +kernel) rfl (by omega) (by omega) ?_
  refine x_aloadS (np := 253) (x := 0) (by decide +kernel) rfl ?_
  refine x_iload (np := 255) (x := 4) (by decide +kernel) rfl (by omega) ?_
  refine x_const (np := 256) (x := 9223372051887161347) (a := 2147483651) (by decide +kernel) (by decide) (by decide) ?_
  refine x_iadd (np := 257) (x := 0) (v := (2147483648 + (j + 3))) (by decide +kernel) (by omega) (by decide) (by omega) (by omega) ?_
  refine x_scr (j := (j + 3)) hs (np := 258) (x := 0) (by decide +kernel) rfl (by omega) (by omega) ?_
  refine x_aloadS (np := 259) (x := 0) (by decide +kernel) rfl ?_
  refine x_iload (np := 261) (x := 4) (by decide +kernel) rfl (by omega) ?_
  refine x_const (np := 262) (x := 9223372056182128644) (a := 2147483652) (by decide +kernel) (by decide) (by decide) ?_
  refine x_iadd (np := 263) (x := 0) (v := (2147483648 + (j + 4))) (by decide +kernel) (by omega) (by decide) (by omega) (by omega) ?_
  refine x_scr (j := (j + 4)) hs (np := 264) (x := 0) (by decide +kernel) rfl (by omega) (by omega) ?_
  refine x_aloadS (np := 265) (x := 0) (by decide +kernel) rfl ?_
  refine x_iload (np := 267) (x := 4) (by decide +kernel) rfl (by omega) ?_
  refine x_const (np := 268) (x := 9223372060477095941) (a := 2147483653) (by decide +kernel) (by decide) (by decide) ?_
  refine x_iadd (np := 269) (x := 0) (v := (2147483648 + (j + 5))) (by decide +kernel) (by omega) (by decide) (by omega) (by omega) ?_
  refine x_scr (j := (j + 5)) hs (np := 270) (x := 0) (by decide +kernel) rfl (by omega) (by omega) ?_
  have b24 : (sv sc (j + 1)) < 4294967296 := sv_lt
  have b25 : (sv sc (j + 2)) < 4294967296 := sv_lt
  have b26 : (sv sc (j + 3)) < 4294967296 := sv_lt
  have b27 : (sv sc (j + 4)) < 4294967296 := sv_lt
  have b28 : (sv sc (j + 5)) < 4294967296 := sv_lt
  refine x_cIc (t := 6) (mj := 165) (n := 6) (rc := 12) (ml := 7) (cc := 0) (ss := 0) (nr := 0) (np := 273) (as := [x_r 75, iv_c (sv sc (j + 1)), iv_c (sv sc (j + 2)), iv_c (sv sc (j + 3)), iv_c (sv sc (j + 4)), iv_c (sv sc (j + 5))]) (rest := []) (lo1 := [x_r 75, iv_c (sv sc (j + 1)), iv_c (sv sc (j + 2)), iv_c (sv sc (j + 3)), iv_c (sv sc (j + 4)), iv_c (sv sc (j + 5)), 147573952589676412928]) (by decide +kernel) (by decide) (x_cbV (by decide +kernel) (by show _ ≤ 600000; omega) (by show _ ≤ 7300000; omega)) (x_rb_of (by decide +kernel)) rfl rfl (x_wr (by decide) (x_wi sv_lt (x_wi sv_lt (x_wi sv_lt (x_wi sv_lt (x_wi sv_lt x_wn)))))) x_wn (by decide) rfl (c165_75n j10 (by omega) (by omega) (by omega) (by omega) (by omega)) (fun r31 h29 l32 q30 => ?_)
  obtain ⟨j33, f34, g35, g36, g37, g38, g39⟩ := q30
  have q40 : h29 1 1 = h6 1 1 := f34 1 1 (by decide +kernel)
  have q41 : h29 0 10 = h6 0 10 := f34 0 10 (by decide +kernel)
  have q42 : h29 75 4 = h6 75 4 := f34 75 4 (by decide +kernel)
  have m43 := WT.fr m20 j10 f34 (by decide)
  have m44 := WT.fr7 m21 j10 f34 (by decide)
  have m45 : h29 75 4 = 2147483649 → 2147483650 ≤ h29 77 0 := by
    rw [f34 75 4 (by decide +kernel), f34 77 0 (by decide +kernel)]
    exact m22
  have t46 : Ty h29 := by
    rcases Nat.lt_or_ge 2147484048 (h 1 1 + 20) with z | z
    · exact Ty.same hY (g16 z) f11 (by decide) (g39 (by omega)) f34 (by decide)
    · exact Ty.feed (h3 := h29) hY (g15 z) f11 (by decide) (Ap.cast (g38 (by omega)) (by rw [show h6 75 6 = h 1 1 by omega])) f34 (by decide)
  refine x_pop (by decide +kernel) l32 ?_
  refine x_goto (np := 277) (x := 1397) (by decide +kernel) ?_
  exact k c0 s0 w5 w6 h29 (by omega) (by omega) ⟨⟨j33, by omega, m43, m44, m45, by omega⟩, t46⟩
set_option maxHeartbeats 0 in
theorem lc_1 {sc : Nat × Nat} {d j c0 s0 w5 w6 : Nat} {h : xh} {Q : Nat → xh → Prop} (hs : scOK sc) (hI : INV9 h) (hj : j + 6 ≤ sc.1) (hc : c0 + 2 ≤ 600000) (hz : s0 + 12 ≤ 7300000) (k : ∀ c1 s1 v5 v6 h', c1 ≤ c0 + 2 → s1 ≤ s0 + 12 → INV9 h' → X sc 309 (d + 60) Q c1 s1 1397 [55340232221128654849, x_r 0, x_r 75, x_r 97, iv_c (2147483648 + j), v5, v6] [] h') : X sc 309 (d + 60) Q c0 s0 277 [55340232221128654849, x_r 0, x_r 75, x_r 97, iv_c (2147483648 + j), w5, w6] [] h := by
  obtain ⟨⟨hJ, hE, w76, w77, hB, hG⟩, hY⟩ := hI
  have h384 := hs.1
  refine x_aload (np := 278) (x := 1) (by decide +kernel) rfl (x_nc_le (by decide)) ?_
  refine x_aloadS (np := 279) (x := 0) (by decide +kernel) rfl ?_
  refine x_iload (np := 281) (x := 4) (by decide +kernel) rfl (by omega) ?_
  refine x_const (np := 282) (x := 9223372043297226753) (a := 2147483649) (by decide +kernel) (by decide) (by decide) ?_
  refine x_iadd (np := 283) (x := 0) (v := (2147483648 + (j + 1))) (by decide +kernel) (by omega) (by decide) (by omega) (by omega) ?_
  refine x_scr (j := (j + 1)) hs (np := 284) (x := 0) (by decide +kernel) rfl (by omega) (by omega) ?_
  have b1 : (sv sc (j + 1)) < 4294967296 := sv_lt
  refine x_cIc (t := 6) (mj := 105) (n := 2) (rc := 11) (ml := 2) (cc := 0) (ss := 0) (nr := 0) (np := 287) (as := [x_r 0, iv_c (sv sc (j + 1))]) (rest := []) (lo1 := [x_r 0, iv_c (sv sc (j + 1))]) (by decide +kernel) (by decide) (x_cbV (by decide +kernel) (by show _ ≤ 600000; omega) (by show _ ≤ 7300000; omega)) (x_rb_of (by decide +kernel)) rfl rfl (x_wr (by decide) (x_wi sv_lt x_wn)) x_wn (by decide) rfl (c105_0n hJ (by omega)) (fun r4 h2 l5 q3 => ?_)
  obtain ⟨j6, f7, g8, g9, g10⟩ := q3
  have q11 : h2 75 6 = h 75 6 := f7 75 6 (by decide +kernel)
  have q12 : h2 0 10 = h 0 10 := f7 0 10 (by decide +kernel)
  have q13 : h2 75 4 = h 75 4 := f7 75 4 (by decide +kernel)
  have m14 := WT.fr w76 hJ f7 (by decide)
  have m15 := WT.fr7 w77 hJ f7 (by decide)
  have m16 : h2 75 4 = 2147483649 → 2147483650 ≤ h2 77 0 := by
    rw [f7 75 4 (by decide +kernel), f7 77 0 (by decide +kernel)]
    exact hB
  have t17 := Ty.fr hY f7 (by decide) (by decide)
  refine x_pop (by decide +kernel) l5 ?_
  refine x_aload (np := 289) (x := 2) (by decide +kernel) rfl (x_nc_le (by decide)) ?_
  refine x_aloadS (np := 290) (x := 0) (by decide +kernel) rfl ?_
  refine x_iload (np := 292) (x := 4) (by decide +kernel) rfl (by omega) ?_
  refine x_const (np := 293) (x := 9223372043297226753) (a := 2147483649) (by decide +kernel) (by decide) (by decide) ?_
  refine x_iadd (np := 294) (x := 0) (v := (2147483648 + (j + 1))) (by decide +kernel) (by omega) (by decide) (by omega) (by omega) ?_
  refine x_scr (j := (j + 1)) hs (np := 295) (x := 0) (by decide +kernel) rfl (by omega) (by omega) ?_
  have b18 : (sv sc (j + 1)) < 4294967296 := sv_lt
  refine x_cIc (t := 6) (mj := 166) (n := 2) (rc := 12) (ml := 2) (cc := 0) (ss := 0) (nr := 0) (np := 298) (as := [x_r 75, iv_c (sv sc (j + 1))]) (rest := []) (lo1 := [x_r 75, iv_c (sv sc (j + 1))]) (by decide +kernel) (by decide) (x_cbV (by decide +kernel) (by show _ ≤ 600000; omega) (by show _ ≤ 7300000; omega)) (x_rb_of (by decide +kernel)) rfl rfl (x_wr (by decide) (x_wi sv_lt x_wn)) x_wn (by decide) rfl (c166_75 j6 (by omega)) (fun r21 h19 l22 q20 => ?_)
  obtain ⟨j23, f24, g25, g26, g27⟩ := q20
  have q28 : h19 1 1 = h2 1 1 := f24 1 1 (by decide +kernel)
  have q29 : h19 0 10 = h2 0 10 := f24 0 10 (by decide +kernel)
  have q30 : h19 75 4 = h2 75 4 := f24 75 4 (by decide +kernel)
  have m31 := WT.fr m14 j6 f24 (by decide)
  have m32 := WT.fr7 m15 j6 f24 (by decide)
  have m33 : h19 75 4 = 2147483649 → 2147483650 ≤ h19 77 0 := by
    rw [f24 75 4 (by decide +kernel), f24 77 0 (by decide +kernel)]
    exact m16
  have t34 := Ty.fr t17 f24 (by decide) (by decide)
  refine x_pop (by decide +kernel) l22 ?_
  refine x_goto (np := 302) (x := 1397) (by decide +kernel) ?_
  exact k c0 s0 w5 w6 h19 (by omega) (by omega) ⟨⟨j23, by omega, m31, m32, m33, by omega⟩, t34⟩
set_option maxHeartbeats 0 in
theorem lc_2 {sc : Nat × Nat} {d j c0 s0 w5 w6 : Nat} {h : xh} {Q : Nat → xh → Prop} (hs : scOK sc) (hI : INV9 h) (hj : j + 6 ≤ sc.1) (hc : c0 + 2 ≤ 600000) (hz : s0 + 12 ≤ 7300000) (k : ∀ c1 s1 v5 v6 h', c1 ≤ c0 + 2 → s1 ≤ s0 + 12 → INV9 h' → X sc 309 (d + 60) Q c1 s1 1397 [55340232221128654849, x_r 0, x_r 75, x_r 97, iv_c (2147483648 + j), v5, v6] [] h') : X sc 309 (d + 60) Q c0 s0 302 [55340232221128654849, x_r 0, x_r 75, x_r 97, iv_c (2147483648 + j), w5, w6] [] h := by
  obtain ⟨⟨hJ, hE, w76, w77, hB, hG⟩, hY⟩ := hI
  have h384 := hs.1
  refine x_aload (np := 303) (x := 1) (by decide +kernel) rfl (x_nc_le (by decide)) ?_
  refine x_aload (np := 304) (x := 3) (by decide +kernel) rfl (x_nc_le (by decide)) ?_
  refine x_cIc (t := 0) (mj := 282) (n := 2) (rc := 0) (ml := 3) (cc := 1) (ss := 6) (nr := 0) (np := 307) (as := [x_r 0, x_r 97]) (rest := []) (lo1 := [x_r 0, x_r 97, 147573952589676412928]) (by decide +kernel) (by decide) (x_cbV (by decide +kernel) (by show _ ≤ 600000; omega) (by show _ ≤ 7300000; omega)) (Or.inl rfl) rfl rfl (x_wr (by decide) (x_wr (by decide) x_wn)) x_wn (by decide) rfl (c282_0_97 hJ) (fun r3 h1 l4 q2 => ?_)
  obtain ⟨j5, f6, g7, g8⟩ := q2
  have q9 : h1 75 6 = h 75 6 := f6 75 6 (by decide +kernel)
  have q10 : h1 0 10 = h 0 10 := f6 0 10 (by decide +kernel)
  have q11 : h1 75 4 = h 75 4 := f6 75 4 (by decide +kernel)
  have m12 := WT.fr w76 hJ f6 (by decide)
  have m13 := WT.fr7 w77 hJ f6 (by decide)
  have m14 : h1 75 4 = 2147483649 → 2147483650 ≤ h1 77 0 := by
    rw [f6 75 4 (by decide +kernel), f6 77 0 (by decide +kernel)]
    exact hB
  have t15 := Ty.fr hY f6 (by decide) (by decide)
  refine x_istore (np := 309) (x := 5) (lo' := [55340232221128654849, x_r 0, x_r 75, x_r 97, iv_c (2147483648 + j), iv_c r3, w6]) (by decide +kernel) l4 (Nat.le_of_ble_eq_true rfl) rfl ?_
  refine x_aload (np := 310) (x := 2) (by decide +kernel) rfl (x_nc_le (by decide)) ?_
  refine x_cIc (t := 6) (mj := 195) (n := 1) (rc := 12) (ml := 3) (cc := 0) (ss := 0) (nr := 0) (np := 313) (as := [x_r 75]) (rest := []) (lo1 := [x_r 75, 147573952589676412928, 147573952589676412928]) (by decide +kernel) (by decide) (x_cbV (by decide +kernel) (by show _ ≤ 600000; omega) (by show _ ≤ 7300000; omega)) (x_rb_of (by decide +kernel)) rfl rfl (x_wr (by decide) x_wn) x_wn (by decide) rfl (c195_75n j5 m12) (fun r18 h16 l19 q17 => ?_)
  obtain ⟨j20, f21, g22, g23, g24⟩ := q17
  have q25 : h16 1 1 = h1 1 1 := f21 1 1 (by decide +kernel)
  have q26 : h16 0 10 = h1 0 10 := f21 0 10 (by decide +kernel)
  have q27 : h16 75 4 = h1 75 4 := f21 75 4 (by decide +kernel)
  have m29 := WT.fr7 m13 j5 f21 (by decide)
  have m30 : h16 75 4 = 2147483649 → 2147483650 ≤ h16 77 0 := by
    rw [f21 75 4 (by decide +kernel), f21 77 0 (by decide +kernel)]
    exact m14
  have t31 := Ty.fr t15 f21 (by decide) (by decide)
  refine x_istore (np := 315) (x := 6) (lo' := [55340232221128654849, x_r 0, x_r 75, x_r 97, iv_c (2147483648 + j), iv_c r3, iv_c r18]) (by decide +kernel) l19 (Nat.le_of_ble_eq_true rfl) rfl ?_
  refine x_goto (np := 318) (x := 1397) (by decide +kernel) ?_
  exact k (c0 + 1) (s0 + 6) (iv_c r3) (iv_c r18) h16 (by omega) (by omega) ⟨⟨j20, by omega, g24, m29, m30, by omega⟩, t31⟩
set_option maxHeartbeats 0 in
theorem lc_3 {sc : Nat × Nat} {d j c0 s0 w5 w6 : Nat} {h : xh} {Q : Nat → xh → Prop} (hs : scOK sc) (hI : INV9 h) (hj : j + 6 ≤ sc.1) (hc : c0 + 2 ≤ 600000) (hz : s0 + 12 ≤ 7300000) (k : ∀ c1 s1 v5 v6 h', c1 ≤ c0 + 2 → s1 ≤ s0 + 12 → INV9 h' → X sc 309 (d + 60) Q c1 s1 1397 [55340232221128654849, x_r 0, x_r 75, x_r 97, iv_c (2147483648 + j), v5, v6] [] h') : X sc 309 (d + 60) Q c0 s0 318 [55340232221128654849, x_r 0, x_r 75, x_r 97, iv_c (2147483648 + j), w5, w6] [] h := by
  obtain ⟨⟨hJ, hE, w76, w77, hB, hG⟩, hY⟩ := hI
  have h384 := hs.1
  refine x_aload (np := 319) (x := 1) (by decide +kernel) rfl (x_nc_le (by decide)) ?_
  refine x_cIc (t := 6) (mj := 107) (n := 1) (rc := 11) (ml := 1) (cc := 0) (ss := 0) (nr := 0) (np := 322) (as := [x_r 0]) (rest := []) (lo1 := [x_r 0]) (by decide +kernel) (by decide) (x_cbV (by decide +kernel) (by show _ ≤ 600000; omega) (by show _ ≤ 7300000; omega)) (x_rb_of (by decide +kernel)) rfl rfl (x_wr (by decide) x_wn) x_wn (by decide) rfl (c107_0 hJ) (fun r3 h1 l4 q2 => ?_)
  obtain ⟨q5, b6⟩ := q2
  rw [q5]
  refine x_pop (by decide +kernel) l4 ?_
  refine x_aload (np := 324) (x := 2) (by decide +kernel) rfl (x_nc_le (by decide)) ?_
  refine x_cIc (t := 6) (mj := 175) (n := 1) (rc := 12) (ml := 1) (cc := 0) (ss := 0) (nr := 0) (np := 327) (as := [x_r 75]) (rest := []) (lo1 := [x_r 75]) (by decide +kernel) (by decide) (x_cbV (by decide +kernel) (by show _ ≤ 600000; omega) (by show _ ≤ 7300000; omega)) (x_rb_of (by decide +kernel)) rfl rfl (x_wr (by decide) x_wn) x_wn (by decide) rfl (c175_75 hJ) (fun r9 h7 l10 q8 => ?_)
  obtain ⟨j11, f12, g13⟩ := q8
  have q14 : h7 1 1 = h 1 1 := f12 1 1 (by decide +kernel)
  have q15 : h7 75 6 = h 75 6 := f12 75 6 (by decide +kernel)
  have q16 : h7 0 10 = h 0 10 := f12 0 10 (by decide +kernel)
  have q17 : h7 75 4 = h 75 4 := f12 75 4 (by decide +kernel)
  have m18 := WT.fr w76 hJ f12 (by decide)
  have m19 := WT.fr7 w77 hJ f12 (by decide)
  have m20 : h7 75 4 = 2147483649 → 2147483650 ≤ h7 77 0 := by
    rw [f12 75 4 (by decide +kernel), f12 77 0 (by decide +kernel)]
    exact hB
  have t21 := Ty.fr hY f12 (by decide) (by decide)
  refine x_pop (by decide +kernel) l10 ?_
  refine x_goto (np := 331) (x := 1397) (by decide +kernel) ?_
  exact k c0 s0 w5 w6 h7 (by omega) (by omega) ⟨⟨j11, by omega, m18, m19, m20, by omega⟩, t21⟩
set_option maxHeartbeats 0 in
theorem lc_4 {sc : Nat × Nat} {d j c0 s0 w5 w6 : Nat} {h : xh} {Q : Nat → xh → Prop} (hs : scOK sc) (hI : INV9 h) (hj : j + 6 ≤ sc.1) (hc : c0 + 2 ≤ 600000) (hz : s0 + 12 ≤ 7300000) (k : ∀ c1 s1 v5 v6 h', c1 ≤ c0 + 2 → s1 ≤ s0 + 12 → INV9 h' → X sc 309 (d + 60) Q c1 s1 1397 [55340232221128654849, x_r 0, x_r 75, x_r 97, iv_c (2147483648 + j), v5, v6] [] h') : X sc 309 (d + 60) Q c0 s0 331 [55340232221128654849, x_r 0, x_r 75, x_r 97, iv_c (2147483648 + j), w5, w6] [] h := by
  obtain ⟨⟨hJ, hE, w76, w77, hB, hG⟩, hY⟩ := hI
  have h384 := hs.1
  refine x_aload (np := 332) (x := 1) (by decide +kernel) rfl (x_nc_le (by decide)) ?_
  refine x_aloadS (np := 333) (x := 0) (by decide +kernel) rfl ?_
  refine x_iload (np := 335) (x := 4) (by decide +kernel) rfl (by omega) ?_
  refine x_const (np := 336) (x := 9223372043297226753) (a := 2147483649) (by decide +kernel) (by decide) (by decide) ?_
  refine x_iadd (np := 337) (x := 0) (v := (2147483648 + (j + 1))) (by decide +kernel) (by omega) (by decide) (by omega) (by omega) ?_
  refine x_scr (j := (j + 1)) hs (np := 338) (x := 0) (by decide +kernel) rfl (by omega) (by omega) ?_
  have b1 : (sv sc (j + 1)) < 4294967296 := sv_lt
  refine x_cIc (t := 0) (mj := 283) (n := 2) (rc := 0) (ml := 3) (cc := 1) (ss := 6) (nr := 0) (np := 341) (as := [x_r 0, iv_c (sv sc (j + 1))]) (rest := []) (lo1 := [x_r 0, iv_c (sv sc (j + 1)), 147573952589676412928]) (by decide +kernel) (by decide) (x_cbV (by decide +kernel) (by show _ ≤ 600000; omega) (by show _ ≤ 7300000; omega)) (Or.inl rfl) rfl rfl (x_wr (by decide) (x_wi sv_lt x_wn)) x_wn (by decide) rfl (c283_0 hJ (by omega)) (fun r4 h2 l5 q3 => ?_)
  obtain ⟨j6, f7, g8⟩ := q3
  have q9 : h2 1 1 = h 1 1 := f7 1 1 (by decide +kernel)
  have q10 : h2 75 6 = h 75 6 := f7 75 6 (by decide +kernel)
  have q11 : h2 0 10 = h 0 10 := f7 0 10 (by decide +kernel)
  have q12 : h2 75 4 = h 75 4 := f7 75 4 (by decide +kernel)
  have m13 := WT.fr w76 hJ f7 (by decide)
  have m14 := WT.fr7 w77 hJ f7 (by decide)
  have m15 : h2 75 4 = 2147483649 → 2147483650 ≤ h2 77 0 := by
    rw [f7 75 4 (by decide +kernel), f7 77 0 (by decide +kernel)]
    exact hB
  have t16 := Ty.fr hY f7 (by decide) (by decide)
  refine x_istore (np := 343) (x := 5) (lo' := [55340232221128654849, x_r 0, x_r 75, x_r 97, iv_c (2147483648 + j), iv_c r4, w6]) (by decide +kernel) l5 (Nat.le_of_ble_eq_true rfl) rfl ?_
  refine x_aload (np := 344) (x := 2) (by decide +kernel) rfl (x_nc_le (by decide)) ?_
  refine x_aloadS (np := 345) (x := 0) (by decide +kernel) rfl ?_
  refine x_iload (np := 347) (x := 4) (by decide +kernel) rfl (by omega) ?_
  refine x_const (np := 348) (x := 9223372043297226753) (a := 2147483649) (by decide +kernel) (by decide) (by decide) ?_
  refine x_iadd (np := 349) (x := 0) (v := (2147483648 + (j + 1))) (by decide +kernel) (by omega) (by decide) (by omega) (by omega) ?_
  refine x_scr (j := (j + 1)) hs (np := 350) (x := 0) (by decide +kernel) rfl (by omega) (by omega) ?_
  have b17 : (sv sc (j + 1)) < 4294967296 := sv_lt
  refine x_cVc (t := 6) (mj := 197) (n := 2) (rc := 12) (ml := 2) (cc := 0) (ss := 0) (nr := 0) (np := 353) (as := [x_r 75, iv_c (sv sc (j + 1))]) (rest := []) (lo1 := [x_r 75, iv_c (sv sc (j + 1))]) (by decide +kernel) (by decide) (x_cbV (by decide +kernel) (by show _ ≤ 600000; omega) (by show _ ≤ 7300000; omega)) (x_rb_of (by decide +kernel)) rfl rfl (x_wr (by decide) (x_wi sv_lt x_wn)) x_wn (by decide) rfl (c197_75n j6 (by omega) m13) (fun h18 q19 => ?_)
  obtain ⟨j22, f23, g24⟩ := q19
  have q25 : h18 1 1 = h2 1 1 := f23 1 1 (by decide +kernel)
  have q26 : h18 75 6 = h2 75 6 := f23 75 6 (by decide +kernel)
  have q27 : h18 0 10 = h2 0 10 := f23 0 10 (by decide +kernel)
  have q28 : h18 75 4 = h2 75 4 := f23 75 4 (by decide +kernel)
  have m30 := WT.fr7 m14 j6 f23 (by decide)
  have m31 : h18 75 4 = 2147483649 → 2147483650 ≤ h18 77 0 := by
    rw [f23 75 4 (by decide +kernel), f23 77 0 (by decide +kernel)]
    exact m15
  have t32 := Ty.fr t16 f23 (by decide) (by decide)
  refine x_goto (np := 356) (x := 1397) (by decide +kernel) ?_
  exact k (c0 + 1) (s0 + 6) (iv_c r4) w6 h18 (by omega) (by omega) ⟨⟨j22, by omega, g24, m30, m31, by omega⟩, t32⟩
set_option maxHeartbeats 0 in
theorem lc_5 {sc : Nat × Nat} {d j c0 s0 w5 w6 : Nat} {h : xh} {Q : Nat → xh → Prop} (hs : scOK sc) (hI : INV9 h) (hj : j + 6 ≤ sc.1) (hc : c0 + 2 ≤ 600000) (hz : s0 + 12 ≤ 7300000) (k : ∀ c1 s1 v5 v6 h', c1 ≤ c0 + 2 → s1 ≤ s0 + 12 → INV9 h' → X sc 309 (d + 60) Q c1 s1 1397 [55340232221128654849, x_r 0, x_r 75, x_r 97, iv_c (2147483648 + j), v5, v6] [] h') : X sc 309 (d + 60) Q c0 s0 356 [55340232221128654849, x_r 0, x_r 75, x_r 97, iv_c (2147483648 + j), w5, w6] [] h := by
  obtain ⟨⟨hJ, hE, w76, w77, hB, hG⟩, hY⟩ := hI
  have h384 := hs.1
  refine x_aload (np := 357) (x := 1) (by decide +kernel) rfl (x_nc_le (by decide)) ?_
  refine x_aloadS (np := 358) (x := 0) (by decide +kernel) rfl ?_
  refine x_iload (np := 360) (x := 4) (by decide +kernel) rfl (by omega) ?_
  refine x_const (np := 361) (x := 9223372043297226753) (a := 2147483649) (by decide +kernel) (by decide) (by decide) ?_
  refine x_iadd (np := 362) (x := 0) (v := (2147483648 + (j + 1))) (by decide +kernel) (by omega) (by decide) (by omega) (by omega) ?_
  refine x_scr (j := (j + 1)) hs (np := 363) (x := 0) (by decide +kernel) rfl (by omega) (by omega) ?_
  refine x_aloadS (np := 364) (x := 0) (by decide +kernel) rfl ?_
  refine x_iload (np := 366) (x := 4) (by decide +kernel) rfl (by omega) ?_
  refine x_const (np := 367) (x := 9223372047592194050) (a := 2147483650) (by decide +kernel) (by decide) (by decide) ?_
  refine x_iadd (np := 368) (x := 0) (v := (2147483648 + (j + 2))) (by decide +kernel) (by omega) (by decide) (by omega) (by omega) ?_
  refine x_scr (j := (j + 2)) hs (np := 369) (x := 0) (by decide +kernel) rfl (by omega) (by omega) ?_
  refine x_aload (np := 370) (x := 3) (by decide +kernel) rfl (x_nc_le (by decide)) ?_
  have b1 : (sv sc (j + 1)) < 4294967296 := sv_lt
  have b2 : (sv sc (j + 2)) < 4294967296 := sv_lt
  refine x_cIc (t := 0) (mj := 284) (n := 4) (rc := 0) (ml := 5) (cc := 2) (ss := 12) (nr := 0) (np := 373) (as := [x_r 0, iv_c (sv sc (j + 1)), iv_c (sv sc (j + 2)), x_r 97]) (rest := []) (lo1 := [x_r 0, iv_c (sv sc (j + 1)), iv_c (sv sc (j + 2)), x_r 97, 147573952589676412928]) (by decide +kernel) (by decide) (x_cbV (by decide +kernel) (by show _ ≤ 600000; omega) (by show _ ≤ 7300000; omega)) (Or.inl rfl) rfl rfl (x_wr (by decide) (x_wi sv_lt (x_wi sv_lt (x_wr (by decide) x_wn)))) x_wn (by decide) rfl (c284_0_97 hJ (by omega) (by omega)) (fun r5 h3 l6 q4 => ?_)
  obtain ⟨j7, f8, g9⟩ := q4
  have q10 : h3 1 1 = h 1 1 := f8 1 1 (by decide +kernel)
  have q11 : h3 75 6 = h 75 6 := f8 75 6 (by decide +kernel)
  have q12 : h3 0 10 = h 0 10 := f8 0 10 (by decide +kernel)
  have q13 : h3 75 4 = h 75 4 := f8 75 4 (by decide +kernel)
  have m14 := WT.fr w76 hJ f8 (by decide)
  have m15 := WT.fr7 w77 hJ f8 (by decide)
  have m16 : h3 75 4 = 2147483649 → 2147483650 ≤ h3 77 0 := by
    rw [f8 75 4 (by decide +kernel), f8 77 0 (by decide +kernel)]
    exact hB
  have t17 := Ty.fr hY f8 (by decide) (by decide)
  refine x_istore (np := 375) (x := 5) (lo' := [55340232221128654849, x_r 0, x_r 75, x_r 97, iv_c (2147483648 + j), iv_c r5, w6]) (by decide +kernel) l6 (Nat.le_of_ble_eq_true rfl) rfl ?_
  refine x_aload (np := 376) (x := 2) (by decide +kernel) rfl (x_nc_le (by decide)) ?_
  refine x_aloadS (np := 377) (x := 0) (by decide +kernel) rfl ?_
  refine x_iload (np := 379) (x := 4) (by decide +kernel) rfl (by omega) ?_
  refine x_const (np := 380) (x := 9223372043297226753) (a := 2147483649) (by decide +kernel) (by decide) (by decide) ?_
  refine x_iadd (np := 381) (x := 0) (v := (2147483648 + (j + 1))) (by decide +kernel) (by omega) (by decide) (by omega) (by omega) ?_
  refine x_scr (j := (j + 1)) hs (np := 382) (x := 0) (by decide +kernel) rfl (by omega) (by omega) ?_
  refine x_aloadS (np := 383) (x := 0) (by decide +kernel) rfl ?_
  refine x_iload (np := 385) (x := 4) (by decide +kernel) rfl (by omega) ?_
  refine x_const (np := 386) (x := 9223372047592194050) (a := 2147483650) (by decide +kernel) (by decide) (by decide) ?_
  refine x_iadd (np := 387) (x := 0) (v := (2147483648 + (j + 2))) (by decide +kernel) (by omega) (by decide) (by omega) (by omega) ?_
  refine x_scr (j := (j + 2)) hs (np := 388) (x := 0) (by decide +kernel) rfl (by omega) (by omega) ?_
  have b18 : (sv sc (j + 1)) < 4294967296 := sv_lt
  have b19 : (sv sc (j + 2)) < 4294967296 := sv_lt
  refine x_cIc (t := 6) (mj := 212) (n := 3) (rc := 12) (ml := 3) (cc := 0) (ss := 0) (nr := 0) (np := 391) (as := [x_r 75, iv_c (sv sc (j + 1)), iv_c (sv sc (j + 2))]) (rest := []) (lo1 := [x_r 75, iv_c (sv sc (j + 1)), iv_c (sv sc (j + 2))]) (by decide +kernel) (by decide) (x_cbV (by decide +kernel) (by show _ ≤ 600000; omega) (by show _ ≤ 7300000; omega)) (x_rb_of (by decide +kernel)) rfl rfl (x_wr (by decide) (x_wi sv_lt (x_wi sv_lt x_wn))) x_wn (by decide) rfl (c212_75 j7 (by omega) (by omega) m14) (fun r22 h20 l23 q21 => ?_)
  obtain ⟨j24, f25, g26⟩ := q21
  have q27 : h20 1 1 = h3 1 1 := f25 1 1 (by decide +kernel)
  have q28 : h20 75 6 = h3 75 6 := f25 75 6 (by decide +kernel)
  have q29 : h20 0 10 = h3 0 10 := f25 0 10 (by decide +kernel)
  have q30 : h20 75 4 = h3 75 4 := f25 75 4 (by decide +kernel)
  have m31 := WT.fr m14 j7 f25 (by decide)
  have m32 := WT.fr7 m15 j7 f25 (by decide)
  have m33 : h20 75 4 = 2147483649 → 2147483650 ≤ h20 77 0 := by
    rw [f25 75 4 (by decide +kernel), f25 77 0 (by decide +kernel)]
    exact m16
  have t34 := Ty.fr t17 f25 (by decide) (by decide)
  refine x_istore (np := 393) (x := 6) (lo' := [55340232221128654849, x_r 0, x_r 75, x_r 97, iv_c (2147483648 + j), iv_c r5, iv_c r22]) (by decide +kernel) l23 (Nat.le_of_ble_eq_true rfl) rfl ?_
  refine x_goto (np := 396) (x := 1397) (by decide +kernel) ?_
  exact k (c0 + 2) (s0 + 12) (iv_c r5) (iv_c r22) h20 (by omega) (by omega) ⟨⟨j24, by omega, m31, m32, m33, by omega⟩, t34⟩
set_option maxHeartbeats 0 in
theorem lc_6 {sc : Nat × Nat} {d j c0 s0 w5 w6 : Nat} {h : xh} {Q : Nat → xh → Prop} (hs : scOK sc) (hI : INV9 h) (hj : j + 6 ≤ sc.1) (hc : c0 + 2 ≤ 600000) (hz : s0 + 12 ≤ 7300000) (k : ∀ c1 s1 v5 v6 h', c1 ≤ c0 + 2 → s1 ≤ s0 + 12 → INV9 h' → X sc 309 (d + 60) Q c1 s1 1397 [55340232221128654849, x_r 0, x_r 75, x_r 97, iv_c (2147483648 + j), v5, v6] [] h') : X sc 309 (d + 60) Q c0 s0 396 [55340232221128654849, x_r 0, x_r 75, x_r 97, iv_c (2147483648 + j), w5, w6] [] h := by
  obtain ⟨⟨hJ, hE, w76, w77, hB, hG⟩, hY⟩ := hI
  have h384 := hs.1
  refine x_aload (np := 397) (x := 1) (by decide +kernel) rfl (x_nc_le (by decide)) ?_
  refine x_aloadS (np := 398) (x := 0) (by decide +kernel) rfl ?_
  refine x_iload (np := 400) (x := 4) (by decide +kernel) rfl (by omega) ?_
  refine x_const (np := 401) (x := 9223372043297226753) (a := 2147483649) (by decide +kernel) (by decide) (by decide) ?_
  refine x_iadd (np := 402) (x := 0) (v := (2147483648 + (j + 1))) (by decide +kernel) (by omega) (by decide) (by omega) (by omega) ?_
  refine x_scr (j := (j + 1)) hs (np := 403) (x := 0) (by decide +kernel) rfl (by omega) (by omega) ?_
  refine x_aloadS (np := 404) (x := 0) (by decide +kernel) rfl ?_
  refine x_iload (np := 406) (x := 4) (by decide +kernel) rfl (by omega) ?_
  refine x_const (np := 407) (x := 9223372047592194050) (a := 2147483650) (by decide +kernel) (by decide) (by decide) ?_
  refine x_iadd (np := 408) (x := 0) (v := (2147483648 + (j + 2))) (by decide +kernel) (by omega) (by decide) (by omega) (by omega) ?_
  refine x_scr (j := (j + 2)) hs (np := 409) (x := 0) (by decide +kernel) rfl (by omega) (by omega) ?_
  refine x_aload (np := 410) (x := 3) (by decide +kernel) rfl (x_nc_le (by decide)) ?_
  have b1 : (sv sc (j + 1)) < 4294967296 := sv_lt
  have b2 : (sv sc (j + 2)) < 4294967296 := sv_lt
  refine x_cIc (t := 0) (mj := 285) (n := 4) (rc := 0) (ml := 5) (cc := 2) (ss := 12) (nr := 0) (np := 413) (as := [x_r 0, iv_c (sv sc (j + 1)), iv_c (sv sc (j + 2)), x_r 97]) (rest := []) (lo1 := [x_r 0, iv_c (sv sc (j + 1)), iv_c (sv sc (j + 2)), x_r 97, 147573952589676412928]) (by decide +kernel) (by decide) (x_cbV (by decide +kernel) (by show _ ≤ 600000; omega) (by show _ ≤ 7300000; omega)) (Or.inl rfl) rfl rfl (x_wr (by decide) (x_wi sv_lt (x_wi sv_lt (x_wr (by decide) x_wn)))) x_wn (by decide) rfl (c285_0_97 hJ (by omega) (by omega)) (fun r5 h3 l6 q4 => ?_)
  obtain ⟨j7, f8, g9⟩ := q4
  have q10 : h3 1 1 = h 1 1 := f8 1 1 (by decide +kernel)
  have q11 : h3 75 6 = h 75 6 := f8 75 6 (by decide +kernel)
  have q12 : h3 0 10 = h 0 10 := f8 0 10 (by decide +kernel)
  have q13 : h3 75 4 = h 75 4 := f8 75 4 (by decide +kernel)
  have m14 := WT.fr w76 hJ f8 (by decide)
  have m15 := WT.fr7 w77 hJ f8 (by decide)
  have m16 : h3 75 4 = 2147483649 → 2147483650 ≤ h3 77 0 := by
    rw [f8 75 4 (by decide +kernel), f8 77 0 (by decide +kernel)]
    exact hB
  have t17 := Ty.fr hY f8 (by decide) (by decide)
  refine x_istore (np := 415) (x := 5) (lo' := [55340232221128654849, x_r 0, x_r 75, x_r 97, iv_c (2147483648 + j), iv_c r5, w6]) (by decide +kernel) l6 (Nat.le_of_ble_eq_true rfl) rfl ?_
  refine x_aload (np := 416) (x := 2) (by decide +kernel) rfl (x_nc_le (by decide)) ?_
  refine x_aloadS (np := 417) (x := 0) (by decide +kernel) rfl ?_
  refine x_iload (np := 419) (x := 4) (by decide +kernel) rfl (by omega) ?_
  refine x_const (np := 420) (x := 9223372043297226753) (a := 2147483649) (by decide +kernel) (by decide) (by decide) ?_
  refine x_iadd (np := 421) (x := 0) (v := (2147483648 + (j + 1))) (by decide +kernel) (by omega) (by decide) (by omega) (by omega) ?_
  refine x_scr (j := (j + 1)) hs (np := 422) (x := 0) (by decide +kernel) rfl (by omega) (by omega) ?_
  refine x_aloadS (np := 423) (x := 0) (by decide +kernel) rfl ?_
  refine x_iload (np := 425) (x := 4) (by decide +kernel) rfl (by omega) ?_
  refine x_const (np := 426) (x := 9223372047592194050) (a := 2147483650) (by decide +kernel) (by decide) (by decide) ?_
  refine x_iadd (np := 427) (x := 0) (v := (2147483648 + (j + 2))) (by decide +kernel) (by omega) (by decide) (by omega) (by omega) ?_
  refine x_scr (j := (j + 2)) hs (np := 428) (x := 0) (by decide +kernel) rfl (by omega) (by omega) ?_
  have b18 : (sv sc (j + 1)) < 4294967296 := sv_lt
  have b19 : (sv sc (j + 2)) < 4294967296 := sv_lt
  refine x_cIc (t := 6) (mj := 214) (n := 3) (rc := 12) (ml := 3) (cc := 0) (ss := 0) (nr := 0) (np := 431) (as := [x_r 75, iv_c (sv sc (j + 1)), iv_c (sv sc (j + 2))]) (rest := []) (lo1 := [x_r 75, iv_c (sv sc (j + 1)), iv_c (sv sc (j + 2))]) (by decide +kernel) (by decide) (x_cbV (by decide +kernel) (by show _ ≤ 600000; omega) (by show _ ≤ 7300000; omega)) (x_rb_of (by decide +kernel)) rfl rfl (x_wr (by decide) (x_wi sv_lt (x_wi sv_lt x_wn))) x_wn (by decide) rfl (c214_75 j7 (by omega) (by omega) m14) (fun r22 h20 l23 q21 => ?_)
  obtain ⟨j24, f25, g26⟩ := q21
  have q27 : h20 1 1 = h3 1 1 := f25 1 1 (by decide +kernel)
  have q28 : h20 75 6 = h3 75 6 := f25 75 6 (by decide +kernel)
  have q29 : h20 0 10 = h3 0 10 := f25 0 10 (by decide +kernel)
  have q30 : h20 75 4 = h3 75 4 := f25 75 4 (by decide +kernel)
  have m31 := WT.fr m14 j7 f25 (by decide)
  have m32 := WT.fr7 m15 j7 f25 (by decide)
  have m33 : h20 75 4 = 2147483649 → 2147483650 ≤ h20 77 0 := by
    rw [f25 75 4 (by decide +kernel), f25 77 0 (by decide +kernel)]
    exact m16
  have t34 := Ty.fr t17 f25 (by decide) (by decide)
  refine x_istore (np := 433) (x := 6) (lo' := [55340232221128654849, x_r 0, x_r 75, x_r 97, iv_c (2147483648 + j), iv_c r5, iv_c r22]) (by decide +kernel) l23 (Nat.le_of_ble_eq_true rfl) rfl ?_
  refine x_goto (np := 436) (x := 1397) (by decide +kernel) ?_
  exact k (c0 + 2) (s0 + 12) (iv_c r5) (iv_c r22) h20 (by omega) (by omega) ⟨⟨j24, by omega, m31, m32, m33, by omega⟩, t34⟩
set_option maxHeartbeats 0 in
theorem lc_7 {sc : Nat × Nat} {d j c0 s0 w5 w6 : Nat} {h : xh} {Q : Nat → xh → Prop} (hs : scOK sc) (hI : INV9 h) (hj : j + 6 ≤ sc.1) (hc : c0 + 2 ≤ 600000) (hz : s0 + 12 ≤ 7300000) (k : ∀ c1 s1 v5 v6 h', c1 ≤ c0 + 2 → s1 ≤ s0 + 12 → INV9 h' → X sc 309 (d + 60) Q c1 s1 1397 [55340232221128654849, x_r 0, x_r 75, x_r 97, iv_c (2147483648 + j), v5, v6] [] h') : X sc 309 (d + 60) Q c0 s0 436 [55340232221128654849, x_r 0, x_r 75, x_r 97, iv_c (2147483648 + j), w5, w6] [] h := by
  obtain ⟨⟨hJ, hE, w76, w77, hB, hG⟩, hY⟩ := hI
  have h384 := hs.1
  refine x_aload (np := 437) (x := 1) (by decide +kernel) rfl (x_nc_le (by decide)) ?_
  refine x_aloadS (np := 438) (x := 0) (by decide +kernel) rfl ?_
  refine x_iload (np := 440) (x := 4) (by decide +kernel) rfl (by omega) ?_
  refine x_const (np := 441) (x := 9223372043297226753) (a := 2147483649) (by decide +kernel) (by decide) (by decide) ?_
  refine x_iadd (np := 442) (x := 0) (v := (2147483648 + (j + 1))) (by decide +kernel) (by omega) (by decide) (by omega) (by omega) ?_
  refine x_scr (j := (j + 1)) hs (np := 443) (x := 0) (by decide +kernel) rfl (by omega) (by omega) ?_
  refine x_aloadS (np := 444) (x := 0) (by decide +kernel) rfl ?_
  refine x_iload (np := 446) (x := 4) (by decide +kernel) rfl (by omega) ?_
  refine x_const (np := 447) (x := 9223372047592194050) (a := 2147483650) (by decide +kernel) (by decide) (by decide) ?_
  refine x_iadd (np := 448) (x := 0) (v := (2147483648 + (j + 2))) (by decide +kernel) (by omega) (by decide) (by omega) (by omega) ?_
  refine x_scr (j := (j + 2)) hs (np := 449) (x := 0) (by decide +kernel) rfl (by omega) (by omega) ?_
  refine x_aload (np := 450) (x := 3) (by decide +kernel) rfl (x_nc_le (by decide)) ?_
  have b1 : (sv sc (j + 1)) < 4294967296 := sv_lt
  have b2 : (sv sc (j + 2)) < 4294967296 := sv_lt
  refine x_cIc (t := 0) (mj := 286) (n := 4) (rc := 0) (ml := 5) (cc := 2) (ss := 12) (nr := 0) (np := 453) (as := [x_r 0, iv_c (sv sc (j + 1)), iv_c (sv sc (j + 2)), x_r 97]) (rest := []) (lo1 := [x_r 0, iv_c (sv sc (j + 1)), iv_c (sv sc (j + 2)), x_r 97, 147573952589676412928]) (by decide +kernel) (by decide) (x_cbV (by decide +kernel) (by show _ ≤ 600000; omega) (by show _ ≤ 7300000; omega)) (Or.inl rfl) rfl rfl (x_wr (by decide) (x_wi sv_lt (x_wi sv_lt (x_wr (by decide) x_wn)))) x_wn (by decide) rfl (c286_0_97 hJ (by omega) (by omega)) (fun r5 h3 l6 q4 => ?_)
  obtain ⟨j7, f8, g9⟩ := q4
  have q10 : h3 1 1 = h 1 1 := f8 1 1 (by decide +kernel)
  have q11 : h3 75 6 = h 75 6 := f8 75 6 (by decide +kernel)
  have q12 : h3 0 10 = h 0 10 := f8 0 10 (by decide +kernel)
  have q13 : h3 75 4 = h 75 4 := f8 75 4 (by decide +kernel)
  have m14 := WT.fr w76 hJ f8 (by decide)
  have m15 := WT.fr7 w77 hJ f8 (by decide)
  have m16 : h3 75 4 = 2147483649 → 2147483650 ≤ h3 77 0 := by
    rw [f8 75 4 (by decide +kernel), f8 77 0 (by decide +kernel)]
    exact hB
  have t17 := Ty.fr hY f8 (by decide) (by decide)
  refine x_istore (np := 455) (x := 5) (lo' := [55340232221128654849, x_r 0, x_r 75, x_r 97, iv_c (2147483648 + j), iv_c r5, w6]) (by decide +kernel) l6 (Nat.le_of_ble_eq_true rfl) rfl ?_
  refine x_aload (np := 456) (x := 2) (by decide +kernel) rfl (x_nc_le (by decide)) ?_
  refine x_aloadS (np := 457) (x := 0) (by decide +kernel) rfl ?_
  refine x_iload (np := 459) (x := 4) (by decide +kernel) rfl (by omega) ?_
  refine x_const (np := 460) (x := 9223372043297226753) (a := 2147483649) (by decide +kernel) (by decide) (by decide) ?_
  refine x_iadd (np := 461) (x := 0) (v := (2147483648 + (j + 1))) (by decide +kernel) (by omega) (by decide) (by omega) (by omega) ?_
  refine x_scr (j := (j + 1)) hs (np := 462) (x := 0) (by decide +kernel) rfl (by omega) (by omega) ?_
  refine x_aloadS (np := 463) (x := 0) (by decide +kernel) rfl ?_
  refine x_iload (np := 465) (x := 4) (by decide +kernel) rfl (by omega) ?_
  refine x_const (np := 466) (x := 9223372047592194050) (a := 2147483650) (by decide +kernel) (by decide) (by decide) ?_
  refine x_iadd (np := 467) (x := 0) (v := (2147483648 + (j + 2))) (by decide +kernel) (by omega) (by decide) (by omega) (by omega) ?_
  refine x_scr (j := (j + 2)) hs (np := 468) (x := 0) (by decide +kernel) rfl (by omega) (by omega) ?_
  have b18 : (sv sc (j + 1)) < 4294967296 := sv_lt
  have b19 : (sv sc (j + 2)) < 4294967296 := sv_lt
  refine x_cIc (t := 6) (mj := 215) (n := 3) (rc := 12) (ml := 6) (cc := 0) (ss := 0) (nr := 0) (np := 471) (as := [x_r 75, iv_c (sv sc (j + 1)), iv_c (sv sc (j + 2))]) (rest := []) (lo1 := [x_r 75, iv_c (sv sc (j + 1)), iv_c (sv sc (j + 2)), 147573952589676412928, 147573952589676412928, 147573952589676412928]) (by decide +kernel) (by decide) (x_cbV (by decide +kernel) (by show _ ≤ 600000; omega) (by show _ ≤ 7300000; omega)) (x_rb_of (by decide +kernel)) rfl rfl (x_wr (by decide) (x_wi sv_lt (x_wi sv_lt x_wn))) x_wn (by decide) rfl (c215_75 j7 (by omega) (by omega) m14) (fun r22 h20 l23 q21 => ?_)
  obtain ⟨j24, f25, g26⟩ := q21
  have q27 : h20 1 1 = h3 1 1 := f25 1 1 (by decide +kernel)
  have q28 : h20 75 6 = h3 75 6 := f25 75 6 (by decide +kernel)
  have q29 : h20 0 10 = h3 0 10 := f25 0 10 (by decide +kernel)
  have q30 : h20 75 4 = h3 75 4 := f25 75 4 (by decide +kernel)
  have m31 := WT.fr m14 j7 f25 (by decide)
  have m32 := WT.fr7 m15 j7 f25 (by decide)
  have m33 : h20 75 4 = 2147483649 → 2147483650 ≤ h20 77 0 := by
    rw [f25 75 4 (by decide +kernel), f25 77 0 (by decide +kernel)]
    exact m16
  have t34 := Ty.fr t17 f25 (by decide) (by decide)
  refine x_istore (np := 473) (x := 6) (lo' := [55340232221128654849, x_r 0, x_r 75, x_r 97, iv_c (2147483648 + j), iv_c r5, iv_c r22]) (by decide +kernel) l23 (Nat.le_of_ble_eq_true rfl) rfl ?_
  refine x_goto (np := 476) (x := 1397) (by decide +kernel) ?_
  exact k (c0 + 2) (s0 + 12) (iv_c r5) (iv_c r22) h20 (by omega) (by omega) ⟨⟨j24, by omega, m31, m32, m33, by omega⟩, t34⟩
set_option maxHeartbeats 0 in
theorem lc_8 {sc : Nat × Nat} {d j c0 s0 w5 w6 : Nat} {h : xh} {Q : Nat → xh → Prop} (hs : scOK sc) (hI : INV9 h) (hj : j + 6 ≤ sc.1) (hc : c0 + 2 ≤ 600000) (hz : s0 + 12 ≤ 7300000) (k : ∀ c1 s1 v5 v6 h', c1 ≤ c0 + 2 → s1 ≤ s0 + 12 → INV9 h' → X sc 309 (d + 60) Q c1 s1 1397 [55340232221128654849, x_r 0, x_r 75, x_r 97, iv_c (2147483648 + j), v5, v6] [] h') : X sc 309 (d + 60) Q c0 s0 476 [55340232221128654849, x_r 0, x_r 75, x_r 97, iv_c (2147483648 + j), w5, w6] [] h := by
  obtain ⟨⟨hJ, hE, w76, w77, hB, hG⟩, hY⟩ := hI
  have h384 := hs.1
  refine x_aload (np := 477) (x := 1) (by decide +kernel) rfl (x_nc_le (by decide)) ?_
  refine x_aloadS (np := 478) (x := 0) (by decide +kernel) rfl ?_
  refine x_iload (np := 480) (x := 4) (by decide +kernel) rfl (by omega) ?_
  refine x_const (np := 481) (x := 9223372043297226753) (a := 2147483649) (by decide +kernel) (by decide) (by decide) ?_
  refine x_iadd (np := 482) (x := 0) (v := (2147483648 + (j + 1))) (by decide +kernel) (by omega) (by decide) (by omega) (by omega) ?_
  refine x_scr (j := (j + 1)) hs (np := 483) (x := 0) (by decide +kernel) rfl (by omega) (by omega) ?_
  refine x_aloadS (np := 484) (x := 0) (by decide +kernel) rfl ?_
  refine x_iload (np := 486) (x := 4) (by decide +kernel) rfl (by omega) ?_
  refine x_const (np := 487) (x := 9223372047592194050) (a := 2147483650) (by decide +kernel) (by decide) (by decide) ?_
  refine x_iadd (np := 488) (x := 0) (v := (2147483648 + (j + 2))) (by decide +kernel) (by omega) (by decide) (by omega) (by omega) ?_
  refine x_scr (j := (j + 2)) hs (np := 489) (x := 0) (by decide +kernel) rfl (by omega) (by omega) ?_
  refine x_aloadS (np := 490) (x := 0) (by decide +kernel) rfl ?_
  refine x_iload (np := 492) (x := 4) (by decide +kernel) rfl (by omega) ?_
  refine x_const (np := 493) (x := 9223372051887161347) (a := 2147483651) (by decide +kernel) (by decide) (by decide) ?_
  refine x_iadd (np := 494) (x := 0) (v := (2147483648 + (j + 3))) (by decide +kernel) (by omega) (by decide) (by omega) (by omega) ?_
  refine x_scr (j := (j + 3)) hs (np := 495) (x := 0) (by decide +kernel) rfl (by omega) (by omega) ?_
  refine x_aload (np := 496) (x := 3) (by decide +kernel) rfl (x_nc_le (by decide)) ?_
  have b1 : (sv sc (j + 1)) < 4294967296 := sv_lt
  have b2 : (sv sc (j + 2)) < 4294967296 := sv_lt
  have b3 : (sv sc (j + 3)) < 4294967296 := sv_lt
  refine x_cIc (t := 0) (mj := 287) (n := 5) (rc := 0) (ml := 6) (cc := 2) (ss := 12) (nr := 0) (np := 499) (as := [x_r 0, iv_c (sv sc (j + 1)), iv_c (sv sc (j + 2)), iv_c (sv sc (j + 3)), x_r 97]) (rest := []) (lo1 := [x_r 0, iv_c (sv sc (j + 1)), iv_c (sv sc (j + 2)), iv_c (sv sc (j + 3)), x_r 97, 147573952589676412928]) (by decide +kernel) (by decide) (x_cbV (by decide +kernel) (by show _ ≤ 600000; omega) (by show _ ≤ 7300000; omega)) (Or.inl rfl) rfl rfl (x_wr (by decide) (x_wi sv_lt (x_wi sv_lt (x_wi sv_lt (x_wr (by decide) x_wn))))) x_wn (by decide) rfl (c287_0_97 hJ (by omega) (by omega) (by omega)) (fun r6 h4 l7 q5 => ?_)
  obtain ⟨j8, f9, g10⟩ := q5
  have q11 : h4 1 1 = h 1 1 := f9 1 1 (by decide +kernel)
  have q12 : h4 75 6 = h 75 6 := f9 75 6 (by decide +kernel)
  have q13 : h4 0 10 = h 0 10 := f9 0 10 (by decide +kernel)
  have q14 : h4 75 4 = h 75 4 := f9 75 4 (by decide +kernel)
  have m15 := WT.fr w76 hJ f9 (by decide)
  have m16 := WT.fr7 w77 hJ f9 (by decide)
  have m17 : h4 75 4 = 2147483649 → 2147483650 ≤ h4 77 0 := by
    rw [f9 75 4 (by decide +kernel), f9 77 0 (by decide +kernel)]
    exact hB
  have t18 := Ty.fr hY f9 (by decide) (by decide)
  refine x_istore (np := 501) (x := 5) (lo' := [55340232221128654849, x_r 0, x_r 75, x_r 97, iv_c (2147483648 + j), iv_c r6, w6]) (by decide +kernel) l7 (Nat.le_of_ble_eq_true rfl) rfl ?_
  refine x_aload (np := 502) (x := 2) (by decide +kernel) rfl (x_nc_le (by decide)) ?_
  refine x_aloadS (np := 503) (x := 0) (by decide +kernel) rfl ?_
  refine x_iload (np := 505) (x := 4) (by decide +kernel) rfl (by omega) ?_
  refine x_const (np := 506) (x := 9223372043297226753) (a := 2147483649) (by decide +kernel) (by decide) (by decide) ?_
  refine x_iadd (np := 507) (x := 0) (v := (2147483648 + (j + 1))) (by decide +kernel) (by omega) (by decide) (by omega) (by omega) ?_
  refine x_scr (j := (j + 1)) hs (np := 508) (x := 0) (by decide +kernel) rfl (by omega) (by omega) ?_
  refine x_aloadS (np := 509) (x := 0) (by decide +kernel) rfl ?_
  refine x_iload (np := 511) (x := 4) (by decide +kernel) rfl (by omega) ?_
  refine x_const (np := 512) (x := 9223372047592194050) (a := 2147483650) (by decide +kernel) (by decide) (by decide) ?_
  refine x_iadd (np := 513) (x := 0) (v := (2147483648 + (j + 2))) (by decide +kernel) (by omega) (by decide) (by omega) (by omega) ?_
  refine x_scr (j := (j + 2)) hs (np := 514) (x := 0) (by decide +kernel) rfl (by omega) (by omega) ?_
  refine x_aloadS (np := 515) (x := 0) (by decide +kernel) rfl ?_
  refine x_iload (np := 517) (x := 4) (by decide +kernel) rfl (by omega) ?_
  refine x_const (np := 518) (x := 9223372051887161347) (a := 2147483651) (by decide +kernel) (by decide) (by decide) ?_
  refine x_iadd (np := 519) (x := 0) (v := (2147483648 + (j + 3))) (by decide +kernel) (by omega) (by decide) (by omega) (by omega) ?_
  refine x_scr (j := (j + 3)) hs (np := 520) (x := 0) (by decide +kernel) rfl (by omega) (by omega) ?_
  have b19 : (sv sc (j + 1)) < 4294967296 := sv_lt
  have b20 : (sv sc (j + 2)) < 4294967296 := sv_lt
  have b21 : (sv sc (j + 3)) < 4294967296 := sv_lt
  refine x_cIc (t := 6) (mj := 216) (n := 4) (rc := 12) (ml := 5) (cc := 0) (ss := 0) (nr := 0) (np := 523) (as := [x_r 75, iv_c (sv sc (j + 1)), iv_c (sv sc (j + 2)), iv_c (sv sc (j + 3))]) (rest := []) (lo1 := [x_r 75, iv_c (sv sc (j + 1)), iv_c (sv sc (j + 2)), iv_c (sv sc (j + 3)), 147573952589676412928]) (by decide +kernel) (by decide) (x_cbV (by decide +kernel) (by show _ ≤ 600000; omega) (by show _ ≤ 7300000; omega)) (x_rb_of (by decide +kernel)) rfl rfl (x_wr (by decide) (x_wi sv_lt (x_wi sv_lt (x_wi sv_lt x_wn)))) x_wn (by decide) rfl (c216_75 j8 (by omega) (by omega) (by omega) m15) (fun r24 h22 l25 q23 => ?_)
  obtain ⟨j26, f27, g28⟩ := q23
  have q29 : h22 1 1 = h4 1 1 := f27 1 1 (by decide +kernel)
  have q30 : h22 75 6 = h4 75 6 := f27 75 6 (by decide +kernel)
  have q31 : h22 0 10 = h4 0 10 := f27 0 10 (by decide +kernel)
  have q32 : h22 75 4 = h4 75 4 := f27 75 4 (by decide +kernel)
  have m33 := WT.fr m15 j8 f27 (by decide)
  have m34 := WT.fr7 m16 j8 f27 (by decide)
  have m35 : h22 75 4 = 2147483649 → 2147483650 ≤ h22 77 0 := by
    rw [f27 75 4 (by decide +kernel), f27 77 0 (by decide +kernel)]
    exact m17
  have t36 := Ty.fr t18 f27 (by decide) (by decide)
  refine x_istore (np := 525) (x := 6) (lo' := [55340232221128654849, x_r 0, x_r 75, x_r 97, iv_c (2147483648 + j), iv_c r6, iv_c r24]) (by decide +kernel) l25 (Nat.le_of_ble_eq_true rfl) rfl ?_
  refine x_goto (np := 528) (x := 1397) (by decide +kernel) ?_
  exact k (c0 + 2) (s0 + 12) (iv_c r6) (iv_c r24) h22 (by omega) (by omega) ⟨⟨j26, by omega, m33, m34, m35, by omega⟩, t36⟩
set_option maxHeartbeats 0 in
theorem lc_9 {sc : Nat × Nat} {d j c0 s0 w5 w6 : Nat} {h : xh} {Q : Nat → xh → Prop} (hs : scOK sc) (hI : INV9 h) (hj : j + 6 ≤ sc.1) (hc : c0 + 2 ≤ 600000) (hz : s0 + 12 ≤ 7300000) (k : ∀ c1 s1 v5 v6 h', c1 ≤ c0 + 2 → s1 ≤ s0 + 12 → INV9 h' → X sc 309 (d + 60) Q c1 s1 1397 [55340232221128654849, x_r 0, x_r 75, x_r 97, iv_c (2147483648 + j), v5, v6] [] h') : X sc 309 (d + 60) Q c0 s0 528 [55340232221128654849, x_r 0, x_r 75, x_r 97, iv_c (2147483648 + j), w5, w6] [] h := by
  obtain ⟨⟨hJ, hE, w76, w77, hB, hG⟩, hY⟩ := hI
  have h384 := hs.1
  refine x_aload (np := 529) (x := 1) (by decide +kernel) rfl (x_nc_le (by decide)) ?_
  refine x_aloadS (np := 530) (x := 0) (by decide +kernel) rfl ?_
  refine x_iload (np := 532) (x := 4) (by decide +kernel) rfl (by omega) ?_
  refine x_const (np := 533) (x := 9223372043297226753) (a := 2147483649) (by decide +kernel) (by decide) (by decide) ?_
  refine x_iadd (np := 534) (x := 0) (v := (2147483648 + (j + 1))) (by decide +kernel) (by omega) (by decide) (by omega) (by omega) ?_
  refine x_scr (j := (j + 1)) hs (np := 535) (x := 0) (by decide +kernel) rfl (by omega) (by omega) ?_
  refine x_aload (np := 536) (x := 3) (by decide +kernel) rfl (x_nc_le (by decide)) ?_
  have b1 : (sv sc (j + 1)) < 4294967296 := sv_lt
  refine x_cIc (t := 0) (mj := 288) (n := 3) (rc := 0) (ml := 4) (cc := 1) (ss := 6) (nr := 0) (np := 539) (as := [x_r 0, iv_c (sv sc (j + 1)), x_r 97]) (rest := []) (lo1 := [x_r 0, iv_c (sv sc (j + 1)), x_r 97, 147573952589676412928]) (by decide +kernel) (by decide) (x_cbV (by decide +kernel) (by show _ ≤ 600000; omega) (by show _ ≤ 7300000; omega)) (Or.inl rfl) rfl rfl (x_wr (by decide) (x_wi sv_lt (x_wr (by decide) x_wn))) x_wn (by decide) rfl (c288_0_97 hJ (by omega)) (fun r4 h2 l5 q3 => ?_)
  obtain ⟨j6, f7, g8⟩ := q3
  have q9 : h2 1 1 = h 1 1 := f7 1 1 (by decide +kernel)
  have q10 : h2 75 6 = h 75 6 := f7 75 6 (by decide +kernel)
  have q11 : h2 0 10 = h 0 10 := f7 0 10 (by decide +kernel)
  have q12 : h2 75 4 = h 75 4 := f7 75 4 (by decide +kernel)
  have m13 := WT.fr w76 hJ f7 (by decide)
  have m14 := WT.fr7 w77 hJ f7 (by decide)
  have m15 : h2 75 4 = 2147483649 → 2147483650 ≤ h2 77 0 := by
    rw [f7 75 4 (by decide +kernel), f7 77 0 (by decide +kernel)]
    exact hB
  have t16 := Ty.fr hY f7 (by decide) (by decide)
  refine x_istore (np := 541) (x := 5) (lo' := [55340232221128654849, x_r 0, x_r 75, x_r 97, iv_c (2147483648 + j), iv_c r4, w6]) (by decide +kernel) l5 (Nat.le_of_ble_eq_true rfl) rfl ?_
  refine x_aload (np := 542) (x := 2) (by decide +kernel) rfl (x_nc_le (by decide)) ?_
  refine x_aloadS (np := 543) (x := 0) (by decide +kernel) rfl ?_
  refine x_iload (np := 545) (x := 4) (by decide +kernel) rfl (by omega) ?_
  refine x_const (np := 546) (x := 9223372043297226753) (a := 2147483649) (by decide +kernel) (by decide) (by decide) ?_
  refine x_iadd (np := 547) (x := 0) (v := (2147483648 + (j + 1))) (by decide +kernel) (by omega) (by decide) (by omega) (by omega) ?_
  refine x_scr (j := (j + 1)) hs (np := 548) (x := 0) (by decide +kernel) rfl (by omega) (by omega) ?_
  have b17 : (sv sc (j + 1)) < 4294967296 := sv_lt
  refine x_cIc (t := 6) (mj := 219) (n := 2) (rc := 12) (ml := 4) (cc := 0) (ss := 0) (nr := 0) (np := 551) (as := [x_r 75, iv_c (sv sc (j + 1))]) (rest := []) (lo1 := [x_r 75, iv_c (sv sc (j + 1)), 147573952589676412928, 147573952589676412928]) (by decide +kernel) (by decide) (x_cbV (by decide +kernel) (by show _ ≤ 600000; omega) (by show _ ≤ 7300000; omega)) (x_rb_of (by decide +kernel)) rfl rfl (x_wr (by decide) (x_wi sv_lt x_wn)) x_wn (by decide) rfl (c219_75 j6 (by omega) m13) (fun r20 h18 l21 q19 => ?_)
  obtain ⟨j22, f23, g24⟩ := q19
  have q25 : h18 1 1 = h2 1 1 := f23 1 1 (by decide +kernel)
  have q26 : h18 75 6 = h2 75 6 := f23 75 6 (by decide +kernel)
  have q27 : h18 0 10 = h2 0 10 := f23 0 10 (by decide +kernel)
  have q28 : h18 75 4 = h2 75 4 := f23 75 4 (by decide +kernel)
  have m29 := WT.fr m13 j6 f23 (by decide)
  have m30 := WT.fr7 m14 j6 f23 (by decide)
  have m31 : h18 75 4 = 2147483649 → 2147483650 ≤ h18 77 0 := by
    rw [f23 75 4 (by decide +kernel), f23 77 0 (by decide +kernel)]
    exact m15
  have t32 := Ty.fr t16 f23 (by decide) (by decide)
  refine x_istore (np := 553) (x := 6) (lo' := [55340232221128654849, x_r 0, x_r 75, x_r 97, iv_c (2147483648 + j), iv_c r4, iv_c r20]) (by decide +kernel) l21 (Nat.le_of_ble_eq_true rfl) rfl ?_
  refine x_goto (np := 556) (x := 1397) (by decide +kernel) ?_
  exact k (c0 + 1) (s0 + 6) (iv_c r4) (iv_c r20) h18 (by omega) (by omega) ⟨⟨j22, by omega, m29, m30, m31, by omega⟩, t32⟩
set_option maxHeartbeats 0 in
theorem lc_10 {sc : Nat × Nat} {d j c0 s0 w5 w6 : Nat} {h : xh} {Q : Nat → xh → Prop} (hs : scOK sc) (hI : INV9 h) (hj : j + 6 ≤ sc.1) (hc : c0 + 2 ≤ 600000) (hz : s0 + 12 ≤ 7300000) (k : ∀ c1 s1 v5 v6 h', c1 ≤ c0 + 2 → s1 ≤ s0 + 12 → INV9 h' → X sc 309 (d + 60) Q c1 s1 1397 [55340232221128654849, x_r 0, x_r 75, x_r 97, iv_c (2147483648 + j), v5, v6] [] h') : X sc 309 (d + 60) Q c0 s0 556 [55340232221128654849, x_r 0, x_r 75, x_r 97, iv_c (2147483648 + j), w5, w6] [] h := by
  obtain ⟨⟨hJ, hE, w76, w77, hB, hG⟩, hY⟩ := hI
  have h384 := hs.1
  refine x_aload (np := 557) (x := 1) (by decide +kernel) rfl (x_nc_le (by decide)) ?_
  refine x_aloadS (np := 558) (x := 0) (by decide +kernel) rfl ?_
  refine x_iload (np := 560) (x := 4) (by decide +kernel) rfl (by omega) ?_
  refine x_const (np := 561) (x := 9223372043297226753) (a := 2147483649) (by decide +kernel) (by decide) (by decide) ?_
  refine x_iadd (np := 562) (x := 0) (v := (2147483648 + (j + 1))) (by decide +kernel) (by omega) (by decide) (by omega) (by omega) ?_
  refine x_scr (j := (j + 1)) hs (np := 563) (x := 0) (by decide +kernel) rfl (by omega) (by omega) ?_
  refine x_aload (np := 564) (x := 3) (by decide +kernel) rfl (x_nc_le (by decide)) ?_
  have b1 : (sv sc (j + 1)) < 4294967296 := sv_lt
  refine x_cIc (t := 0) (mj := 289) (n := 3) (rc := 0) (ml := 4) (cc := 1) (ss := 6) (nr := 0) (np := 567) (as := [x_r 0, iv_c (sv sc (j + 1)), x_r 97]) (rest := []) (lo1 := [x_r 0, iv_c (sv sc (j + 1)), x_r 97, 147573952589676412928]) (by decide +kernel) (by decide) (x_cbV (by decide +kernel) (by show _ ≤ 600000; omega) (by show _ ≤ 7300000; omega)) (Or.inl rfl) rfl rfl (x_wr (by decide) (x_wi sv_lt (x_wr (by decide) x_wn))) x_wn (by decide) rfl (c289_0_97 hJ (by omega)) (fun r4 h2 l5 q3 => ?_)
  obtain ⟨j6, f7, g8⟩ := q3
  have q9 : h2 1 1 = h 1 1 := f7 1 1 (by decide +kernel)
  have q10 : h2 75 6 = h 75 6 := f7 75 6 (by decide +kernel)
  have q11 : h2 0 10 = h 0 10 := f7 0 10 (by decide +kernel)
  have q12 : h2 75 4 = h 75 4 := f7 75 4 (by decide +kernel)
  have m13 := WT.fr w76 hJ f7 (by decide)
  have m14 := WT.fr7 w77 hJ f7 (by decide)
  have m15 : h2 75 4 = 2147483649 → 2147483650 ≤ h2 77 0 := by
    rw [f7 75 4 (by decide +kernel), f7 77 0 (by decide +kernel)]
    exact hB
  have t16 := Ty.fr hY f7 (by decide) (by decide)
  refine x_istore (np := 569) (x := 5) (lo' := [55340232221128654849, x_r 0, x_r 75, x_r 97, iv_c (2147483648 + j), iv_c r4, w6]) (by decide +kernel) l5 (Nat.le_of_ble_eq_true rfl) rfl ?_
  refine x_aload (np := 570) (x := 2) (by decide +kernel) rfl (x_nc_le (by decide)) ?_
  refine x_aloadS (np := 571) (x := 0) (by decide +kernel) rfl ?_
  refine x_iload (np := 573) (x := 4) (by decide +kernel) rfl (by omega) ?_
  refine x_const (np := 574) (x := 9223372043297226753) (a := 2147483649) (by decide +kernel) (by decide) (by decide) ?_
  refine x_iadd (np := 575) (x := 0) (v := (2147483648 + (j + 1))) (by decide +kernel) (by omega) (by decide) (by omega) (by omega) ?_
  refine x_scr (j := (j + 1)) hs (np := 576) (x := 0) (by decide +kernel) rfl (by omega) (by omega) ?_
  have b17 : (sv sc (j + 1)) < 4294967296 := sv_lt
  refine x_cIc (t := 6) (mj := 220) (n := 2) (rc := 12) (ml := 5) (cc := 0) (ss := 0) (nr := 0) (np := 579) (as := [x_r 75, iv_c (sv sc (j + 1))]) (rest := []) (lo1 := [x_r 75, iv_c (sv sc (j + 1)), 147573952589676412928, 147573952589676412928, 147573952589676412928]) (by decide +kernel) (by decide) (x_cbV (by decide +kernel) (by show _ ≤ 600000; omega) (by show _ ≤ 7300000; omega)) (x_rb_of (by decide +kernel)) rfl rfl (x_wr (by decide) (x_wi sv_lt x_wn)) x_wn (by decide) rfl (c220_75 j6 (by omega) m13) (fun r20 h18 l21 q19 => ?_)
  obtain ⟨j22, f23, g24⟩ := q19
  have q25 : h18 1 1 = h2 1 1 := f23 1 1 (by decide +kernel)
  have q26 : h18 75 6 = h2 75 6 := f23 75 6 (by decide +kernel)
  have q27 : h18 0 10 = h2 0 10 := f23 0 10 (by decide +kernel)
  have q28 : h18 75 4 = h2 75 4 := f23 75 4 (by decide +kernel)
  have m29 := WT.fr m13 j6 f23 (by decide)
  have m30 := WT.fr7 m14 j6 f23 (by decide)
  have m31 : h18 75 4 = 2147483649 → 2147483650 ≤ h18 77 0 := by
    rw [f23 75 4 (by decide +kernel), f23 77 0 (by decide +kernel)]
    exact m15
  have t32 := Ty.fr t16 f23 (by decide) (by decide)
  refine x_istore (np := 581) (x := 6) (lo' := [55340232221128654849, x_r 0, x_r 75, x_r 97, iv_c (2147483648 + j), iv_c r4, iv_c r20]) (by decide +kernel) l21 (Nat.le_of_ble_eq_true rfl) rfl ?_
  refine x_goto (np := 584) (x := 1397) (by decide +kernel) ?_
  exact k (c0 + 1) (s0 + 6) (iv_c r4) (iv_c r20) h18 (by omega) (by omega) ⟨⟨j22, by omega, m29, m30, m31, by omega⟩, t32⟩
set_option maxHeartbeats 0 in
theorem lc_11 {sc : Nat × Nat} {d j c0 s0 w5 w6 : Nat} {h : xh} {Q : Nat → xh → Prop} (hs : scOK sc) (hI : INV9 h) (hj : j + 6 ≤ sc.1) (hc : c0 + 2 ≤ 600000) (hz : s0 + 12 ≤ 7300000) (k : ∀ c1 s1 v5 v6 h', c1 ≤ c0 + 2 → s1 ≤ s0 + 12 → INV9 h' → X sc 309 (d + 60) Q c1 s1 1397 [55340232221128654849, x_r 0, x_r 75, x_r 97, iv_c (2147483648 + j), v5, v6] [] h') : X sc 309 (d + 60) Q c0 s0 584 [55340232221128654849, x_r 0, x_r 75, x_r 97, iv_c (2147483648 + j), w5, w6] [] h := by
  obtain ⟨⟨hJ, hE, w76, w77, hB, hG⟩, hY⟩ := hI
  have h384 := hs.1
  refine x_aload (np := 585) (x := 1) (by decide +kernel) rfl (x_nc_le (by decide)) ?_
  refine x_aloadS (np := 586) (x := 0) (by decide +kernel) rfl ?_
  refine x_iload (np := 588) (x := 4) (by decide +kernel) rfl (by omega) ?_
  refine x_const (np := 589) (x := 9223372043297226753) (a := 2147483649) (by decide +kernel) (by decide) (by decide) ?_
  refine x_iadd (np := 590) (x := 0) (v := (2147483648 + (j + 1))) (by decide +kernel) (by omega) (by decide) (by omega) (by omega) ?_
  refine x_scr (j := (j + 1)) hs (np := 591) (x := 0) (by decide +kernel) rfl (by omega) (by omega) ?_
  refine x_aloadS (np := 592) (x := 0) (by decide +kernel) rfl ?_
  refine x_iload (np := 594) (x := 4) (by decide +kernel) rfl (by omega) ?_
  refine x_const (np := 595) (x := 9223372047592194050) (a := 2147483650) (by decide +kernel) (by decide) (by decide) ?_
  refine x_iadd (np := 596) (x := 0) (v := (2147483648 + (j + 2))) (by decide +kernel) (by omega) (by decide) (by omega) (by omega) ?_
  refine x_scr (j := (j + 2)) hs (np := 597) (x := 0) (by decide +kernel) rfl (by omega) (by omega) ?_
  refine x_aload (np := 598) (x := 3) (by decide +kernel) rfl (x_nc_le (by decide)) ?_
  have b1 : (sv sc (j + 1)) < 4294967296 := sv_lt
  have b2 : (sv sc (j + 2)) < 4294967296 := sv_lt
  refine x_cIc (t := 0) (mj := 290) (n := 4) (rc := 0) (ml := 5) (cc := 2) (ss := 12) (nr := 0) (np := 601) (as := [x_r 0, iv_c (sv sc (j + 1)), iv_c (sv sc (j + 2)), x_r 97]) (rest := []) (lo1 := [x_r 0, iv_c (sv sc (j + 1)), iv_c (sv sc (j + 2)), x_r 97, 147573952589676412928]) (by decide +kernel) (by decide) (x_cbV (by decide +kernel) (by show _ ≤ 600000; omega) (by show _ ≤ 7300000; omega)) (Or.inl rfl) rfl rfl (x_wr (by decide) (x_wi sv_lt (x_wi sv_lt (x_wr (by decide) x_wn)))) x_wn (by decide) rfl (c290_0_97 hJ (by omega) (by omega)) (fun r5 h3 l6 q4 => ?_)
  obtain ⟨j7, f8, g9⟩ := q4
  have q10 : h3 1 1 = h 1 1 := f8 1 1 (by decide +kernel)
  have q11 : h3 75 6 = h 75 6 := f8 75 6 (by decide +kernel)
  have q12 : h3 0 10 = h 0 10 := f8 0 10 (by decide +kernel)
  have q13 : h3 75 4 = h 75 4 := f8 75 4 (by decide +kernel)
  have m14 := WT.fr w76 hJ f8 (by decide)
  have m15 := WT.fr7 w77 hJ f8 (by decide)
  have m16 : h3 75 4 = 2147483649 → 2147483650 ≤ h3 77 0 := by
    rw [f8 75 4 (by decide +kernel), f8 77 0 (by decide +kernel)]
    exact hB
  have t17 := Ty.fr hY f8 (by decide) (by decide)
  refine x_istore (np := 603) (x := 5) (lo' := [55340232221128654849, x_r 0, x_r 75, x_r 97, iv_c (2147483648 + j), iv_c r5, w6]) (by decide +kernel) l6 (Nat.le_of_ble_eq_true rfl) rfl ?_
  refine x_aload (np := 604) (x := 2) (by decide +kernel) rfl (x_nc_le (by decide)) ?_
  refine x_aloadS (np := 605) (x := 0) (by decide +kernel) rfl ?_
  refine x_iload (np := 607) (x := 4) (by decide +kernel) rfl (by omega) ?_
  refine x_const (np := 608) (x := 9223372043297226753) (a := 2147483649) (by decide +kernel) (by decide) (by decide) ?_
  refine x_iadd (np := 609) (x := 0) (v := (2147483648 + (j + 1))) (by decide +kernel) (by omega) (by decide) (by omega) (by omega) ?_
  refine x_scr (j := (j + 1)) hs (np := 610) (x := 0) (by decide +kernel) rfl (by omega) (by omega) ?_
  refine x_aloadS (np := 611) (x := 0) (by decide +kernel) rfl ?_
  refine x_iload (np := 613) (x := 4) (by decide +kernel) rfl (by omega) ?_
  refine x_const (np := 614) (x := 9223372047592194050) (a := 2147483650) (by decide +kernel) (by decide) (by decide) ?_
  refine x_iadd (np := 615) (x := 0) (v := (2147483648 + (j + 2))) (by decide +kernel) (by omega) (by decide) (by omega) (by omega) ?_
  refine x_scr (j := (j + 2)) hs (np := 616) (x := 0) (by decide +kernel) rfl (by omega) (by omega) ?_
  have b18 : (sv sc (j + 1)) < 4294967296 := sv_lt
  have b19 : (sv sc (j + 2)) < 4294967296 := sv_lt
  refine x_cIc (t := 6) (mj := 221) (n := 3) (rc := 12) (ml := 3) (cc := 0) (ss := 0) (nr := 0) (np := 619) (as := [x_r 75, iv_c (sv sc (j + 1)), iv_c (sv sc (j + 2))]) (rest := []) (lo1 := [x_r 75, iv_c (sv sc (j + 1)), iv_c (sv sc (j + 2))]) (by decide +kernel) (by decide) (x_cbV (by decide +kernel) (by show _ ≤ 600000; omega) (by show _ ≤ 7300000; omega)) (x_rb_of (by decide +kernel)) rfl rfl (x_wr (by decide) (x_wi sv_lt (x_wi sv_lt x_wn))) x_wn (by decide) rfl (c221_75 j7 (by omega) (by omega)) (fun r22 h20 l23 q21 => ?_)
  obtain ⟨j24, f25, g26⟩ := q21
  have q27 : h20 1 1 = h3 1 1 := f25 1 1 (by decide +kernel)
  have q28 : h20 75 6 = h3 75 6 := f25 75 6 (by decide +kernel)
  have q29 : h20 0 10 = h3 0 10 := f25 0 10 (by decide +kernel)
  have q30 : h20 75 4 = h3 75 4 := f25 75 4 (by decide +kernel)
  have m31 := WT.fr m14 j7 f25 (by decide)
  have m32 := WT.fr7 m15 j7 f25 (by decide)
  have m33 : h20 75 4 = 2147483649 → 2147483650 ≤ h20 77 0 := by
    rw [f25 75 4 (by decide +kernel), f25 77 0 (by decide +kernel)]
    exact m16
  have t34 := Ty.fr t17 f25 (by decide) (by decide)
  refine x_istore (np := 621) (x := 6) (lo' := [55340232221128654849, x_r 0, x_r 75, x_r 97, iv_c (2147483648 + j), iv_c r5, iv_c r22]) (by decide +kernel) l23 (Nat.le_of_ble_eq_true rfl) rfl ?_
  refine x_goto (np := 624) (x := 1397) (by decide +kernel) ?_
  exact k (c0 + 2) (s0 + 12) (iv_c r5) (iv_c r22) h20 (by omega) (by omega) ⟨⟨j24, by omega, m31, m32, m33, by omega⟩, t34⟩
set_option maxHeartbeats 0 in
theorem lc_12 {sc : Nat × Nat} {d j c0 s0 w5 w6 : Nat} {h : xh} {Q : Nat → xh → Prop} (hs : scOK sc) (hI : INV9 h) (hj : j + 6 ≤ sc.1) (hc : c0 + 2 ≤ 600000) (hz : s0 + 12 ≤ 7300000) (k : ∀ c1 s1 v5 v6 h', c1 ≤ c0 + 2 → s1 ≤ s0 + 12 → INV9 h' → X sc 309 (d + 60) Q c1 s1 1397 [55340232221128654849, x_r 0, x_r 75, x_r 97, iv_c (2147483648 + j), v5, v6] [] h') : X sc 309 (d + 60) Q c0 s0 624 [55340232221128654849, x_r 0, x_r 75, x_r 97, iv_c (2147483648 + j), w5, w6] [] h := by
  obtain ⟨⟨hJ, hE, w76, w77, hB, hG⟩, hY⟩ := hI
  have h384 := hs.1
  refine x_aload (np := 625) (x := 1) (by decide +kernel) rfl (x_nc_le (by decide)) ?_
  refine x_aloadS (np := 626) (x := 0) (by decide +kernel) rfl ?_
  refine x_iload (np := 628) (x := 4) (by decide +kernel) rfl (by omega) ?_
  refine x_const (np := 629) (x := 9223372043297226753) (a := 2147483649) (by decide +kernel) (by decide) (by decide) ?_
  refine x_iadd (np := 630) (x := 0) (v := (2147483648 + (j + 1))) (by decide +kernel) (by omega) (by decide) (by omega) (by omega) ?_
  refine x_scr (j := (j + 1)) hs (np := 631) (x := 0) (by decide +kernel) rfl (by omega) (by omega) ?_
  refine x_aloadS (np := 632) (x := 0) (by decide +kernel) rfl ?_
  refine x_iload (np := 634) (x := 4) (by decide +kernel) rfl (by omega) ?_
  refine x_const (np := 635) (x := 9223372047592194050) (a := 2147483650) (by decide +kernel) (by decide) (by decide) ?_
  refine x_iadd (np := 636) (x := 0) (v := (2147483648 + (j + 2))) (by decide +kernel) (by omega) (by decide) (by omega) (by omega) ?_
  refine x_scr (j := (j + 2)) hs (np := 637) (x := 0) (by decide +kernel) rfl (by omega) (by omega) ?_
  refine x_aload (np := 638) (x := 3) (by decide +kernel) rfl (x_nc_le (by decide)) ?_
  have b1 : (sv sc (j + 1)) < 4294967296 := sv_lt
  have b2 : (sv sc (j + 2)) < 4294967296 := sv_lt
  refine x_cIc (t := 0) (mj := 291) (n := 4) (rc := 0) (ml := 5) (cc := 2) (ss := 12) (nr := 0) (np := 641) (as := [x_r 0, iv_c (sv sc (j + 1)), iv_c (sv sc (j + 2)), x_r 97]) (rest := []) (lo1 := [x_r 0, iv_c (sv sc (j + 1)), iv_c (sv sc (j + 2)), x_r 97, 147573952589676412928]) (by decide +kernel) (by decide) (x_cbV (by decide +kernel) (by show _ ≤ 600000; omega) (by show _ ≤ 7300000; omega)) (Or.inl rfl) rfl rfl (x_wr (by decide) (x_wi sv_lt (x_wi sv_lt (x_wr (by decide) x_wn)))) x_wn (by decide) rfl (c291_0_97 hJ (by omega) (by omega)) (fun r5 h3 l6 q4 => ?_)
  obtain ⟨j7, f8, g9⟩ := q4
  have q10 : h3 1 1 = h 1 1 := f8 1 1 (by decide +kernel)
  have q11 : h3 75 6 = h 75 6 := f8 75 6 (by decide +kernel)
  have q12 : h3 0 10 = h 0 10 := f8 0 10 (by decide +kernel)
  have q13 : h3 75 4 = h 75 4 := f8 75 4 (by decide +kernel)
  have m14 := WT.fr w76 hJ f8 (by decide)
  have m15 := WT.fr7 w77 hJ f8 (by decide)
  have m16 : h3 75 4 = 2147483649 → 2147483650 ≤ h3 77 0 := by
    rw [f8 75 4 (by decide +kernel), f8 77 0 (by decide +kernel)]
    exact hB
  have t17 := Ty.fr hY f8 (by decide) (by decide)
  refine x_istore (np := 643) (x := 5) (lo' := [55340232221128654849, x_r 0, x_r 75, x_r 97, iv_c (2147483648 + j), iv_c r5, w6]) (by decide +kernel) l6 (Nat.le_of_ble_eq_true rfl) rfl ?_
  refine x_aload (np := 644) (x := 2) (by decide +kernel) rfl (x_nc_le (by decide)) ?_
  refine x_aloadS (np := 645) (x := 0) (by decide +kernel) rfl ?_
  refine x_iload (np := 647) (x := 4) (by decide +kernel) rfl (by omega) ?_
  refine x_const (np := 648) (x := 9223372043297226753) (a := 2147483649) (by decide +kernel) (by decide) (by decide) ?_
  refine x_iadd (np := 649) (x := 0) (v := (2147483648 + (j + 1))) (by decide +kernel) (by omega) (by decide) (by omega) (by omega) ?_
  refine x_scr (j := (j + 1)) hs (np := 650) (x := 0) (by decide +kernel) rfl (by omega) (by omega) ?_
  refine x_aloadS (np := 651) (x := 0) (by decide +kernel) rfl ?_
  refine x_iload (np := 653) (x := 4) (by decide +kernel) rfl (by omega) ?_
  refine x_const (np := 654) (x := 9223372047592194050) (a := 2147483650) (by decide +kernel) (by decide) (by decide) ?_
  refine x_iadd (np := 655) (x := 0) (v := (2147483648 + (j + 2))) (by decide +kernel) (by omega) (by decide) (by omega) (by omega) ?_
  refine x_scr (j := (j + 2)) hs (np := 656) (x := 0) (by decide +kernel) rfl (by omega) (by omega) ?_
  have b18 : (sv sc (j + 1)) < 4294967296 := sv_lt
  have b19 : (sv sc (j + 2)) < 4294967296 := sv_lt
  refine x_cIc (t := 6) (mj := 223) (n := 3) (rc := 12) (ml := 3) (cc := 0) (ss := 0) (nr := 0) (np := 659) (as := [x_r 75, iv_c (sv sc (j + 1)), iv_c (sv sc (j + 2))]) (rest := []) (lo1 := [x_r 75, iv_c (sv sc (j + 1)), iv_c (sv sc (j + 2))]) (by decide +kernel) (by decide) (x_cbV (by decide +kernel) (by show _ ≤ 600000; omega) (by show _ ≤ 7300000; omega)) (x_rb_of (by decide +kernel)) rfl rfl (x_wr (by decide) (x_wi sv_lt (x_wi sv_lt x_wn))) x_wn (by decide) rfl (c223_75 j7 (by omega) (by omega) m14) (fun r22 h20 l23 q21 => ?_)
  obtain ⟨j24, f25, g26⟩ := q21
  have q27 : h20 1 1 = h3 1 1 := f25 1 1 (by decide +kernel)
  have q28 : h20 75 6 = h3 75 6 := f25 75 6 (by decide +kernel)
  have q29 : h20 0 10 = h3 0 10 := f25 0 10 (by decide +kernel)
  have q30 : h20 75 4 = h3 75 4 := f25 75 4 (by decide +kernel)
  have m31 := WT.fr m14 j7 f25 (by decide)
  have m32 := WT.fr7 m15 j7 f25 (by decide)
  have m33 : h20 75 4 = 2147483649 → 2147483650 ≤ h20 77 0 := by
    rw [f25 75 4 (by decide +kernel), f25 77 0 (by decide +kernel)]
    exact m16
  have t34 := Ty.fr t17 f25 (by decide) (by decide)
  refine x_istore (np := 661) (x := 6) (lo' := [55340232221128654849, x_r 0, x_r 75, x_r 97, iv_c (2147483648 + j), iv_c r5, iv_c r22]) (by decide +kernel) l23 (Nat.le_of_ble_eq_true rfl) rfl ?_
  refine x_goto (np := 664) (x := 1397) (by decide +kernel) ?_
  exact k (c0 + 2) (s0 + 12) (iv_c r5) (iv_c r22) h20 (by omega) (by omega) ⟨⟨j24, by omega, m31, m32, m33, by omega⟩, t34⟩
set_option maxHeartbeats 0 in
theorem lc_13 {sc : Nat × Nat} {d j c0 s0 w5 w6 : Nat} {h : xh} {Q : Nat → xh → Prop} (hs : scOK sc) (hI : INV9 h) (hj : j + 6 ≤ sc.1) (hc : c0 + 2 ≤ 600000) (hz : s0 + 12 ≤ 7300000) (k : ∀ c1 s1 v5 v6 h', c1 ≤ c0 + 2 → s1 ≤ s0 + 12 → INV9 h' → X sc 309 (d + 60) Q c1 s1 1397 [55340232221128654849, x_r 0, x_r 75, x_r 97, iv_c (2147483648 + j), v5, v6] [] h') : X sc 309 (d + 60) Q c0 s0 664 [55340232221128654849, x_r 0, x_r 75, x_r 97, iv_c (2147483648 + j), w5, w6] [] h := by
  obtain ⟨⟨hJ, hE, w76, w77, hB, hG⟩, hY⟩ := hI
  have h384 := hs.1
  refine x_aload (np := 665) (x := 1) (by decide +kernel) rfl (x_nc_le (by decide)) ?_
  refine x_aloadS (np := 666) (x := 0) (by decide +kernel) rfl ?_
  refine x_iload (np := 668) (x := 4) (by decide +kernel) rfl (by omega) ?_
  refine x_const (np := 669) (x := 9223372043297226753) (a := 2147483649) (by decide +kernel) (by decide) (by decide) ?_
  refine x_iadd (np := 670) (x := 0) (v := (2147483648 + (j + 1))) (by decide +kernel) (by omega) (by decide) (by omega) (by omega) ?_
  refine x_scr (j := (j + 1)) hs (np := 671) (x := 0) (by decide +kernel) rfl (by omega) (by omega) ?_
  refine x_aloadS (np := 672) (x := 0) (by decide +kernel) rfl ?_
  refine x_iload (np := 674) (x := 4) (by decide +kernel) rfl (by omega) ?_
  refine x_const (np := 675) (x := 9223372047592194050) (a := 2147483650) (by decide +kernel) (by decide) (by decide) ?_
  refine x_iadd (np := 676) (x := 0) (v := (2147483648 + (j + 2))) (by decide +kernel) (by omega) (by decide) (by omega) (by omega) ?_
  refine x_scr (j := (j + 2)) hs (np := 677) (x := 0) (by decide +kernel) rfl (by omega) (by omega) ?_
  refine x_ifz (k := 0) (tg := 684) (np := 680) (by decide +kernel) (by decide) sv_lt (fun q1 => ?_) (fun q1 => ?_)
  · skip
    refine x_const (np := 685) (x := 9223372039002259456) (a := 2147483648) (by decide +kernel) (by decide) (by decide) ?_
    refine x_aload (np := 686) (x := 3) (by decide +kernel) rfl (x_nc_le (by decide)) ?_
    have b2 : (sv sc (j + 1)) < 4294967296 := sv_lt
    refine x_cIc (t := 0) (mj := 292) (n := 4) (rc := 0) (ml := 5) (cc := 1) (ss := 6) (nr := 0) (np := 689) (as := [x_r 0, iv_c (sv sc (j + 1)), iv_c 2147483648, x_r 97]) (rest := []) (lo1 := [x_r 0, iv_c (sv sc (j + 1)), iv_c 2147483648, x_r 97, 147573952589676412928]) (by decide +kernel) (by decide) (x_cbV (by decide +kernel) (by show _ ≤ 600000; omega) (by show _ ≤ 7300000; omega)) (Or.inl rfl) rfl rfl (x_wr (by decide) (x_wi sv_lt (x_wi (by decide) (x_wr (by decide) x_wn)))) x_wn (by decide) rfl (c292_0_97 hJ (by omega) (by omega)) (fun r5 h3 l6 q4 => ?_)
    obtain ⟨j7, f8, g9⟩ := q4
    have q10 : h3 1 1 = h 1 1 := f8 1 1 (by decide +kernel)
    have q11 : h3 75 6 = h 75 6 := f8 75 6 (by decide +kernel)
    have q12 : h3 0 10 = h 0 10 := f8 0 10 (by decide +kernel)
    have q13 : h3 75 4 = h 75 4 := f8 75 4 (by decide +kernel)
    have m14 := WT.fr w76 hJ f8 (by decide)
    have m15 := WT.fr7 w77 hJ f8 (by decide)
    have m16 : h3 75 4 = 2147483649 → 2147483650 ≤ h3 77 0 := by
      rw [f8 75 4 (by decide +kernel), f8 77 0 (by decide +kernel)]
      exact hB
    have t17 := Ty.fr hY f8 (by decide) (by decide)
    refine x_istore (np := 691) (x := 5) (lo' := [55340232221128654849, x_r 0, x_r 75, x_r 97, iv_c (2147483648 + j), iv_c r5, w6]) (by decide +kernel) l6 (Nat.le_of_ble_eq_true rfl) rfl ?_
    refine x_aload (np := 692) (x := 2) (by decide +kernel) rfl (x_nc_le (by decide)) ?_
    refine x_aloadS (np := 693) (x := 0) (by decide +kernel) rfl ?_
    refine x_iload (np := 695) (x := 4) (by decide +kernel) rfl (by omega) ?_
    refine x_const (np := 696) (x := 9223372043297226753) (a := 2147483649) (by decide +kernel) (by decide) (by decide) ?_
    refine x_iadd (np := 697) (x := 0) (v := (2147483648 + (j + 1))) (by decide +kernel) (by omega) (by decide) (by omega) (by omega) ?_
    refine x_scr (j := (j + 1)) hs (np := 698) (x := 0) (by decide +kernel) rfl (by omega) (by omega) ?_
    refine x_aloadS (np := 699) (x := 0) (by decide +kernel) rfl ?_
    refine x_iload (np := 701) (x := 4) (by decide +kernel) rfl (by omega) ?_
    refine x_const (np := 702) (x := 9223372047592194050) (a := 2147483650) (by decide +kernel) (by decide) (by decide) ?_
    refine x_iadd (np := 703) (x := 0) (v := (2147483648 + (j + 2))) (by decide +kernel) (by omega) (by decide) (by omega) (by omega) ?_
    refine x_scr (j := (j + 2)) hs (np := 704) (x := 0) (by decide +kernel) rfl (by omega) (by omega) ?_
    refine x_ifz (k := 0) (tg := 711) (np := 707) (by decide +kernel) (by decide) sv_lt (fun q18 => ?_) (fun q18 => ?_)
    · skip
      refine x_const (np := 712) (x := 9223372039002259456) (a := 2147483648) (by decide +kernel) (by decide) (by decide) ?_
      have b19 : (sv sc (j + 1)) < 4294967296 := sv_lt
      refine x_cIc (t := 6) (mj := 224) (n := 3) (rc := 12) (ml := 5) (cc := 0) (ss := 0) (nr := 0) (np := 715) (as := [x_r 75, iv_c (sv sc (j + 1)), iv_c 2147483648]) (rest := []) (lo1 := [x_r 75, iv_c (sv sc (j + 1)), iv_c 2147483648, 147573952589676412928, 147573952589676412928]) (by decide +kernel) (by decide) (x_cbV (by decide +kernel) (by show _ ≤ 600000; omega) (by show _ ≤ 7300000; omega)) (x_rb_of (by decide +kernel)) rfl rfl (x_wr (by decide) (x_wi sv_lt (x_wi (by decide) x_wn))) x_wn (by decide) rfl (c224_75 j7 (by omega) (by omega) m14) (fun r22 h20 l23 q21 => ?_)
      obtain ⟨j24, f25, g26⟩ := q21
      have q27 : h20 1 1 = h3 1 1 := f25 1 1 (by decide +kernel)
      have q28 : h20 75 6 = h3 75 6 := f25 75 6 (by decide +kernel)
      have q29 : h20 0 10 = h3 0 10 := f25 0 10 (by decide +kernel)
      have q30 : h20 75 4 = h3 75 4 := f25 75 4 (by decide +kernel)
      have m31 := WT.fr m14 j7 f25 (by decide)
      have m32 := WT.fr7 m15 j7 f25 (by decide)
      have m33 : h20 75 4 = 2147483649 → 2147483650 ≤ h20 77 0 := by
        rw [f25 75 4 (by decide +kernel), f25 77 0 (by decide +kernel)]
        exact m16
      have t34 := Ty.fr t17 f25 (by decide) (by decide)
      refine x_istore (np := 717) (x := 6) (lo' := [55340232221128654849, x_r 0, x_r 75, x_r 97, iv_c (2147483648 + j), iv_c r5, iv_c r22]) (by decide +kernel) l23 (Nat.le_of_ble_eq_true rfl) rfl ?_
      refine x_goto (np := 720) (x := 1397) (by decide +kernel) ?_
      exact k (c0 + 1) (s0 + 6) (iv_c r5) (iv_c r22) h20 (by omega) (by omega) ⟨⟨j24, by omega, m31, m32, m33, by omega⟩, t34⟩
    refine x_const (np := 708) (x := 9223372043297226753) (a := 2147483649) (by decide +kernel) (by decide) (by decide) ?_
    refine x_goto (np := 711) (x := 712) (by decide +kernel) ?_
    have b35 : (sv sc (j + 1)) < 4294967296 := sv_lt
    refine x_cIc (t := 6) (mj := 224) (n := 3) (rc := 12) (ml := 5) (cc := 0) (ss := 0) (nr := 0) (np := 715) (as := [x_r 75, iv_c (sv sc (j + 1)), iv_c 2147483649]) (rest := []) (lo1 := [x_r 75, iv_c (sv sc (j + 1)), iv_c 2147483649, 147573952589676412928, 147573952589676412928]) (by decide +kernel) (by decide) (x_cbV (by decide +kernel) (by show _ ≤ 600000; omega) (by show _ ≤ 7300000; omega)) (x_rb_of (by decide +kernel)) rfl rfl (x_wr (by decide) (x_wi sv_lt (x_wi (by decide) x_wn))) x_wn (by decide) rfl (c224_75 j7 (by omega) (by omega) m14) (fun r38 h36 l39 q37 => ?_)
    obtain ⟨j40, f41, g42⟩ := q37
    have q43 : h36 1 1 = h3 1 1 := f41 1 1 (by decide +kernel)
    have q44 : h36 75 6 = h3 75 6 := f41 75 6 (by decide +kernel)
    have q45 : h36 0 10 = h3 0 10 := f41 0 10 (by decide +kernel)
    have q46 : h36 75 4 = h3 75 4 := f41 75 4 (by decide +kernel)
    have m47 := WT.fr m14 j7 f41 (by decide)
    have m48 := WT.fr7 m15 j7 f41 (by decide)
    have m49 : h36 75 4 = 2147483649 → 2147483650 ≤ h36 77 0 := by
      rw [f41 75 4 (by decide +kernel), f41 77 0 (by decide +kernel)]
      exact m16
    have t50 := Ty.fr t17 f41 (by decide) (by decide)
    refine x_istore (np := 717) (x := 6) (lo' := [55340232221128654849, x_r 0, x_r 75, x_r 97, iv_c (2147483648 + j), iv_c r5, iv_c r38]) (by decide +kernel) l39 (Nat.le_of_ble_eq_true rfl) rfl ?_
    refine x_goto (np := 720) (x := 1397) (by decide +kernel) ?_
    exact k (c0 + 1) (s0 + 6) (iv_c r5) (iv_c r38) h36 (by omega) (by omega) ⟨⟨j40, by omega, m47, m48, m49, by omega⟩, t50⟩
  refine x_const (np := 681) (x := 9223372043297226753) (a := 2147483649) (by decide +kernel) (by decide) (by decide) ?_
  refine x_goto (np := 684) (x := 685) (by decide +kernel) ?_
  refine x_aload (np := 686) (x := 3) (by decide +kernel) rfl (x_nc_le (by decide)) ?_
  have b51 : (sv sc (j + 1)) < 4294967296 := sv_lt
  refine x_cIc (t := 0) (mj := 292) (n := 4) (rc := 0) (ml := 5) (cc := 1) (ss := 6) (nr := 0) (np := 689) (as := [x_r 0, iv_c (sv sc (j + 1)), iv_c 2147483649, x_r 97]) (rest := []) (lo1 := [x_r 0, iv_c (sv sc (j + 1)), iv_c 2147483649, x_r 97, 147573952589676412928]) (by decide +kernel) (by decide) (x_cbV (by decide +kernel) (by show _ ≤ 600000; omega) (by show _ ≤ 7300000; omega)) (Or.inl rfl) rfl rfl (x_wr (by decide) (x_wi sv_lt (x_wi (by decide) (x_wr (by decide) x_wn)))) x_wn (by decide) rfl (c292_0_97 hJ (by omega) (by omega)) (fun r54 h52 l55 q53 => ?_)
  obtain ⟨j56, f57, g58⟩ := q53
  have q59 : h52 1 1 = h 1 1 := f57 1 1 (by decide +kernel)
  have q60 : h52 75 6 = h 75 6 := f57 75 6 (by decide +kernel)
  have q61 : h52 0 10 = h 0 10 := f57 0 10 (by decide +kernel)
  have q62 : h52 75 4 = h 75 4 := f57 75 4 (by decide +kernel)
  have m63 := WT.fr w76 hJ f57 (by decide)
  have m64 := WT.fr7 w77 hJ f57 (by decide)
  have m65 : h52 75 4 = 2147483649 → 2147483650 ≤ h52 77 0 := by
    rw [f57 75 4 (by decide +kernel), f57 77 0 (by decide +kernel)]
    exact hB
  have t66 := Ty.fr hY f57 (by decide) (by decide)
  refine x_istore (np := 691) (x := 5) (lo' := [55340232221128654849, x_r 0, x_r 75, x_r 97, iv_c (2147483648 + j), iv_c r54, w6]) (by decide +kernel) l55 (Nat.le_of_ble_eq_true rfl) rfl ?_
  refine x_aload (np := 692) (x := 2) (by decide +kernel) rfl (x_nc_le (by decide)) ?_
  refine x_aloadS (np := 693) (x := 0) (by decide +kernel) rfl ?_
  refine x_iload (np := 695) (x := 4) (by decide +kernel) rfl (by omega) ?_
  refine x_const (np := 696) (x := 9223372043297226753) (a := 2147483649) (by decide +kernel) (by decide) (by decide) ?_
  refine x_iadd (np := 697) (x := 0) (v := (2147483648 + (j + 1))) (by decide +kernel) (by omega) (by decide) (by omega) (by omega) ?_
  refine x_scr (j := (j + 1)) hs (np := 698) (x := 0) (by decide +kernel) rfl (by omega) (by omega) ?_
  refine x_aloadS (np := 699) (x := 0) (by decide +kernel) rfl ?_
  refine x_iload (np := 701) (x := 4) (by decide +kernel) rfl (by omega) ?_
  refine x_const (np := 702) (x := 9223372047592194050) (a := 2147483650) (by decide +kernel) (by decide) (by decide) ?_
  refine x_iadd (np := 703) (x := 0) (v := (2147483648 + (j + 2))) (by decide +kernel) (by omega) (by decide) (by omega) (by omega) ?_
  refine x_scr (j := (j + 2)) hs (np := 704) (x := 0) (by decide +kernel) rfl (by omega) (by omega) ?_
  refine x_ifz (k := 0) (tg := 711) (np := 707) (by decide +kernel) (by decide) sv_lt (fun q67 => ?_) (fun q67 => ?_)
  · skip
    refine x_const (np := 712) (x := 9223372039002259456) (a := 2147483648) (by decide +kernel) (by decide) (by decide) ?_
    have b68 : (sv sc (j + 1)) < 4294967296 := sv_lt
    refine x_cIc (t := 6) (mj := 224) (n := 3) (rc := 12) (ml := 5) (cc := 0) (ss := 0) (nr := 0) (np := 715) (as := [x_r 75, iv_c (sv sc (j + 1)), iv_c 2147483648]) (rest := []) (lo1 := [x_r 75, iv_c (sv sc (j + 1)), iv_c 2147483648, 147573952589676412928, 147573952589676412928]) (by decide +kernel) (by decide) (x_cbV (by decide +kernel) (by show _ ≤ 600000; omega) (by show _ ≤ 7300000; omega)) (x_rb_of (by decide +kernel)) rfl rfl (x_wr (by decide) (x_wi sv_lt (x_wi (by decide) x_wn))) x_wn (by decide) rfl (c224_75 j56 (by omega) (by omega) m63) (fun r71 h69 l72 q70 => ?_)
    obtain ⟨j73, f74, g75⟩ := q70
    have q76 : h69 1 1 = h52 1 1 := f74 1 1 (by decide +kernel)
    have q77 : h69 75 6 = h52 75 6 := f74 75 6 (by decide +kernel)
    have q78 : h69 0 10 = h52 0 10 := f74 0 10 (by decide +kernel)
    have q79 : h69 75 4 = h52 75 4 := f74 75 4 (by decide +kernel)
    have m80 := WT.fr m63 j56 f74 (by decide)
    have m81 := WT.fr7 m64 j56 f74 (by decide)
    have m82 : h69 75 4 = 2147483649 → 2147483650 ≤ h69 77 0 := by
      rw [f74 75 4 (by decide +kernel), f74 77 0 (by decide +kernel)]
      exact m65
    have t83 := Ty.fr t66 f74 (by decide) (by decide)
    refine x_istore (np := 717) (x := 6) (lo' := [55340232221128654849, x_r 0, x_r 75, x_r 97, iv_c (2147483648 + j), iv_c r54, iv_c r71]) (by decide +kernel) l72 (Nat.le_of_ble_eq_true rfl) rfl ?_
    refine x_goto (np := 720) (x := 1397) (by decide +kernel) ?_
    exact k (c0 + 1) (s0 + 6) (iv_c r54) (iv_c r71) h69 (by omega) (by omega) ⟨⟨j73, by omega, m80, m81, m82, by omega⟩, t83⟩
  refine x_const (np := 708) (x := 9223372043297226753) (a := 2147483649) (by decide +kernel) (by decide) (by decide) ?_
  refine x_goto (np := 711) (x := 712) (by decide +kernel) ?_
  have b84 : (sv sc (j + 1)) < 4294967296 := sv_lt
  refine x_cIc (t := 6) (mj := 224) (n := 3) (rc := 12) (ml := 5) (cc := 0) (ss := 0) (nr := 0) (np := 715) (as := [x_r 75, iv_c (sv sc (j + 1)), iv_c 2147483649]) (rest := []) (lo1 := [x_r 75, iv_c (sv sc (j + 1)), iv_c 2147483649, 147573952589676412928, 147573952589676412928]) (by decide +kernel) (by decide) (x_cbV (by decide +kernel) (by show _ ≤ 600000; omega) (by show _ ≤ 7300000; omega)) (x_rb_of (by decide +kernel)) rfl rfl (x_wr (by decide) (x_wi sv_lt (x_wi (by decide) x_wn))) x_wn (by decide) rfl (c224_75 j56 (by omega) (by omega) m63) (fun r87 h85 l88 q86 => ?_)
  obtain ⟨j89, f90, g91⟩ := q86
  have q92 : h85 1 1 = h52 1 1 := f90 1 1 (by decide +kernel)
  have q93 : h85 75 6 = h52 75 6 := f90 75 6 (by decide +kernel)
  have q94 : h85 0 10 = h52 0 10 := f90 0 10 (by decide +kernel)
  have q95 : h85 75 4 = h52 75 4 := f90 75 4 (by decide +kernel)
  have m96 := WT.fr m63 j56 f90 (by decide)
  have m97 := WT.fr7 m64 j56 f90 (by decide)
  have m98 : h85 75 4 = 2147483649 → 2147483650 ≤ h85 77 0 := by
    rw [f90 75 4 (by decide +kernel), f90 77 0 (by decide +kernel)]
    exact m65
  have t99 := Ty.fr t66 f90 (by decide) (by decide)
  refine x_istore (np := 717) (x := 6) (lo' := [55340232221128654849, x_r 0, x_r 75, x_r 97, iv_c (2147483648 + j), iv_c r54, iv_c r87]) (by decide +kernel) l88 (Nat.le_of_ble_eq_true rfl) rfl ?_
  refine x_goto (np := 720) (x := 1397) (by decide +kernel) ?_
  exact k (c0 + 1) (s0 + 6) (iv_c r54) (iv_c r87) h85 (by omega) (by omega) ⟨⟨j89, by omega, m96, m97, m98, by omega⟩, t99⟩
set_option maxHeartbeats 0 in
theorem lc_14 {sc : Nat × Nat} {d j c0 s0 w5 w6 : Nat} {h : xh} {Q : Nat → xh → Prop} (hs : scOK sc) (hI : INV9 h) (hj : j + 6 ≤ sc.1) (hc : c0 + 2 ≤ 600000) (hz : s0 + 12 ≤ 7300000) (k : ∀ c1 s1 v5 v6 h', c1 ≤ c0 + 2 → s1 ≤ s0 + 12 → INV9 h' → X sc 309 (d + 60) Q c1 s1 1397 [55340232221128654849, x_r 0, x_r 75, x_r 97, iv_c (2147483648 + j), v5, v6] [] h') : X sc 309 (d + 60) Q c0 s0 720 [55340232221128654849, x_r 0, x_r 75, x_r 97, iv_c (2147483648 + j), w5, w6] [] h := by
  obtain ⟨⟨hJ, hE, w76, w77, hB, hG⟩, hY⟩ := hI
  have h384 := hs.1
  refine x_aload (np := 721) (x := 1) (by decide +kernel) rfl (x_nc_le (by decide)) ?_
  refine x_aloadS (np := 722) (x := 0) (by decide +kernel) rfl ?_
  refine x_iload (np := 724) (x := 4) (by decide +kernel) rfl (by omega) ?_
  refine x_const (np := 725) (x := 9223372043297226753) (a := 2147483649) (by decide +kernel) (by decide) (by decide) ?_
  refine x_iadd (np := 726) (x := 0) (v := (2147483648 + (j + 1))) (by decide +kernel) (by omega) (by decide) (by omega) (by omega) ?_
  refine x_scr (j := (j + 1)) hs (np := 727) (x := 0) (by decide +kernel) rfl (by omega) (by omega) ?_
  refine x_aloadS (np := 728) (x := 0) (by decide +kernel) rfl ?_
  refine x_iload (np := 730) (x := 4) (by decide +kernel) rfl (by omega) ?_
  refine x_const (np := 731) (x := 9223372047592194050) (a := 2147483650) (by decide +kernel) (by decide) (by decide) ?_
  refine x_iadd (np := 732) (x := 0) (v := (2147483648 + (j + 2))) (by decide +kernel) (by omega) (by decide) (by omega) (by omega) ?_
  refine x_scr (j := (j + 2)) hs (np := 733) (x := 0) (by decide +kernel) rfl (by omega) (by omega) ?_
  refine x_aload (np := 734) (x := 3) (by decide +kernel) rfl (x_nc_le (by decide)) ?_
  have b1 : (sv sc (j + 1)) < 4294967296 := sv_lt
  have b2 : (sv sc (j + 2)) < 4294967296 := sv_lt
  refine x_cIc (t := 0) (mj := 293) (n := 4) (rc := 0) (ml := 5) (cc := 2) (ss := 12) (nr := 0) (np := 737) (as := [x_r 0, iv_c (sv sc (j + 1)), iv_c (sv sc (j + 2)), x_r 97]) (rest := []) (lo1 := [x_r 0, iv_c (sv sc (j + 1)), iv_c (sv sc (j + 2)), x_r 97, 147573952589676412928]) (by decide +kernel) (by decide) (x_cbV (by decide +kernel) (by show _ ≤ 600000; omega) (by show _ ≤ 7300000; omega)) (Or.inl rfl) rfl rfl (x_wr (by decide) (x_wi sv_lt (x_wi sv_lt (x_wr (by decide) x_wn)))) x_wn (by decide) rfl (c293_0_97 hJ (by omega) (by omega)) (fun r5 h3 l6 q4 => ?_)
  obtain ⟨j7, f8, g9⟩ := q4
  have q10 : h3 1 1 = h 1 1 := f8 1 1 (by decide +kernel)
  have q11 : h3 75 6 = h 75 6 := f8 75 6 (by decide +kernel)
  have q12 : h3 0 10 = h 0 10 := f8 0 10 (by decide +kernel)
  have q13 : h3 75 4 = h 75 4 := f8 75 4 (by decide +kernel)
  have m14 := WT.fr w76 hJ f8 (by decide)
  have m15 := WT.fr7 w77 hJ f8 (by decide)
  have m16 : h3 75 4 = 2147483649 → 2147483650 ≤ h3 77 0 := by
    rw [f8 75 4 (by decide +kernel), f8 77 0 (by decide +kernel)]
    exact hB
  have t17 := Ty.fr hY f8 (by decide) (by decide)
  refine x_istore (np := 739) (x := 5) (lo' := [55340232221128654849, x_r 0, x_r 75, x_r 97, iv_c (2147483648 + j), iv_c r5, w6]) (by decide +kernel) l6 (Nat.le_of_ble_eq_true rfl) rfl ?_
  refine x_aload (np := 740) (x := 2) (by decide +kernel) rfl (x_nc_le (by decide)) ?_
  refine x_aloadS (np := 741) (x := 0) (by decide +kernel) rfl ?_
  refine x_iload (np := 743) (x := 4) (by decide +kernel) rfl (by omega) ?_
  refine x_const (np := 744) (x := 9223372043297226753) (a := 2147483649) (by decide +kernel) (by decide) (by decide) ?_
  refine x_iadd (np := 745) (x := 0) (v := (2147483648 + (j + 1))) (by decide +kernel) (by omega) (by decide) (by omega) (by omega) ?_
  refine x_scr (j := (j + 1)) hs (np := 746) (x := 0) (by decide +kernel) rfl (by omega) (by omega) ?_
  refine x_aloadS (np := 747) (x := 0) (by decide +kernel) rfl ?_
  refine x_iload (np := 749) (x := 4) (by decide +kernel) rfl (by omega) ?_
  refine x_const (np := 750) (x := 9223372047592194050) (a := 2147483650) (by decide +kernel) (by decide) (by decide) ?_
  refine x_iadd (np := 751) (x := 0) (v := (2147483648 + (j + 2))) (by decide +kernel) (by omega) (by decide) (by omega) (by omega) ?_
  refine x_scr (j := (j + 2)) hs (np := 752) (x := 0) (by decide +kernel) rfl (by omega) (by omega) ?_
  have b18 : (sv sc (j + 1)) < 4294967296 := sv_lt
  have b19 : (sv sc (j + 2)) < 4294967296 := sv_lt
  refine x_cIc (t := 6) (mj := 226) (n := 3) (rc := 12) (ml := 5) (cc := 0) (ss := 0) (nr := 0) (np := 755) (as := [x_r 75, iv_c (sv sc (j + 1)), iv_c (sv sc (j + 2))]) (rest := []) (lo1 := [x_r 75, iv_c (sv sc (j + 1)), iv_c (sv sc (j + 2)), 147573952589676412928, 147573952589676412928]) (by decide +kernel) (by decide) (x_cbV (by decide +kernel) (by show _ ≤ 600000; omega) (by show _ ≤ 7300000; omega)) (x_rb_of (by decide +kernel)) rfl rfl (x_wr (by decide) (x_wi sv_lt (x_wi sv_lt x_wn))) x_wn (by decide) rfl (c226_75 j7 (by omega) (by omega) m14) (fun r22 h20 l23 q21 => ?_)
  obtain ⟨j24, f25, g26⟩ := q21
  have q27 : h20 1 1 = h3 1 1 := f25 1 1 (by decide +kernel)
  have q28 : h20 75 6 = h3 75 6 := f25 75 6 (by decide +kernel)
  have q29 : h20 0 10 = h3 0 10 := f25 0 10 (by decide +kernel)
  have q30 : h20 75 4 = h3 75 4 := f25 75 4 (by decide +kernel)
  have m31 := WT.fr m14 j7 f25 (by decide)
  have m32 := WT.fr7 m15 j7 f25 (by decide)
  have m33 : h20 75 4 = 2147483649 → 2147483650 ≤ h20 77 0 := by
    rw [f25 75 4 (by decide +kernel), f25 77 0 (by decide +kernel)]
    exact m16
  have t34 := Ty.fr t17 f25 (by decide) (by decide)
  refine x_istore (np := 757) (x := 6) (lo' := [55340232221128654849, x_r 0, x_r 75, x_r 97, iv_c (2147483648 + j), iv_c r5, iv_c r22]) (by decide +kernel) l23 (Nat.le_of_ble_eq_true rfl) rfl ?_
  refine x_goto (np := 760) (x := 1397) (by decide +kernel) ?_
  exact k (c0 + 2) (s0 + 12) (iv_c r5) (iv_c r22) h20 (by omega) (by omega) ⟨⟨j24, by omega, m31, m32, m33, by omega⟩, t34⟩
set_option maxHeartbeats 0 in
theorem lc_15 {sc : Nat × Nat} {d j c0 s0 w5 w6 : Nat} {h : xh} {Q : Nat → xh → Prop} (hs : scOK sc) (hI : INV9 h) (hj : j + 6 ≤ sc.1) (hc : c0 + 2 ≤ 600000) (hz : s0 + 12 ≤ 7300000) (k : ∀ c1 s1 v5 v6 h', c1 ≤ c0 + 2 → s1 ≤ s0 + 12 → INV9 h' → X sc 309 (d + 60) Q c1 s1 1397 [55340232221128654849, x_r 0, x_r 75, x_r 97, iv_c (2147483648 + j), v5, v6] [] h') : X sc 309 (d + 60) Q c0 s0 760 [55340232221128654849, x_r 0, x_r 75, x_r 97, iv_c (2147483648 + j), w5, w6] [] h := by
  obtain ⟨⟨hJ, hE, w76, w77, hB, hG⟩, hY⟩ := hI
  have h384 := hs.1
  refine x_aload (np := 761) (x := 1) (by decide +kernel) rfl (x_nc_le (by decide)) ?_
  refine x_aloadS (np := 762) (x := 0) (by decide +kernel) rfl ?_
  refine x_iload (np := 764) (x := 4) (by decide +kernel) rfl (by omega) ?_
  refine x_const (np := 765) (x := 9223372043297226753) (a := 2147483649) (by decide +kernel) (by decide) (by decide) ?_
  refine x_iadd (np := 766) (x := 0) (v := (2147483648 + (j + 1))) (by decide +kernel) (by omega) (by decide) (by omega) (by omega) ?_
  refine x_scr (j := (j + 1)) hs (np := 767) (x := 0) (by decide +kernel) rfl (by omega) (by omega) ?_
  refine x_aload (np := 768) (x := 3) (by decide +kernel) rfl (x_nc_le (by decide)) ?_
  have b1 : (sv sc (j + 1)) < 4294967296 := sv_lt
  refine x_cIc (t := 0) (mj := 294) (n := 3) (rc := 0) (ml := 4) (cc := 1) (ss := 6) (nr := 0) (np := 771) (as := [x_r 0, iv_c (sv sc (j + 1)), x_r 97]) (rest := []) (lo1 := [x_r 0, iv_c (sv sc (j + 1)), x_r 97, 147573952589676412928]) (by decide +kernel) (by decide) (x_cbV (by decide +kernel) (by show _ ≤ 600000; omega) (by show _ ≤ 7300000; omega)) (Or.inl rfl) rfl rfl (x_wr (by decide) (x_wi sv_lt (x_wr (by decide) x_wn))) x_wn (by decide) rfl (c294_0_97 hJ (by omega)) (fun r4 h2 l5 q3 => ?_)
  obtain ⟨j6, f7, g8⟩ := q3
  have q9 : h2 1 1 = h 1 1 := f7 1 1 (by decide +kernel)
  have q10 : h2 75 6 = h 75 6 := f7 75 6 (by decide +kernel)
  have q11 : h2 0 10 = h 0 10 := f7 0 10 (by decide +kernel)
  have q12 : h2 75 4 = h 75 4 := f7 75 4 (by decide +kernel)
  have m13 := WT.fr w76 hJ f7 (by decide)
  have m14 := WT.fr7 w77 hJ f7 (by decide)
  have m15 : h2 75 4 = 2147483649 → 2147483650 ≤ h2 77 0 := by
    rw [f7 75 4 (by decide +kernel), f7 77 0 (by decide +kernel)]
    exact hB
  have t16 := Ty.fr hY f7 (by decide) (by decide)
  refine x_istore (np := 773) (x := 5) (lo' := [55340232221128654849, x_r 0, x_r 75, x_r 97, iv_c (2147483648 + j), iv_c r4, w6]) (by decide +kernel) l5 (Nat.le_of_ble_eq_true rfl) rfl ?_
  refine x_aload (np := 774) (x := 2) (by decide +kernel) rfl (x_nc_le (by decide)) ?_
  refine x_aloadS (np := 775) (x := 0) (by decide +kernel) rfl ?_
  refine x_iload (np := 777) (x := 4) (by decide +kernel) rfl (by omega) ?_
  refine x_const (np := 778) (x := 9223372043297226753) (a := 2147483649) (by decide +kernel) (by decide) (by decide) ?_
  refine x_iadd (np := 779) (x := 0) (v := (2147483648 + (j + 1))) (by decide +kernel) (by omega) (by decide) (by omega) (by omega) ?_
  refine x_scr (j := (j + 1)) hs (np := 780) (x := 0) (by decide +kernel) rfl (by omega) (by omega) ?_
  have b17 : (sv sc (j + 1)) < 4294967296 := sv_lt
  refine x_cIc (t := 6) (mj := 229) (n := 2) (rc := 12) (ml := 2) (cc := 0) (ss := 0) (nr := 0) (np := 783) (as := [x_r 75, iv_c (sv sc (j + 1))]) (rest := []) (lo1 := [x_r 75, iv_c (sv sc (j + 1))]) (by decide +kernel) (by decide) (x_cbV (by decide +kernel) (by show _ ≤ 600000; omega) (by show _ ≤ 7300000; omega)) (x_rb_of (by decide +kernel)) rfl rfl (x_wr (by decide) (x_wi sv_lt x_wn)) x_wn (by decide) rfl (c229_75 j6 (by omega) m13) (fun r20 h18 l21 q19 => ?_)
  obtain ⟨j22, f23, g24⟩ := q19
  have q25 : h18 1 1 = h2 1 1 := f23 1 1 (by decide +kernel)
  have q26 : h18 75 6 = h2 75 6 := f23 75 6 (by decide +kernel)
  have q27 : h18 0 10 = h2 0 10 := f23 0 10 (by decide +kernel)
  have q28 : h18 75 4 = h2 75 4 := f23 75 4 (by decide +kernel)
  have m29 := WT.fr m13 j6 f23 (by decide)
  have m30 := WT.fr7 m14 j6 f23 (by decide)
  have m31 : h18 75 4 = 2147483649 → 2147483650 ≤ h18 77 0 := by
    rw [f23 75 4 (by decide +kernel), f23 77 0 (by decide +kernel)]
    exact m15
  have t32 := Ty.fr t16 f23 (by decide) (by decide)
  refine x_istore (np := 785) (x := 6) (lo' := [55340232221128654849, x_r 0, x_r 75, x_r 97, iv_c (2147483648 + j), iv_c r4, iv_c r20]) (by decide +kernel) l21 (Nat.le_of_ble_eq_true rfl) rfl ?_
  refine x_goto (np := 788) (x := 1397) (by decide +kernel) ?_
  exact k (c0 + 1) (s0 + 6) (iv_c r4) (iv_c r20) h18 (by omega) (by omega) ⟨⟨j22, by omega, m29, m30, m31, by omega⟩, t32⟩
set_option maxHeartbeats 0 in
theorem lc_16 {sc : Nat × Nat} {d j c0 s0 w5 w6 : Nat} {h : xh} {Q : Nat → xh → Prop} (hs : scOK sc) (hI : INV9 h) (hj : j + 6 ≤ sc.1) (hc : c0 + 2 ≤ 600000) (hz : s0 + 12 ≤ 7300000) (k : ∀ c1 s1 v5 v6 h', c1 ≤ c0 + 2 → s1 ≤ s0 + 12 → INV9 h' → X sc 309 (d + 60) Q c1 s1 1397 [55340232221128654849, x_r 0, x_r 75, x_r 97, iv_c (2147483648 + j), v5, v6] [] h') : X sc 309 (d + 60) Q c0 s0 788 [55340232221128654849, x_r 0, x_r 75, x_r 97, iv_c (2147483648 + j), w5, w6] [] h := by
  obtain ⟨⟨hJ, hE, w76, w77, hB, hG⟩, hY⟩ := hI
  have h384 := hs.1
  refine x_aload (np := 789) (x := 1) (by decide +kernel) rfl (x_nc_le (by decide)) ?_
  refine x_aloadS (np := 790) (x := 0) (by decide +kernel) rfl ?_
  refine x_iload (np := 792) (x := 4) (by decide +kernel) rfl (by omega) ?_
  refine x_const (np := 793) (x := 9223372043297226753) (a := 2147483649) (by decide +kernel) (by decide) (by decide) ?_
  refine x_iadd (np := 794) (x := 0) (v := (2147483648 + (j + 1))) (by decide +kernel) (by omega) (by decide) (by omega) (by omega) ?_
  refine x_scr (j := (j + 1)) hs (np := 795) (x := 0) (by decide +kernel) rfl (by omega) (by omega) ?_
  refine x_aload (np := 796) (x := 3) (by decide +kernel) rfl (x_nc_le (by decide)) ?_
  have b1 : (sv sc (j + 1)) < 4294967296 := sv_lt
  refine x_cIc (t := 0) (mj := 295) (n := 3) (rc := 0) (ml := 4) (cc := 1) (ss := 6) (nr := 0) (np := 799) (as := [x_r 0, iv_c (sv sc (j + 1)), x_r 97]) (rest := []) (lo1 := [x_r 0, iv_c (sv sc (j + 1)), x_r 97, 147573952589676412928]) (by decide +kernel) (by decide) (x_cbV (by decide +kernel) (by show _ ≤ 600000; omega) (by show _ ≤ 7300000; omega)) (Or.inl rfl) rfl rfl (x_wr (by decide) (x_wi sv_lt (x_wr (by decide) x_wn))) x_wn (by decide) rfl (c295_0_97 hJ (by omega)) (fun r4 h2 l5 q3 => ?_)
  obtain ⟨j6, f7, g8⟩ := q3
  have q9 : h2 1 1 = h 1 1 := f7 1 1 (by decide +kernel)
  have q10 : h2 75 6 = h 75 6 := f7 75 6 (by decide +kernel)
  have q11 : h2 0 10 = h 0 10 := f7 0 10 (by decide +kernel)
  have q12 : h2 75 4 = h 75 4 := f7 75 4 (by decide +kernel)
  have m13 := WT.fr w76 hJ f7 (by decide)
  have m14 := WT.fr7 w77 hJ f7 (by decide)
  have m15 : h2 75 4 = 2147483649 → 2147483650 ≤ h2 77 0 := by
    rw [f7 75 4 (by decide +kernel), f7 77 0 (by decide +kernel)]
    exact hB
  have t16 := Ty.fr hY f7 (by decide) (by decide)
  refine x_istore (np := 801) (x := 5) (lo' := [55340232221128654849, x_r 0, x_r 75, x_r 97, iv_c (2147483648 + j), iv_c r4, w6]) (by decide +kernel) l5 (Nat.le_of_ble_eq_true rfl) rfl ?_
  refine x_aload (np := 802) (x := 2) (by decide +kernel) rfl (x_nc_le (by decide)) ?_
  refine x_aloadS (np := 803) (x := 0) (by decide +kernel) rfl ?_
  refine x_iload (np := 805) (x := 4) (by decide +kernel) rfl (by omega) ?_
  refine x_const (np := 806) (x := 9223372043297226753) (a := 2147483649) (by decide +kernel) (by decide) (by decide) ?_
  refine x_iadd (np := 807) (x := 0) (v := (2147483648 + (j + 1))) (by decide +kernel) (by omega) (by decide) (by omega) (by omega) ?_
  refine x_scr (j := (j + 1)) hs (np := 808) (x := 0) (by decide +kernel) rfl (by omega) (by omega) ?_
  have b17 : (sv sc (j + 1)) < 4294967296 := sv_lt
  refine x_cIc (t := 6) (mj := 230) (n := 2) (rc := 12) (ml := 4) (cc := 0) (ss := 0) (nr := 0) (np := 811) (as := [x_r 75, iv_c (sv sc (j + 1))]) (rest := []) (lo1 := [x_r 75, iv_c (sv sc (j + 1)), 147573952589676412928, 147573952589676412928]) (by decide +kernel) (by decide) (x_cbV (by decide +kernel) (by show _ ≤ 600000; omega) (by show _ ≤ 7300000; omega)) (x_rb_of (by decide +kernel)) rfl rfl (x_wr (by decide) (x_wi sv_lt x_wn)) x_wn (by decide) rfl (c230_75 j6 (by omega) m13) (fun r20 h18 l21 q19 => ?_)
  obtain ⟨j22, f23, g24⟩ := q19
  have q25 : h18 1 1 = h2 1 1 := f23 1 1 (by decide +kernel)
  have q26 : h18 75 6 = h2 75 6 := f23 75 6 (by decide +kernel)
  have q27 : h18 0 10 = h2 0 10 := f23 0 10 (by decide +kernel)
  have q28 : h18 75 4 = h2 75 4 := f23 75 4 (by decide +kernel)
  have m29 := WT.fr m13 j6 f23 (by decide)
  have m30 := WT.fr7 m14 j6 f23 (by decide)
  have m31 : h18 75 4 = 2147483649 → 2147483650 ≤ h18 77 0 := by
    rw [f23 75 4 (by decide +kernel), f23 77 0 (by decide +kernel)]
    exact m15
  have t32 := Ty.fr t16 f23 (by decide) (by decide)
  refine x_istore (np := 813) (x := 6) (lo' := [55340232221128654849, x_r 0, x_r 75, x_r 97, iv_c (2147483648 + j), iv_c r4, iv_c r20]) (by decide +kernel) l21 (Nat.le_of_ble_eq_true rfl) rfl ?_
  refine x_goto (np := 816) (x := 1397) (by decide +kernel) ?_
  exact k (c0 + 1) (s0 + 6) (iv_c r4) (iv_c r20) h18 (by omega) (by omega) ⟨⟨j22, by omega, m29, m30, m31, by omega⟩, t32⟩
set_option maxHeartbeats 0 in
theorem lc_17 {sc : Nat × Nat} {d j c0 s0 w5 w6 : Nat} {h : xh} {Q : Nat → xh → Prop} (hs : scOK sc) (hI : INV9 h) (hj : j + 6 ≤ sc.1) (hc : c0 + 2 ≤ 600000) (hz : s0 + 12 ≤ 7300000) (k : ∀ c1 s1 v5 v6 h', c1 ≤ c0 + 2 → s1 ≤ s0 + 12 → INV9 h' → X sc 309 (d + 60) Q c1 s1 1397 [55340232221128654849, x_r 0, x_r 75, x_r 97, iv_c (2147483648 + j), v5, v6] [] h') : X sc 309 (d + 60) Q c0 s0 816 [55340232221128654849, x_r 0, x_r 75, x_r 97, iv_c (2147483648 + j), w5, w6] [] h := by
  obtain ⟨⟨hJ, hE, w76, w77, hB, hG⟩, hY⟩ := hI
  have h384 := hs.1
  refine x_aload (np := 817) (x := 1) (by decide +kernel) rfl (x_nc_le (by decide)) ?_
  refine x_aload (np := 818) (x := 3) (by decide +kernel) rfl (x_nc_le (by decide)) ?_
  refine x_cIc (t := 0) (mj := 296) (n := 2) (rc := 0) (ml := 3) (cc := 1) (ss := 6) (nr := 0) (np := 821) (as := [x_r 0, x_r 97]) (rest := []) (lo1 := [x_r 0, x_r 97, 147573952589676412928]) (by decide +kernel) (by decide) (x_cbV (by decide +kernel) (by show _ ≤ 600000; omega) (by show _ ≤ 7300000; omega)) (Or.inl rfl) rfl rfl (x_wr (by decide) (x_wr (by decide) x_wn)) x_wn (by decide) rfl (c296_0_97n hJ (Ty.tp (h := h))) (fun r3 h1 l4 q2 => ?_)
  obtain ⟨j5, f6, g7, g8, g9⟩ := q2
  have q10 : h1 75 6 = h 75 6 := f6 75 6 (by decide +kernel)
  have q11 : h1 0 10 = h 0 10 := f6 0 10 (by decide +kernel)
  have q12 : h1 75 4 = h 75 4 := f6 75 4 (by decide +kernel)
  have m13 := WT.fr w76 hJ f6 (by decide)
  have m14 := WT.fr7 w77 hJ f6 (by decide)
  have m15 : h1 75 4 = 2147483649 → 2147483650 ≤ h1 77 0 := by
    rw [f6 75 4 (by decide +kernel), f6 77 0 (by decide +kernel)]
    exact hB
  have t16 := Ty.fr hY f6 (by decide) (by decide)
  refine x_istore (np := 823) (x := 5) (lo' := [55340232221128654849, x_r 0, x_r 75, x_r 97, iv_c (2147483648 + j), iv_c r3, w6]) (by decide +kernel) l4 (Nat.le_of_ble_eq_true rfl) rfl ?_
  refine x_aload (np := 824) (x := 2) (by decide +kernel) rfl (x_nc_le (by decide)) ?_
  refine x_cIc (t := 6) (mj := 196) (n := 1) (rc := 12) (ml := 3) (cc := 0) (ss := 0) (nr := 0) (np := 827) (as := [x_r 75]) (rest := []) (lo1 := [x_r 75, 147573952589676412928, 147573952589676412928]) (by decide +kernel) (by decide) (x_cbV (by decide +kernel) (by show _ ≤ 600000; omega) (by show _ ≤ 7300000; omega)) (x_rb_of (by decide +kernel)) rfl rfl (x_wr (by decide) x_wn) x_wn (by decide) rfl (c196_75n j5 m13 (Ty.tr (n := h 1 1) hY f6 (by decide) (by omega))) (fun r19 h17 l20 q18 => ?_)
  obtain ⟨j21, f22, g23, g24, g25, g26⟩ := q18
  have q27 : h17 1 1 = h1 1 1 := f22 1 1 (by decide +kernel)
  have q28 : h17 0 10 = h1 0 10 := f22 0 10 (by decide +kernel)
  have q29 : h17 75 4 = h1 75 4 := f22 75 4 (by decide +kernel)
  have m31 := WT.fr7 m14 j5 f22 (by decide)
  have m32 : h17 75 4 = 2147483649 → 2147483650 ≤ h17 77 0 := by
    rw [f22 75 4 (by decide +kernel), f22 77 0 (by decide +kernel)]
    exact m15
  obtain ⟨al1, al2⟩ := cu_alike g9 g26
  have q34 : h17 97 0 = h1 97 0 := f22 97 0 (by decide +kernel)
  have t33 := Ty.fr t16 f22 (by decide) (by decide)
  refine x_istore (np := 829) (x := 6) (lo' := [55340232221128654849, x_r 0, x_r 75, x_r 97, iv_c (2147483648 + j), iv_c r3, iv_c r19]) (by decide +kernel) l20 (Nat.le_of_ble_eq_true rfl) rfl ?_
  refine x_aload (np := 830) (x := 2) (by decide +kernel) rfl (x_nc_le (by decide)) ?_
  refine x_cIc (t := 6) (mj := 318) (n := 1) (rc := 12) (ml := 1) (cc := 0) (ss := 0) (nr := 0) (np := 833) (as := [x_r 75]) (rest := []) (lo1 := [x_r 75]) (by decide +kernel) (by decide) (x_cbV (by decide +kernel) (by show _ ≤ 600000; omega) (by show _ ≤ 7300000; omega)) (x_rb_of (by decide +kernel)) rfl rfl (x_wr (by decide) x_wn) x_wn (by decide) rfl (c318_75 j21) (fun r37 h35 l38 q36 => ?_)
  obtain ⟨q39, b40⟩ := q36
  rw [q39]
  refine x_iload (np := 835) (x := 5) (by decide +kernel) rfl l4 ?_
  refine x_icmp (k := 0) (tg := 840) (np := 838) (by decide +kernel) (by decide) l38 l4 (fun q41 => ?_) (fun q41 => ?_)
  · skip
    refine x_iload (np := 842) (x := 5) (by decide +kernel) rfl l4 ?_
    refine x_ifz (k := 1) (tg := 857) (np := 845) (by decide +kernel) (by decide) l4 (fun q42 => ?_) (fun q42 => ?_)
    · skip
      refine x_goto (np := 860) (x := 1397) (by decide +kernel) ?_
      exact k (c0 + 1) (s0 + 6) (iv_c r3) (iv_c r19) h17 (by omega) (by omega) ⟨⟨j21, by omega, g25, m31, m32, by omega⟩, t33⟩
    have q42 : ¬ (r3 ≠ 2147483648) := q42
    have al3 := al2 (by omega)
    refine x_aload (np := 846) (x := 3) (by decide +kernel) rfl (x_nc_le (by decide)) ?_
    refine x_const (np := 847) (x := 9223372039002259456) (a := 2147483648) (by decide +kernel) (by decide) (by decide) ?_
    refine x_lald (i := 0) (n := 1) (q := h17 97 0) (np := 848) (x := 0) (by decide +kernel) (by decide) (by decide +kernel) (by decide +kernel) (by decide) (by decide) (by decide) rfl (fun l43 => ?_)
    refine x_iload (np := 850) (x := 6) (by decide +kernel) rfl l20 ?_
    refine x_i2l (np := 851) (x := 0) (by decide +kernel) l20 ?_
    refine x_lcmp (np := 852) (x := 0) (by decide +kernel) l43 l20 (fun q44 => ?_) (fun q44 => absurd (show (h17 97 0) = r19 by omega) q44)
    refine x_ifz (k := 0) (tg := 857) (np := 855) (by decide +kernel) (by decide) (by decide) (fun _ => ?_) (fun q => absurd rfl q)
    refine x_goto (np := 860) (x := 1397) (by decide +kernel) ?_
    exact k (c0 + 1) (s0 + 6) (iv_c r3) (iv_c r19) h17 (by omega) (by omega) ⟨⟨j21, by omega, g25, m31, m32, by omega⟩, t33⟩
  exact absurd (show r37 = r3 by omega) q41
set_option maxHeartbeats 0 in
theorem lc_18 {sc : Nat × Nat} {d j c0 s0 w5 w6 : Nat} {h : xh} {Q : Nat → xh → Prop} (hs : scOK sc) (hI : INV9 h) (hj : j + 6 ≤ sc.1) (hc : c0 + 2 ≤ 600000) (hz : s0 + 12 ≤ 7300000) (k : ∀ c1 s1 v5 v6 h', c1 ≤ c0 + 2 → s1 ≤ s0 + 12 → INV9 h' → X sc 309 (d + 60) Q c1 s1 1397 [55340232221128654849, x_r 0, x_r 75, x_r 97, iv_c (2147483648 + j), v5, v6] [] h') : X sc 309 (d + 60) Q c0 s0 860 [55340232221128654849, x_r 0, x_r 75, x_r 97, iv_c (2147483648 + j), w5, w6] [] h := by
  obtain ⟨⟨hJ, hE, w76, w77, hB, hG⟩, hY⟩ := hI
  have h384 := hs.1
  refine x_aload (np := 861) (x := 1) (by decide +kernel) rfl (x_nc_le (by decide)) ?_
  refine x_aloadS (np := 862) (x := 0) (by decide +kernel) rfl ?_
  refine x_iload (np := 864) (x := 4) (by decide +kernel) rfl (by omega) ?_
  refine x_const (np := 865) (x := 9223372043297226753) (a := 2147483649) (by decide +kernel) (by decide) (by decide) ?_
  refine x_iadd (np := 866) (x := 0) (v := (2147483648 + (j + 1))) (by decide +kernel) (by omega) (by decide) (by omega) (by omega) ?_
  refine x_scr (j := (j + 1)) hs (np := 867) (x := 0) (by decide +kernel) rfl (by omega) (by omega) ?_
  refine x_aloadS (np := 868) (x := 0) (by decide +kernel) rfl ?_
  refine x_iload (np := 870) (x := 4) (by decide +kernel) rfl (by omega) ?_
  refine x_const (np := 871) (x := 9223372047592194050) (a := 2147483650) (by decide +kernel) (by decide) (by decide) ?_
  refine x_iadd (np := 872) (x := 0) (v := (2147483648 + (j + 2))) (by decide +kernel) (by omega) (by decide) (by omega) (by omega) ?_
  refine x_scr (j := (j + 2)) hs (np := 873) (x := 0) (by decide +kernel) rfl (by omega) (by omega) ?_
  refine x_aload (np := 874) (x := 3) (by decide +kernel) rfl (x_nc_le (by decide)) ?_
  have b1 : (sv sc (j + 1)) < 4294967296 := sv_lt
  have b2 : (sv sc (j + 2)) < 4294967296 := sv_lt
  refine x_cIc (t := 0) (mj := 297) (n := 4) (rc := 0) (ml := 5) (cc := 2) (ss := 12) (nr := 0) (np := 877) (as := [x_r 0, iv_c (sv sc (j + 1)), iv_c (sv sc (j + 2)), x_r 97]) (rest := []) (lo1 := [x_r 0, iv_c (sv sc (j + 1)), iv_c (sv sc (j + 2)), x_r 97, 147573952589676412928]) (by decide +kernel) (by decide) (x_cbV (by decide +kernel) (by show _ ≤ 600000; omega) (by show _ ≤ 7300000; omega)) (Or.inl rfl) rfl rfl (x_wr (by decide) (x_wi sv_lt (x_wi sv_lt (x_wr (by decide) x_wn)))) x_wn (by decide) rfl (c297_0_97 hJ (by omega) (by omega)) (fun r5 h3 l6 q4 => ?_)
  obtain ⟨j7, f8, g9⟩ := q4
  have q10 : h3 1 1 = h 1 1 := f8 1 1 (by decide +kernel)
  have q11 : h3 75 6 = h 75 6 := f8 75 6 (by decide +kernel)
  have q12 : h3 0 10 = h 0 10 := f8 0 10 (by decide +kernel)
  have q13 : h3 75 4 = h 75 4 := f8 75 4 (by decide +kernel)
  have m14 := WT.fr w76 hJ f8 (by decide)
  have m15 := WT.fr7 w77 hJ f8 (by decide)
  have m16 : h3 75 4 = 2147483649 → 2147483650 ≤ h3 77 0 := by
    rw [f8 75 4 (by decide +kernel), f8 77 0 (by decide +kernel)]
    exact hB
  have t17 := Ty.fr hY f8 (by decide) (by decide)
  refine x_istore (np := 879) (x := 5) (lo' := [55340232221128654849, x_r 0, x_r 75, x_r 97, iv_c (2147483648 + j), iv_c r5, w6]) (by decide +kernel) l6 (Nat.le_of_ble_eq_true rfl) rfl ?_
  refine x_aload (np := 880) (x := 2) (by decide +kernel) rfl (x_nc_le (by decide)) ?_
  refine x_aloadS (np := 881) (x := 0) (by decide +kernel) rfl ?_
  refine x_iload (np := 883) (x := 4) (by decide +kernel) rfl (by omega) ?_
  refine x_const (np := 884) (x := 9223372043297226753) (a := 2147483649) (by decide +kernel) (by decide) (by decide) ?_
  refine x_iadd (np := 885) (x := 0) (v := (2147483648 + (j + 1))) (by decide +kernel) (by omega) (by decide) (by omega) (by omega) ?_
  refine x_scr (j := (j + 1)) hs (np := 886) (x := 0) (by decide +kernel) rfl (by omega) (by omega) ?_
  refine x_aloadS (np := 887) (x := 0) (by decide +kernel) rfl ?_
  refine x_iload (np := 889) (x := 4) (by decide +kernel) rfl (by omega) ?_
  refine x_const (np := 890) (x := 9223372047592194050) (a := 2147483650) (by decide +kernel) (by decide) (by decide) ?_
  refine x_iadd (np := 891) (x := 0) (v := (2147483648 + (j + 2))) (by decide +kernel) (by omega) (by decide) (by omega) (by omega) ?_
  refine x_scr (j := (j + 2)) hs (np := 892) (x := 0) (by decide +kernel) rfl (by omega) (by omega) ?_
  have b18 : (sv sc (j + 1)) < 4294967296 := sv_lt
  have b19 : (sv sc (j + 2)) < 4294967296 := sv_lt
  refine x_cIc (t := 6) (mj := 231) (n := 3) (rc := 12) (ml := 4) (cc := 0) (ss := 0) (nr := 0) (np := 895) (as := [x_r 75, iv_c (sv sc (j + 1)), iv_c (sv sc (j + 2))]) (rest := []) (lo1 := [x_r 75, iv_c (sv sc (j + 1)), iv_c (sv sc (j + 2)), 147573952589676412928]) (by decide +kernel) (by decide) (x_cbV (by decide +kernel) (by show _ ≤ 600000; omega) (by show _ ≤ 7300000; omega)) (x_rb_of (by decide +kernel)) rfl rfl (x_wr (by decide) (x_wi sv_lt (x_wi sv_lt x_wn))) x_wn (by decide) rfl (c231_75n j7 (by omega) (by omega) m14) (fun r22 h20 l23 q21 => ?_)
  obtain ⟨j24, f25, g26, g27⟩ := q21
  have q28 : h20 1 1 = h3 1 1 := f25 1 1 (by decide +kernel)
  have q29 : h20 75 6 = h3 75 6 := f25 75 6 (by decide +kernel)
  have q30 : h20 0 10 = h3 0 10 := f25 0 10 (by decide +kernel)
  have q31 : h20 75 4 = h3 75 4 := f25 75 4 (by decide +kernel)
  have m33 := WT.fr7 m15 j7 f25 (by decide)
  have m34 : h20 75 4 = 2147483649 → 2147483650 ≤ h20 77 0 := by
    rw [f25 75 4 (by decide +kernel), f25 77 0 (by decide +kernel)]
    exact m16
  have t35 := Ty.fr t17 f25 (by decide) (by decide)
  refine x_istore (np := 897) (x := 6) (lo' := [55340232221128654849, x_r 0, x_r 75, x_r 97, iv_c (2147483648 + j), iv_c r5, iv_c r22]) (by decide +kernel) l23 (Nat.le_of_ble_eq_true rfl) rfl ?_
  refine x_goto (np := 900) (x := 1397) (by decide +kernel) ?_
  exact k (c0 + 2) (s0 + 12) (iv_c r5) (iv_c r22) h20 (by omega) (by omega) ⟨⟨j24, by omega, g27, m33, m34, by omega⟩, t35⟩
set_option maxHeartbeats 0 in
theorem lc_19 {sc : Nat × Nat} {d j c0 s0 w5 w6 : Nat} {h : xh} {Q : Nat → xh → Prop} (hs : scOK sc) (hI : INV9 h) (hj : j + 6 ≤ sc.1) (hc : c0 + 2 ≤ 600000) (hz : s0 + 12 ≤ 7300000) (k : ∀ c1 s1 v5 v6 h', c1 ≤ c0 + 2 → s1 ≤ s0 + 12 → INV9 h' → X sc 309 (d + 60) Q c1 s1 1397 [55340232221128654849, x_r 0, x_r 75, x_r 97, iv_c (2147483648 + j), v5, v6] [] h') : X sc 309 (d + 60) Q c0 s0 900 [55340232221128654849, x_r 0, x_r 75, x_r 97, iv_c (2147483648 + j), w5, w6] [] h := by
  obtain ⟨⟨hJ, hE, w76, w77, hB, hG⟩, hY⟩ := hI
  have h384 := hs.1
  refine x_aload (np := 901) (x := 1) (by decide +kernel) rfl (x_nc_le (by decide)) ?_
  refine x_aloadS (np := 902) (x := 0) (by decide +kernel) rfl ?_
  refine x_iload (np := 904) (x := 4) (by decide +kernel) rfl (by omega) ?_
  refine x_const (np := 905) (x := 9223372043297226753) (a := 2147483649) (by decide +kernel) (by decide) (by decide) ?_
  refine x_iadd (np := 906) (x := 0) (v := (2147483648 + (j + 1))) (by decide +kernel) (by omega) (by decide) (by omega) (by omega) ?_
  refine x_scr (j := (j + 1)) hs (np := 907) (x := 0) (by decide +kernel) rfl (by omega) (by omega) ?_
  refine x_aload (np := 908) (x := 3) (by decide +kernel) rfl (x_nc_le (by decide)) ?_
  have b1 : (sv sc (j + 1)) < 4294967296 := sv_lt
  refine x_cIc (t := 0) (mj := 298) (n := 3) (rc := 0) (ml := 4) (cc := 1) (ss := 6) (nr := 0) (np := 911) (as := [x_r 0, iv_c (sv sc (j + 1)), x_r 97]) (rest := []) (lo1 := [x_r 0, iv_c (sv sc (j + 1)), x_r 97, 147573952589676412928]) (by decide +kernel) (by decide) (x_cbV (by decide +kernel) (by show _ ≤ 600000; omega) (by show _ ≤ 7300000; omega)) (Or.inl rfl) rfl rfl (x_wr (by decide) (x_wi sv_lt (x_wr (by decide) x_wn))) x_wn (by decide) rfl (c298_0_97 hJ (by omega)) (fun r4 h2 l5 q3 => ?_)
  obtain ⟨j6, f7, g8⟩ := q3
  have q9 : h2 1 1 = h 1 1 := f7 1 1 (by decide +kernel)
  have q10 : h2 75 6 = h 75 6 := f7 75 6 (by decide +kernel)
  have q11 : h2 0 10 = h 0 10 := f7 0 10 (by decide +kernel)
  have q12 : h2 75 4 = h 75 4 := f7 75 4 (by decide +kernel)
  have m13 := WT.fr w76 hJ f7 (by decide)
  have m14 := WT.fr7 w77 hJ f7 (by decide)
  have m15 : h2 75 4 = 2147483649 → 2147483650 ≤ h2 77 0 := by
    rw [f7 75 4 (by decide +kernel), f7 77 0 (by decide +kernel)]
    exact hB
  have t16 := Ty.fr hY f7 (by decide) (by decide)
  refine x_istore (np := 913) (x := 5) (lo' := [55340232221128654849, x_r 0, x_r 75, x_r 97, iv_c (2147483648 + j), iv_c r4, w6]) (by decide +kernel) l5 (Nat.le_of_ble_eq_true rfl) rfl ?_
  refine x_aload (np := 914) (x := 2) (by decide +kernel) rfl (x_nc_le (by decide)) ?_
  refine x_aloadS (np := 915) (x := 0) (by decide +kernel) rfl ?_
  refine x_iload (np := 917) (x := 4) (by decide +kernel) rfl (by omega) ?_
  refine x_const (np := 918) (x := 9223372043297226753) (a := 2147483649) (by decide +kernel) (by decide) (by decide) ?_
  refine x_iadd (np := 919) (x := 0) (v := (2147483648 + (j + 1))) (by decide +kernel) (by omega) (by decide) (by omega) (by omega) ?_
  refine x_scr (j := (j + 1)) hs (np := 920) (x := 0) (by decide +kernel) rfl (by omega) (by omega) ?_
  have b17 : (sv sc (j + 1)) < 4294967296 := sv_lt
  refine x_cIc (t := 6) (mj := 233) (n := 2) (rc := 12) (ml := 2) (cc := 0) (ss := 0) (nr := 0) (np := 923) (as := [x_r 75, iv_c (sv sc (j + 1))]) (rest := []) (lo1 := [x_r 75, iv_c (sv sc (j + 1))]) (by decide +kernel) (by decide) (x_cbV (by decide +kernel) (by show _ ≤ 600000; omega) (by show _ ≤ 7300000; omega)) (x_rb_of (by decide +kernel)) rfl rfl (x_wr (by decide) (x_wi sv_lt x_wn)) x_wn (by decide) rfl (c233_75 j6 (by omega) m13) (fun r20 h18 l21 q19 => ?_)
  obtain ⟨j22, f23, g24⟩ := q19
  have q25 : h18 1 1 = h2 1 1 := f23 1 1 (by decide +kernel)
  have q26 : h18 75 6 = h2 75 6 := f23 75 6 (by decide +kernel)
  have q27 : h18 0 10 = h2 0 10 := f23 0 10 (by decide +kernel)
  have q28 : h18 75 4 = h2 75 4 := f23 75 4 (by decide +kernel)
  have m29 := WT.fr m13 j6 f23 (by decide)
  have m30 := WT.fr7 m14 j6 f23 (by decide)
  have m31 : h18 75 4 = 2147483649 → 2147483650 ≤ h18 77 0 := by
    rw [f23 75 4 (by decide +kernel), f23 77 0 (by decide +kernel)]
    exact m15
  have t32 := Ty.fr t16 f23 (by decide) (by decide)
  refine x_istore (np := 925) (x := 6) (lo' := [55340232221128654849, x_r 0, x_r 75, x_r 97, iv_c (2147483648 + j), iv_c r4, iv_c r20]) (by decide +kernel) l21 (Nat.le_of_ble_eq_true rfl) rfl ?_
  refine x_goto (np := 928) (x := 1397) (by decide +kernel) ?_
  exact k (c0 + 1) (s0 + 6) (iv_c r4) (iv_c r20) h18 (by omega) (by omega) ⟨⟨j22, by omega, m29, m30, m31, by omega⟩, t32⟩
set_option maxHeartbeats 0 in
theorem lc_20 {sc : Nat × Nat} {d j c0 s0 w5 w6 : Nat} {h : xh} {Q : Nat → xh → Prop} (hs : scOK sc) (hI : INV9 h) (hj : j + 6 ≤ sc.1) (hc : c0 + 2 ≤ 600000) (hz : s0 + 12 ≤ 7300000) (k : ∀ c1 s1 v5 v6 h', c1 ≤ c0 + 2 → s1 ≤ s0 + 12 → INV9 h' → X sc 309 (d + 60) Q c1 s1 1397 [55340232221128654849, x_r 0, x_r 75, x_r 97, iv_c (2147483648 + j), v5, v6] [] h') : X sc 309 (d + 60) Q c0 s0 928 [55340232221128654849, x_r 0, x_r 75, x_r 97, iv_c (2147483648 + j), w5, w6] [] h := by
  obtain ⟨⟨hJ, hE, w76, w77, hB, hG⟩, hY⟩ := hI
  have h384 := hs.1
  refine x_aload (np := 929) (x := 1) (by decide +kernel) rfl (x_nc_le (by decide)) ?_
  refine x_cIc (t := 6) (mj := 132) (n := 1) (rc := 11) (ml := 1) (cc := 0) (ss := 0) (nr := 0) (np := 932) (as := [x_r 0]) (rest := []) (lo1 := [x_r 0]) (by decide +kernel) (by decide) (x_cbV (by decide +kernel) (by show _ ≤ 600000; omega) (by show _ ≤ 7300000; omega)) (x_rb_of (by decide +kernel)) rfl rfl (x_wr (by decide) x_wn) x_wn (by decide) rfl (c132_0 hJ) (fun r3 h1 l4 q2 => ?_)
  obtain ⟨j5, f6, g7⟩ := q2
  have q8 : h1 1 1 = h 1 1 := f6 1 1 (by decide +kernel)
  have q9 : h1 75 6 = h 75 6 := f6 75 6 (by decide +kernel)
  have q10 : h1 0 10 = h 0 10 := f6 0 10 (by decide +kernel)
  have q11 : h1 75 4 = h 75 4 := f6 75 4 (by decide +kernel)
  have m12 := WT.fr w76 hJ f6 (by decide)
  have m13 := WT.fr7 w77 hJ f6 (by decide)
  have m14 : h1 75 4 = 2147483649 → 2147483650 ≤ h1 77 0 := by
    rw [f6 75 4 (by decide +kernel), f6 77 0 (by decide +kernel)]
    exact hB
  have t15 := Ty.fr hY f6 (by decide) (by decide)
  refine x_pop (by decide +kernel) l4 ?_
  refine x_aload (np := 934) (x := 2) (by decide +kernel) rfl (x_nc_le (by decide)) ?_
  refine x_cIc (t := 6) (mj := 234) (n := 1) (rc := 12) (ml := 1) (cc := 0) (ss := 0) (nr := 0) (np := 937) (as := [x_r 75]) (rest := []) (lo1 := [x_r 75]) (by decide +kernel) (by decide) (x_cbV (by decide +kernel) (by show _ ≤ 600000; omega) (by show _ ≤ 7300000; omega)) (x_rb_of (by decide +kernel)) rfl rfl (x_wr (by decide) x_wn) x_wn (by decide) rfl (c234_75 j5 m12) (fun r18 h16 l19 q17 => ?_)
  obtain ⟨j20, f21, g22⟩ := q17
  have q23 : h16 1 1 = h1 1 1 := f21 1 1 (by decide +kernel)
  have q24 : h16 75 6 = h1 75 6 := f21 75 6 (by decide +kernel)
  have q25 : h16 0 10 = h1 0 10 := f21 0 10 (by decide +kernel)
  have q26 : h16 75 4 = h1 75 4 := f21 75 4 (by decide +kernel)
  have m27 := WT.fr m12 j5 f21 (by decide)
  have m28 := WT.fr7 m13 j5 f21 (by decide)
  have m29 : h16 75 4 = 2147483649 → 2147483650 ≤ h16 77 0 := by
    rw [f21 75 4 (by decide +kernel), f21 77 0 (by decide +kernel)]
    exact m14
  have t30 := Ty.fr t15 f21 (by decide) (by decide)
  refine x_pop (by decide +kernel) l19 ?_
  refine x_goto (np := 941) (x := 1397) (by decide +kernel) ?_
  exact k c0 s0 w5 w6 h16 (by omega) (by omega) ⟨⟨j20, by omega, m27, m28, m29, by omega⟩, t30⟩
set_option maxHeartbeats 0 in
theorem lc_21 {sc : Nat × Nat} {d j c0 s0 w5 w6 : Nat} {h : xh} {Q : Nat → xh → Prop} (hs : scOK sc) (hI : INV9 h) (hj : j + 6 ≤ sc.1) (hc : c0 + 2 ≤ 600000) (hz : s0 + 12 ≤ 7300000) (k : ∀ c1 s1 v5 v6 h', c1 ≤ c0 + 2 → s1 ≤ s0 + 12 → INV9 h' → X sc 309 (d + 60) Q c1 s1 1397 [55340232221128654849, x_r 0, x_r 75, x_r 97, iv_c (2147483648 + j), v5, v6] [] h') : X sc 309 (d + 60) Q c0 s0 941 [55340232221128654849, x_r 0, x_r 75, x_r 97, iv_c (2147483648 + j), w5, w6] [] h := by
  obtain ⟨⟨hJ, hE, w76, w77, hB, hG⟩, hY⟩ := hI
  have h384 := hs.1
  refine x_aload (np := 942) (x := 1) (by decide +kernel) rfl (x_nc_le (by decide)) ?_
  refine x_aloadS (np := 943) (x := 0) (by decide +kernel) rfl ?_
  refine x_iload (np := 945) (x := 4) (by decide +kernel) rfl (by omega) ?_
  refine x_const (np := 946) (x := 9223372043297226753) (a := 2147483649) (by decide +kernel) (by decide) (by decide) ?_
  refine x_iadd (np := 947) (x := 0) (v := (2147483648 + (j + 1))) (by decide +kernel) (by omega) (by decide) (by omega) (by omega) ?_
  refine x_scr (j := (j + 1)) hs (np := 948) (x := 0) (by decide +kernel) rfl (by omega) (by omega) ?_
  refine x_aload (np := 949) (x := 3) (by decide +kernel) rfl (x_nc_le (by decide)) ?_
  have b1 : (sv sc (j + 1)) < 4294967296 := sv_lt
  refine x_cIc (t := 0) (mj := 299) (n := 3) (rc := 0) (ml := 4) (cc := 1) (ss := 6) (nr := 0) (np := 952) (as := [x_r 0, iv_c (sv sc (j + 1)), x_r 97]) (rest := []) (lo1 := [x_r 0, iv_c (sv sc (j + 1)), x_r 97, 147573952589676412928]) (by decide +kernel) (by decide) (x_cbV (by decide +kernel) (by show _ ≤ 600000; omega) (by show _ ≤ 7300000; omega)) (Or.inl rfl) rfl rfl (x_wr (by decide) (x_wi sv_lt (x_wr (by decide) x_wn))) x_wn (by decide) rfl (c299_0_97 hJ (by omega)) (fun r4 h2 l5 q3 => ?_)
  obtain ⟨j6, f7, g8⟩ := q3
  have q9 : h2 1 1 = h 1 1 := f7 1 1 (by decide +kernel)
  have q10 : h2 75 6 = h 75 6 := f7 75 6 (by decide +kernel)
  have q11 : h2 0 10 = h 0 10 := f7 0 10 (by decide +kernel)
  have q12 : h2 75 4 = h 75 4 := f7 75 4 (by decide +kernel)
  have m13 := WT.fr w76 hJ f7 (by decide)
  have m14 := WT.fr7 w77 hJ f7 (by decide)
  have m15 : h2 75 4 = 2147483649 → 2147483650 ≤ h2 77 0 := by
    rw [f7 75 4 (by decide +kernel), f7 77 0 (by decide +kernel)]
    exact hB
  have t16 := Ty.fr hY f7 (by decide) (by decide)
  refine x_istore (np := 954) (x := 5) (lo' := [55340232221128654849, x_r 0, x_r 75, x_r 97, iv_c (2147483648 + j), iv_c r4, w6]) (by decide +kernel) l5 (Nat.le_of_ble_eq_true rfl) rfl ?_
  refine x_aload (np := 955) (x := 2) (by decide +kernel) rfl (x_nc_le (by decide)) ?_
  refine x_aloadS (np := 956) (x := 0) (by decide +kernel) rfl ?_
  refine x_iload (np := 958) (x := 4) (by decide +kernel) rfl (by omega) ?_
  refine x_const (np := 959) (x := 9223372043297226753) (a := 2147483649) (by decide +kernel) (by decide) (by decide) ?_
  refine x_iadd (np := 960) (x := 0) (v := (2147483648 + (j + 1))) (by decide +kernel) (by omega) (by decide) (by omega) (by omega) ?_
  refine x_scr (j := (j + 1)) hs (np := 961) (x := 0) (by decide +kernel) rfl (by omega) (by omega) ?_
  have b17 : (sv sc (j + 1)) < 4294967296 := sv_lt
  refine x_cIc (t := 6) (mj := 235) (n := 2) (rc := 12) (ml := 4) (cc := 0) (ss := 0) (nr := 0) (np := 964) (as := [x_r 75, iv_c (sv sc (j + 1))]) (rest := []) (lo1 := [x_r 75, iv_c (sv sc (j + 1)), 147573952589676412928, 147573952589676412928]) (by decide +kernel) (by decide) (x_cbV (by decide +kernel) (by show _ ≤ 600000; omega) (by show _ ≤ 7300000; omega)) (x_rb_of (by decide +kernel)) rfl rfl (x_wr (by decide) (x_wi sv_lt x_wn)) x_wn (by decide) rfl (c235_75 j6 (by omega) m13) (fun r20 h18 l21 q19 => ?_)
  obtain ⟨j22, f23, g24⟩ := q19
  have q25 : h18 1 1 = h2 1 1 := f23 1 1 (by decide +kernel)
  have q26 : h18 75 6 = h2 75 6 := f23 75 6 (by decide +kernel)
  have q27 : h18 0 10 = h2 0 10 := f23 0 10 (by decide +kernel)
  have q28 : h18 75 4 = h2 75 4 := f23 75 4 (by decide +kernel)
  have m29 := WT.fr m13 j6 f23 (by decide)
  have m30 := WT.fr7 m14 j6 f23 (by decide)
  have m31 : h18 75 4 = 2147483649 → 2147483650 ≤ h18 77 0 := by
    rw [f23 75 4 (by decide +kernel), f23 77 0 (by decide +kernel)]
    exact m15
  have t32 := Ty.fr t16 f23 (by decide) (by decide)
  refine x_istore (np := 966) (x := 6) (lo' := [55340232221128654849, x_r 0, x_r 75, x_r 97, iv_c (2147483648 + j), iv_c r4, iv_c r20]) (by decide +kernel) l21 (Nat.le_of_ble_eq_true rfl) rfl ?_
  refine x_goto (np := 969) (x := 1397) (by decide +kernel) ?_
  exact k (c0 + 1) (s0 + 6) (iv_c r4) (iv_c r20) h18 (by omega) (by omega) ⟨⟨j22, by omega, m29, m30, m31, by omega⟩, t32⟩
set_option maxHeartbeats 0 in
theorem lc_22 {sc : Nat × Nat} {d j c0 s0 w5 w6 : Nat} {h : xh} {Q : Nat → xh → Prop} (hs : scOK sc) (hI : INV9 h) (hj : j + 6 ≤ sc.1) (hc : c0 + 2 ≤ 600000) (hz : s0 + 12 ≤ 7300000) (k : ∀ c1 s1 v5 v6 h', c1 ≤ c0 + 2 → s1 ≤ s0 + 12 → INV9 h' → X sc 309 (d + 60) Q c1 s1 1397 [55340232221128654849, x_r 0, x_r 75, x_r 97, iv_c (2147483648 + j), v5, v6] [] h') : X sc 309 (d + 60) Q c0 s0 969 [55340232221128654849, x_r 0, x_r 75, x_r 97, iv_c (2147483648 + j), w5, w6] [] h := by
  obtain ⟨⟨hJ, hE, w76, w77, hB, hG⟩, hY⟩ := hI
  have h384 := hs.1
  refine x_aload (np := 970) (x := 1) (by decide +kernel) rfl (x_nc_le (by decide)) ?_
  refine x_aloadS (np := 971) (x := 0) (by decide +kernel) rfl ?_
  refine x_iload (np := 973) (x := 4) (by decide +kernel) rfl (by omega) ?_
  refine x_const (np := 974) (x := 9223372043297226753) (a := 2147483649) (by decide +kernel) (by decide) (by decide) ?_
  refine x_iadd (np := 975) (x := 0) (v := (2147483648 + (j + 1))) (by decide +kernel) (by omega) (by decide) (by omega) (by omega) ?_
  refine x_scr (j := (j + 1)) hs (np := 976) (x := 0) (by decide +kernel) rfl (by omega) (by omega) ?_
  refine x_aloadS (np := 977) (x := 0) (by decide +kernel) rfl ?_
  refine x_iload (np := 979) (x := 4) (by decide +kernel) rfl (by omega) ?_
  refine x_const (np := 980) (x := 9223372047592194050) (a := 2147483650) (by decide +kernel) (by decide) (by decide) ?_
  refine x_iadd (np := 981) (x := 0) (v := (2147483648 + (j + 2))) (by decide +kernel) (by omega) (by decide) (by omega) (by omega) ?_
  refine x_scr (j := (j + 2)) hs (np := 982) (x := 0) (by decide +kernel) rfl (by omega) (by omega) ?_
  refine x_ifz (k := 0) (tg := 989) (np := 985) (by decide +kernel) (by decide) sv_lt (fun q1 => ?_) (fun q1 => ?_)
  · skip
    refine x_const (np := 990) (x := 9223372039002259456) (a := 2147483648) (by decide +kernel) (by decide) (by decide) ?_
    refine x_aload (np := 991) (x := 3) (by decide +kernel) rfl (x_nc_le (by decide)) ?_
    have b2 : (sv sc (j + 1)) < 4294967296 := sv_lt
    refine x_cIc (t := 0) (mj := 300) (n := 4) (rc := 0) (ml := 5) (cc := 1) (ss := 6) (nr := 0) (np := 994) (as := [x_r 0, iv_c (sv sc (j + 1)), iv_c 2147483648, x_r 97]) (rest := []) (lo1 := [x_r 0, iv_c (sv sc (j + 1)), iv_c 2147483648, x_r 97, 147573952589676412928]) (by decide +kernel) (by decide) (x_cbV (by decide +kernel) (by show _ ≤ 600000; omega) (by show _ ≤ 7300000; omega)) (Or.inl rfl) rfl rfl (x_wr (by decide) (x_wi sv_lt (x_wi (by decide) (x_wr (by decide) x_wn)))) x_wn (by decide) rfl (c300_0_97 hJ (by omega) (by omega)) (fun r5 h3 l6 q4 => ?_)
    obtain ⟨j7, f8, g9⟩ := q4
    have q10 : h3 1 1 = h 1 1 := f8 1 1 (by decide +kernel)
    have q11 : h3 75 6 = h 75 6 := f8 75 6 (by decide +kernel)
    have q12 : h3 0 10 = h 0 10 := f8 0 10 (by decide +kernel)
    have q13 : h3 75 4 = h 75 4 := f8 75 4 (by decide +kernel)
    have m14 := WT.fr w76 hJ f8 (by decide)
    have m15 := WT.fr7 w77 hJ f8 (by decide)
    have m16 : h3 75 4 = 2147483649 → 2147483650 ≤ h3 77 0 := by
      rw [f8 75 4 (by decide +kernel), f8 77 0 (by decide +kernel)]
      exact hB
    have t17 := Ty.fr hY f8 (by decide) (by decide)
    refine x_istore (np := 996) (x := 5) (lo' := [55340232221128654849, x_r 0, x_r 75, x_r 97, iv_c (2147483648 + j), iv_c r5, w6]) (by decide +kernel) l6 (Nat.le_of_ble_eq_true rfl) rfl ?_
    refine x_aload (np := 997) (x := 2) (by decide +kernel) rfl (x_nc_le (by decide)) ?_
    refine x_aloadS (np := 998) (x := 0) (by decide +kernel) rfl ?_
    refine x_iload (np := 1000) (x := 4) (by decide +kernel) rfl (by omega) ?_
    refine x_const (np := 1001) (x := 9223372043297226753) (a := 2147483649) (by decide +kernel) (by decide) (by decide) ?_
    refine x_iadd (np := 1002) (x := 0) (v := (2147483648 + (j + 1))) (by decide +kernel) (by omega) (by decide) (by omega) (by omega) ?_
    refine x_scr (j := (j + 1)) hs (np := 1003) (x := 0) (by decide +kernel) rfl (by omega) (by omega) ?_
    refine x_aloadS (np := 1004) (x := 0) (by decide +kernel) rfl ?_
    refine x_iload (np := 1006) (x := 4) (by decide +kernel) rfl (by omega) ?_
    refine x_const (np := 1007) (x := 9223372047592194050) (a := 2147483650) (by decide +kernel) (by decide) (by decide) ?_
    refine x_iadd (np := 1008) (x := 0) (v := (2147483648 + (j + 2))) (by decide +kernel) (by omega) (by decide) (by omega) (by omega) ?_
    refine x_scr (j := (j + 2)) hs (np := 1009) (x := 0) (by decide +kernel) rfl (by omega) (by omega) ?_
    refine x_ifz (k := 0) (tg := 1016) (np := 1012) (by decide +kernel) (by decide) sv_lt (fun q18 => ?_) (fun q18 => ?_)
    · skip
      refine x_const (np := 1017) (x := 9223372039002259456) (a := 2147483648) (by decide +kernel) (by decide) (by decide) ?_
      have b19 : (sv sc (j + 1)) < 4294967296 := sv_lt
      refine x_cIc (t := 6) (mj := 237) (n := 3) (rc := 12) (ml := 5) (cc := 0) (ss := 0) (nr := 0) (np := 1020) (as := [x_r 75, iv_c (sv sc (j + 1)), iv_c 2147483648]) (rest := []) (lo1 := [x_r 75, iv_c (sv sc (j + 1)), iv_c 2147483648, 147573952589676412928, 147573952589676412928]) (by decide +kernel) (by decide) (x_cbV (by decide +kernel) (by show _ ≤ 600000; omega) (by show _ ≤ 7300000; omega)) (x_rb_of (by decide +kernel)) rfl rfl (x_wr (by decide) (x_wi sv_lt (x_wi (by decide) x_wn))) x_wn (by decide) rfl (c237_75 j7 (by omega) (by omega) m14) (fun r22 h20 l23 q21 => ?_)
      obtain ⟨j24, f25, g26⟩ := q21
      have q27 : h20 1 1 = h3 1 1 := f25 1 1 (by decide +kernel)
      have q28 : h20 75 6 = h3 75 6 := f25 75 6 (by decide +kernel)
      have q29 : h20 0 10 = h3 0 10 := f25 0 10 (by decide +kernel)
      have q30 : h20 75 4 = h3 75 4 := f25 75 4 (by decide +kernel)
      have m31 := WT.fr m14 j7 f25 (by decide)
      have m32 := WT.fr7 m15 j7 f25 (by decide)
      have m33 : h20 75 4 = 2147483649 → 2147483650 ≤ h20 77 0 := by
        rw [f25 75 4 (by decide +kernel), f25 77 0 (by decide +kernel)]
        exact m16
      have t34 := Ty.fr t17 f25 (by decide) (by decide)
      refine x_istore (np := 1022) (x := 6) (lo' := [55340232221128654849, x_r 0, x_r 75, x_r 97, iv_c (2147483648 + j), iv_c r5, iv_c r22]) (by decide +kernel) l23 (Nat.le_of_ble_eq_true rfl) rfl ?_
      refine x_goto (np := 1025) (x := 1397) (by decide +kernel) ?_
      exact k (c0 + 1) (s0 + 6) (iv_c r5) (iv_c r22) h20 (by omega) (by omega) ⟨⟨j24, by omega, m31, m32, m33, by omega⟩, t34⟩
    refine x_const (np := 1013) (x := 9223372043297226753) (a := 2147483649) (by decide +kernel) (by decide) (by decide) ?_
    refine x_goto (np := 1016) (x := 1017) (by decide +kernel) ?_
    have b35 : (sv sc (j + 1)) < 4294967296 := sv_lt
    refine x_cIc (t := 6) (mj := 237) (n := 3) (rc := 12) (ml := 5) (cc := 0) (ss := 0) (nr := 0) (np := 1020) (as := [x_r 75, iv_c (sv sc (j + 1)), iv_c 2147483649]) (rest := []) (lo1 := [x_r 75, iv_c (sv sc (j + 1)), iv_c 2147483649, 147573952589676412928, 147573952589676412928]) (by decide +kernel) (by decide) (x_cbV (by decide +kernel) (by show _ ≤ 600000; omega) (by show _ ≤ 7300000; omega)) (x_rb_of (by decide +kernel)) rfl rfl (x_wr (by decide) (x_wi sv_lt (x_wi (by decide) x_wn))) x_wn (by decide) rfl (c237_75 j7 (by omega) (by omega) m14) (fun r38 h36 l39 q37 => ?_)
    obtain ⟨j40, f41, g42⟩ := q37
    have q43 : h36 1 1 = h3 1 1 := f41 1 1 (by decide +kernel)
    have q44 : h36 75 6 = h3 75 6 := f41 75 6 (by decide +kernel)
    have q45 : h36 0 10 = h3 0 10 := f41 0 10 (by decide +kernel)
    have q46 : h36 75 4 = h3 75 4 := f41 75 4 (by decide +kernel)
    have m47 := WT.fr m14 j7 f41 (by decide)
    have m48 := WT.fr7 m15 j7 f41 (by decide)
    have m49 : h36 75 4 = 2147483649 → 2147483650 ≤ h36 77 0 := by
      rw [f41 75 4 (by decide +kernel), f41 77 0 (by decide +kernel)]
      exact m16
    have t50 := Ty.fr t17 f41 (by decide) (by decide)
    refine x_istore (np := 1022) (x := 6) (lo' := [55340232221128654849, x_r 0, x_r 75, x_r 97, iv_c (2147483648 + j), iv_c r5, iv_c r38]) (by decide +kernel) l39 (Nat.le_of_ble_eq_true rfl) rfl ?_
    refine x_goto (np := 1025) (x := 1397) (by decide +kernel) ?_
    exact k (c0 + 1) (s0 + 6) (iv_c r5) (iv_c r38) h36 (by omega) (by omega) ⟨⟨j40, by omega, m47, m48, m49, by omega⟩, t50⟩
  refine x_const (np := 986) (x := 9223372043297226753) (a := 2147483649) (by decide +kernel) (by decide) (by decide) ?_
  refine x_goto (np := 989) (x := 990) (by decide +kernel) ?_
  refine x_aload (np := 991) (x := 3) (by decide +kernel) rfl (x_nc_le (by decide)) ?_
  have b51 : (sv sc (j + 1)) < 4294967296 := sv_lt
  refine x_cIc (t := 0) (mj := 300) (n := 4) (rc := 0) (ml := 5) (cc := 1) (ss := 6) (nr := 0) (np := 994) (as := [x_r 0, iv_c (sv sc (j + 1)), iv_c 2147483649, x_r 97]) (rest := []) (lo1 := [x_r 0, iv_c (sv sc (j + 1)), iv_c 2147483649, x_r 97, 147573952589676412928]) (by decide +kernel) (by decide) (x_cbV (by decide +kernel) (by show _ ≤ 600000; omega) (by show _ ≤ 7300000; omega)) (Or.inl rfl) rfl rfl (x_wr (by decide) (x_wi sv_lt (x_wi (by decide) (x_wr (by decide) x_wn)))) x_wn (by decide) rfl (c300_0_97 hJ (by omega) (by omega)) (fun r54 h52 l55 q53 => ?_)
  obtain ⟨j56, f57, g58⟩ := q53
  have q59 : h52 1 1 = h 1 1 := f57 1 1 (by decide +kernel)
  have q60 : h52 75 6 = h 75 6 := f57 75 6 (by decide +kernel)
  have q61 : h52 0 10 = h 0 10 := f57 0 10 (by decide +kernel)
  have q62 : h52 75 4 = h 75 4 := f57 75 4 (by decide +kernel)
  have m63 := WT.fr w76 hJ f57 (by decide)
  have m64 := WT.fr7 w77 hJ f57 (by decide)
  have m65 : h52 75 4 = 2147483649 → 2147483650 ≤ h52 77 0 := by
    rw [f57 75 4 (by decide +kernel), f57 77 0 (by decide +kernel)]
    exact hB
  have t66 := Ty.fr hY f57 (by decide) (by decide)
  refine x_istore (np := 996) (x := 5) (lo' := [55340232221128654849, x_r 0, x_r 75, x_r 97, iv_c (2147483648 + j), iv_c r54, w6]) (by decide +kernel) l55 (Nat.le_of_ble_eq_true rfl) rfl ?_
  refine x_aload (np := 997) (x := 2) (by decide +kernel) rfl (x_nc_le (by decide)) ?_
  refine x_aloadS (np := 998) (x := 0) (by decide +kernel) rfl ?_
  refine x_iload (np := 1000) (x := 4) (by decide +kernel) rfl (by omega) ?_
  refine x_const (np := 1001) (x := 9223372043297226753) (a := 2147483649) (by decide +kernel) (by decide) (by decide) ?_
  refine x_iadd (np := 1002) (x := 0) (v := (2147483648 + (j + 1))) (by decide +kernel) (by omega) (by decide) (by omega) (by omega) ?_
  refine x_scr (j := (j + 1)) hs (np := 1003) (x := 0) (by decide +kernel) rfl (by omega) (by omega) ?_
  refine x_aloadS (np := 1004) (x := 0) (by decide +kernel) rfl ?_
  refine x_iload (np := 1006) (x := 4) (by decide +kernel) rfl (by omega) ?_
  refine x_const (np := 1007) (x := 9223372047592194050) (a := 2147483650) (by decide +kernel) (by decide) (by decide) ?_
  refine x_iadd (np := 1008) (x := 0) (v := (2147483648 + (j + 2))) (by decide +kernel) (by omega) (by decide) (by omega) (by omega) ?_
  refine x_scr (j := (j + 2)) hs (np := 1009) (x := 0) (by decide +kernel) rfl (by omega) (by omega) ?_
  refine x_ifz (k := 0) (tg := 1016) (np := 1012) (by decide +kernel) (by decide) sv_lt (fun q67 => ?_) (fun q67 => ?_)
  · skip
    refine x_const (np := 1017) (x := 9223372039002259456) (a := 2147483648) (by decide +kernel) (by decide) (by decide) ?_
    have b68 : (sv sc (j + 1)) < 4294967296 := sv_lt
    refine x_cIc (t := 6) (mj := 237) (n := 3) (rc := 12) (ml := 5) (cc := 0) (ss := 0) (nr := 0) (np := 1020) (as := [x_r 75, iv_c (sv sc (j + 1)), iv_c 2147483648]) (rest := []) (lo1 := [x_r 75, iv_c (sv sc (j + 1)), iv_c 2147483648, 147573952589676412928, 147573952589676412928]) (by decide +kernel) (by decide) (x_cbV (by decide +kernel) (by show _ ≤ 600000; omega) (by show _ ≤ 7300000; omega)) (x_rb_of (by decide +kernel)) rfl rfl (x_wr (by decide) (x_wi sv_lt (x_wi (by decide) x_wn))) x_wn (by decide) rfl (c237_75 j56 (by omega) (by omega) m63) (fun r71 h69 l72 q70 => ?_)
    obtain ⟨j73, f74, g75⟩ := q70
    have q76 : h69 1 1 = h52 1 1 := f74 1 1 (by decide +kernel)
    have q77 : h69 75 6 = h52 75 6 := f74 75 6 (by decide +kernel)
    have q78 : h69 0 10 = h52 0 10 := f74 0 10 (by decide +kernel)
    have q79 : h69 75 4 = h52 75 4 := f74 75 4 (by decide +kernel)
    have m80 := WT.fr m63 j56 f74 (by decide)
    have m81 := WT.fr7 m64 j56 f74 (by decide)
    have m82 : h69 75 4 = 2147483649 → 2147483650 ≤ h69 77 0 := by
      rw [f74 75 4 (by decide +kernel), f74 77 0 (by decide +kernel)]
      exact m65
    have t83 := Ty.fr t66 f74 (by decide) (by decide)
    refine x_istore (np := 1022) (x := 6) (lo' := [55340232221128654849, x_r 0, x_r 75, x_r 97, iv_c (2147483648 + j), iv_c r54, iv_c r71]) (by decide +kernel) l72 (Nat.le_of_ble_eq_true rfl) rfl ?_
    refine x_goto (np := 1025) (x := 1397) (by decide +kernel) ?_
    exact k (c0 + 1) (s0 + 6) (iv_c r54) (iv_c r71) h69 (by omega) (by omega) ⟨⟨j73, by omega, m80, m81, m82, by omega⟩, t83⟩
  refine x_const (np := 1013) (x := 9223372043297226753) (a := 2147483649) (by decide +kernel) (by decide) (by decide) ?_
  refine x_goto (np := 1016) (x := 1017) (by decide +kernel) ?_
  have b84 : (sv sc (j + 1)) < 4294967296 := sv_lt
  refine x_cIc (t := 6) (mj := 237) (n := 3) (rc := 12) (ml := 5) (cc := 0) (ss := 0) (nr := 0) (np := 1020) (as := [x_r 75, iv_c (sv sc (j + 1)), iv_c 2147483649]) (rest := []) (lo1 := [x_r 75, iv_c (sv sc (j + 1)), iv_c 2147483649, 147573952589676412928, 147573952589676412928]) (by decide +kernel) (by decide) (x_cbV (by decide +kernel) (by show _ ≤ 600000; omega) (by show _ ≤ 7300000; omega)) (x_rb_of (by decide +kernel)) rfl rfl (x_wr (by decide) (x_wi sv_lt (x_wi (by decide) x_wn))) x_wn (by decide) rfl (c237_75 j56 (by omega) (by omega) m63) (fun r87 h85 l88 q86 => ?_)
  obtain ⟨j89, f90, g91⟩ := q86
  have q92 : h85 1 1 = h52 1 1 := f90 1 1 (by decide +kernel)
  have q93 : h85 75 6 = h52 75 6 := f90 75 6 (by decide +kernel)
  have q94 : h85 0 10 = h52 0 10 := f90 0 10 (by decide +kernel)
  have q95 : h85 75 4 = h52 75 4 := f90 75 4 (by decide +kernel)
  have m96 := WT.fr m63 j56 f90 (by decide)
  have m97 := WT.fr7 m64 j56 f90 (by decide)
  have m98 : h85 75 4 = 2147483649 → 2147483650 ≤ h85 77 0 := by
    rw [f90 75 4 (by decide +kernel), f90 77 0 (by decide +kernel)]
    exact m65
  have t99 := Ty.fr t66 f90 (by decide) (by decide)
  refine x_istore (np := 1022) (x := 6) (lo' := [55340232221128654849, x_r 0, x_r 75, x_r 97, iv_c (2147483648 + j), iv_c r54, iv_c r87]) (by decide +kernel) l88 (Nat.le_of_ble_eq_true rfl) rfl ?_
  refine x_goto (np := 1025) (x := 1397) (by decide +kernel) ?_
  exact k (c0 + 1) (s0 + 6) (iv_c r54) (iv_c r87) h85 (by omega) (by omega) ⟨⟨j89, by omega, m96, m97, m98, by omega⟩, t99⟩
set_option maxHeartbeats 0 in
theorem lc_23 {sc : Nat × Nat} {d j c0 s0 w5 w6 : Nat} {h : xh} {Q : Nat → xh → Prop} (hs : scOK sc) (hI : INV9 h) (hj : j + 6 ≤ sc.1) (hc : c0 + 2 ≤ 600000) (hz : s0 + 12 ≤ 7300000) (k : ∀ c1 s1 v5 v6 h', c1 ≤ c0 + 2 → s1 ≤ s0 + 12 → INV9 h' → X sc 309 (d + 60) Q c1 s1 1397 [55340232221128654849, x_r 0, x_r 75, x_r 97, iv_c (2147483648 + j), v5, v6] [] h') : X sc 309 (d + 60) Q c0 s0 1025 [55340232221128654849, x_r 0, x_r 75, x_r 97, iv_c (2147483648 + j), w5, w6] [] h := by
  obtain ⟨⟨hJ, hE, w76, w77, hB, hG⟩, hY⟩ := hI
  have h384 := hs.1
  refine x_aload (np := 1026) (x := 1) (by decide +kernel) rfl (x_nc_le (by decide)) ?_
  refine x_cIc (t := 6) (mj := 121) (n := 1) (rc := 11) (ml := 3) (cc := 0) (ss := 0) (nr := 0) (np := 1029) (as := [x_r 0]) (rest := []) (lo1 := [x_r 0, 147573952589676412928, 147573952589676412928]) (by decide +kernel) (by decide) (x_cbV (by decide +kernel) (by show _ ≤ 600000; omega) (by show _ ≤ 7300000; omega)) (x_rb_of (by decide +kernel)) rfl rfl (x_wr (by decide) x_wn) x_wn (by decide) rfl (c121_0 hJ) (fun r3 h1 l4 q2 => ?_)
  obtain ⟨q5, b6⟩ := q2
  rw [q5]
  refine x_pop (by decide +kernel) l4 ?_
  refine x_aload (np := 1031) (x := 2) (by decide +kernel) rfl (x_nc_le (by decide)) ?_
  refine x_cIc (t := 6) (mj := 238) (n := 1) (rc := 12) (ml := 3) (cc := 0) (ss := 0) (nr := 0) (np := 1034) (as := [x_r 75]) (rest := []) (lo1 := [x_r 75, 147573952589676412928, 147573952589676412928]) (by decide +kernel) (by decide) (x_cbV (by decide +kernel) (by show _ ≤ 600000; omega) (by show _ ≤ 7300000; omega)) (x_rb_of (by decide +kernel)) rfl rfl (x_wr (by decide) x_wn) x_wn (by decide) rfl (c238_75 hJ w76) (fun r9 h7 l10 q8 => ?_)
  obtain ⟨j11, f12, g13⟩ := q8
  have q14 : h7 1 1 = h 1 1 := f12 1 1 (by decide +kernel)
  have q15 : h7 75 6 = h 75 6 := f12 75 6 (by decide +kernel)
  have q16 : h7 0 10 = h 0 10 := f12 0 10 (by decide +kernel)
  have q17 : h7 75 4 = h 75 4 := f12 75 4 (by decide +kernel)
  have m18 := WT.fr w76 hJ f12 (by decide)
  have m19 := WT.fr7 w77 hJ f12 (by decide)
  have m20 : h7 75 4 = 2147483649 → 2147483650 ≤ h7 77 0 := by
    rw [f12 75 4 (by decide +kernel), f12 77 0 (by decide +kernel)]
    exact hB
  have t21 := Ty.fr hY f12 (by decide) (by decide)
  refine x_pop (by decide +kernel) l10 ?_
  refine x_goto (np := 1038) (x := 1397) (by decide +kernel) ?_
  exact k c0 s0 w5 w6 h7 (by omega) (by omega) ⟨⟨j11, by omega, m18, m19, m20, by omega⟩, t21⟩
set_option maxHeartbeats 0 in
theorem lc_24 {sc : Nat × Nat} {d j c0 s0 w5 w6 : Nat} {h : xh} {Q : Nat → xh → Prop} (hs : scOK sc) (hI : INV9 h) (hj : j + 6 ≤ sc.1) (hc : c0 + 2 ≤ 600000) (hz : s0 + 12 ≤ 7300000) (k : ∀ c1 s1 v5 v6 h', c1 ≤ c0 + 2 → s1 ≤ s0 + 12 → INV9 h' → X sc 309 (d + 60) Q c1 s1 1397 [55340232221128654849, x_r 0, x_r 75, x_r 97, iv_c (2147483648 + j), v5, v6] [] h') : X sc 309 (d + 60) Q c0 s0 1038 [55340232221128654849, x_r 0, x_r 75, x_r 97, iv_c (2147483648 + j), w5, w6] [] h := by
  obtain ⟨⟨hJ, hE, w76, w77, hB, hG⟩, hY⟩ := hI
  have h384 := hs.1
  refine x_aload (np := 1039) (x := 1) (by decide +kernel) rfl (x_nc_le (by decide)) ?_
  refine x_aloadS (np := 1040) (x := 0) (by decide +kernel) rfl ?_
  refine x_iload (np := 1042) (x := 4) (by decide +kernel) rfl (by omega) ?_
  refine x_const (np := 1043) (x := 9223372043297226753) (a := 2147483649) (by decide +kernel) (by decide) (by decide) ?_
  refine x_iadd (np := 1044) (x := 0) (v := (2147483648 + (j + 1))) (by decide +kernel) (by omega) (by decide) (by omega) (by omega) ?_
  refine x_scr (j := (j + 1)) hs (np := 1045) (x := 0) (by decide +kernel) rfl (by omega) (by omega) ?_
  refine x_aloadS (np := 1046) (x := 0) (by decide +kernel) rfl ?_
  refine x_iload (np := 1048) (x := 4) (by decide +kernel) rfl (by omega) ?_
  refine x_const (np := 1049) (x := 9223372047592194050) (a := 2147483650) (by decide +kernel) (by decide) (by decide) ?_
  refine x_iadd (np := 1050) (x := 0) (v := (2147483648 + (j + 2))) (by decide +kernel) (by omega) (by decide) (by omega) (by omega) ?_
  refine x_scr (j := (j + 2)) hs (np := 1051) (x := 0) (by decide +kernel) rfl (by omega) (by omega) ?_
  refine x_aload (np := 1052) (x := 3) (by decide +kernel) rfl (x_nc_le (by decide)) ?_
  have b1 : (sv sc (j + 1)) < 4294967296 := sv_lt
  have b2 : (sv sc (j + 2)) < 4294967296 := sv_lt
  refine x_cIc (t := 0) (mj := 301) (n := 4) (rc := 0) (ml := 5) (cc := 2) (ss := 12) (nr := 0) (np := 1055) (as := [x_r 0, iv_c (sv sc (j + 1)), iv_c (sv sc (j + 2)), x_r 97]) (rest := []) (lo1 := [x_r 0, iv_c (sv sc (j + 1)), iv_c (sv sc (j + 2)), x_r 97, 147573952589676412928]) (by decide +kernel) (by decide) (x_cbV (by decide +kernel) (by show _ ≤ 600000; omega) (by show _ ≤ 7300000; omega)) (Or.inl rfl) rfl rfl (x_wr (by decide) (x_wi sv_lt (x_wi sv_lt (x_wr (by decide) x_wn)))) x_wn (by decide) rfl (c301_0_97 hJ (by omega) (by omega)) (fun r5 h3 l6 q4 => ?_)
  obtain ⟨j7, f8, g9⟩ := q4
  have q10 : h3 1 1 = h 1 1 := f8 1 1 (by decide +kernel)
  have q11 : h3 75 6 = h 75 6 := f8 75 6 (by decide +kernel)
  have q12 : h3 0 10 = h 0 10 := f8 0 10 (by decide +kernel)
  have q13 : h3 75 4 = h 75 4 := f8 75 4 (by decide +kernel)
  have m14 := WT.fr w76 hJ f8 (by decide)
  have m15 := WT.fr7 w77 hJ f8 (by decide)
  have m16 : h3 75 4 = 2147483649 → 2147483650 ≤ h3 77 0 := by
    rw [f8 75 4 (by decide +kernel), f8 77 0 (by decide +kernel)]
    exact hB
  have t17 := Ty.fr hY f8 (by decide) (by decide)
  refine x_istore (np := 1057) (x := 5) (lo' := [55340232221128654849, x_r 0, x_r 75, x_r 97, iv_c (2147483648 + j), iv_c r5, w6]) (by decide +kernel) l6 (Nat.le_of_ble_eq_true rfl) rfl ?_
  refine x_aload (np := 1058) (x := 2) (by decide +kernel) rfl (x_nc_le (by decide)) ?_
  refine x_aloadS (np := 1059) (x := 0) (by decide +kernel) rfl ?_
  refine x_iload (np := 1061) (x := 4) (by decide +kernel) rfl (by omega) ?_
  refine x_const (np := 1062) (x := 9223372043297226753) (a := 2147483649) (by decide +kernel) (by decide) (by decide) ?_
  refine x_iadd (np := 1063) (x := 0) (v := (2147483648 + (j + 1))) (by decide +kernel) (by omega) (by decide) (by omega) (by omega) ?_
  refine x_scr (j := (j + 1)) hs (np := 1064) (x := 0) (by decide +kernel) rfl (by omega) (by omega) ?_
  refine x_aloadS (np := 1065) (x := 0) (by decide +kernel) rfl ?_
  refine x_iload (np := 1067) (x := 4) (by decide +kernel) rfl (by omega) ?_
  refine x_const (np := 1068) (x := 9223372047592194050) (a := 2147483650) (by decide +kernel) (by decide) (by decide) ?_
  refine x_iadd (np := 1069) (x := 0) (v := (2147483648 + (j + 2))) (by decide +kernel) (by omega) (by decide) (by omega) (by omega) ?_
  refine x_scr (j := (j + 2)) hs (np := 1070) (x := 0) (by decide +kernel) rfl (by omega) (by omega) ?_
  have b18 : (sv sc (j + 1)) < 4294967296 := sv_lt
  have b19 : (sv sc (j + 2)) < 4294967296 := sv_lt
  refine x_cIc (t := 6) (mj := 261) (n := 3) (rc := 12) (ml := 4) (cc := 0) (ss := 0) (nr := 0) (np := 1073) (as := [x_r 75, iv_c (sv sc (j + 1)), iv_c (sv sc (j + 2))]) (rest := []) (lo1 := [x_r 75, iv_c (sv sc (j + 1)), iv_c (sv sc (j + 2)), 147573952589676412928]) (by decide +kernel) (by decide) (x_cbV (by decide +kernel) (by show _ ≤ 600000; omega) (by show _ ≤ 7300000; omega)) (x_rb_of (by decide +kernel)) rfl rfl (x_wr (by decide) (x_wi sv_lt (x_wi sv_lt x_wn))) x_wn (by decide) rfl (c261_75n j7 (by omega) (by omega) m14) (fun r22 h20 l23 q21 => ?_)
  obtain ⟨j24, f25, g26, g27⟩ := q21
  have q28 : h20 1 1 = h3 1 1 := f25 1 1 (by decide +kernel)
  have q29 : h20 75 6 = h3 75 6 := f25 75 6 (by decide +kernel)
  have q30 : h20 0 10 = h3 0 10 := f25 0 10 (by decide +kernel)
  have q31 : h20 75 4 = h3 75 4 := f25 75 4 (by decide +kernel)
  have m33 := WT.fr7 m15 j7 f25 (by decide)
  have m34 : h20 75 4 = 2147483649 → 2147483650 ≤ h20 77 0 := by
    rw [f25 75 4 (by decide +kernel), f25 77 0 (by decide +kernel)]
    exact m16
  have t35 := Ty.fr t17 f25 (by decide) (by decide)
  refine x_istore (np := 1075) (x := 6) (lo' := [55340232221128654849, x_r 0, x_r 75, x_r 97, iv_c (2147483648 + j), iv_c r5, iv_c r22]) (by decide +kernel) l23 (Nat.le_of_ble_eq_true rfl) rfl ?_
  refine x_goto (np := 1078) (x := 1397) (by decide +kernel) ?_
  exact k (c0 + 2) (s0 + 12) (iv_c r5) (iv_c r22) h20 (by omega) (by omega) ⟨⟨j24, by omega, g27, m33, m34, by omega⟩, t35⟩
set_option maxHeartbeats 0 in
theorem lc_25 {sc : Nat × Nat} {d j c0 s0 w5 w6 : Nat} {h : xh} {Q : Nat → xh → Prop} (hs : scOK sc) (hI : INV9 h) (hj : j + 6 ≤ sc.1) (hc : c0 + 2 ≤ 600000) (hz : s0 + 12 ≤ 7300000) (k : ∀ c1 s1 v5 v6 h', c1 ≤ c0 + 2 → s1 ≤ s0 + 12 → INV9 h' → X sc 309 (d + 60) Q c1 s1 1397 [55340232221128654849, x_r 0, x_r 75, x_r 97, iv_c (2147483648 + j), v5, v6] [] h') : X sc 309 (d + 60) Q c0 s0 1078 [55340232221128654849, x_r 0, x_r 75, x_r 97, iv_c (2147483648 + j), w5, w6] [] h := by
  obtain ⟨⟨hJ, hE, w76, w77, hB, hG⟩, hY⟩ := hI
  have h384 := hs.1
  refine x_aload (np := 1079) (x := 1) (by decide +kernel) rfl (x_nc_le (by decide)) ?_
  refine x_cIc (t := 6) (mj := 126) (n := 1) (rc := 11) (ml := 6) (cc := 0) (ss := 0) (nr := 0) (np := 1082) (as := [x_r 0]) (rest := []) (lo1 := [x_r 0, 147573952589676412928, 147573952589676412928, 147573952589676412928, 147573952589676412928, 147573952589676412928]) (by decide +kernel) (by decide) (x_cbV (by decide +kernel) (by show _ ≤ 600000; omega) (by show _ ≤ 7300000; omega)) (x_rb_of (by decide +kernel)) rfl rfl (x_wr (by decide) x_wn) x_wn (by decide) rfl (c126_0 hJ) (fun r3 h1 l4 q2 => ?_)
  obtain ⟨q5, b6⟩ := q2
  rw [q5]
  refine x_pop (by decide +kernel) l4 ?_
  refine x_aload (np := 1084) (x := 2) (by decide +kernel) rfl (x_nc_le (by decide)) ?_
  refine x_cIc (t := 6) (mj := 262) (n := 1) (rc := 12) (ml := 3) (cc := 0) (ss := 0) (nr := 0) (np := 1087) (as := [x_r 75]) (rest := []) (lo1 := [x_r 75, 147573952589676412928, 147573952589676412928]) (by decide +kernel) (by decide) (x_cbV (by decide +kernel) (by show _ ≤ 600000; omega) (by show _ ≤ 7300000; omega)) (x_rb_of (by decide +kernel)) rfl rfl (x_wr (by decide) x_wn) x_wn (by decide) rfl (c262_75 hJ w76) (fun r9 h7 l10 q8 => ?_)
  obtain ⟨j11, f12, g13⟩ := q8
  have q14 : h7 1 1 = h 1 1 := f12 1 1 (by decide +kernel)
  have q15 : h7 75 6 = h 75 6 := f12 75 6 (by decide +kernel)
  have q16 : h7 0 10 = h 0 10 := f12 0 10 (by decide +kernel)
  have q17 : h7 75 4 = h 75 4 := f12 75 4 (by decide +kernel)
  have m18 := WT.fr w76 hJ f12 (by decide)
  have m19 := WT.fr7 w77 hJ f12 (by decide)
  have m20 : h7 75 4 = 2147483649 → 2147483650 ≤ h7 77 0 := by
    rw [f12 75 4 (by decide +kernel), f12 77 0 (by decide +kernel)]
    exact hB
  have t21 := Ty.fr hY f12 (by decide) (by decide)
  refine x_pop (by decide +kernel) l10 ?_
  refine x_goto (np := 1091) (x := 1397) (by decide +kernel) ?_
  exact k c0 s0 w5 w6 h7 (by omega) (by omega) ⟨⟨j11, by omega, m18, m19, m20, by omega⟩, t21⟩
set_option maxHeartbeats 0 in
theorem lc_26 {sc : Nat × Nat} {d j c0 s0 w5 w6 : Nat} {h : xh} {Q : Nat → xh → Prop} (hs : scOK sc) (hI : INV9 h) (hj : j + 6 ≤ sc.1) (hc : c0 + 2 ≤ 600000) (hz : s0 + 12 ≤ 7300000) (k : ∀ c1 s1 v5 v6 h', c1 ≤ c0 + 2 → s1 ≤ s0 + 12 → INV9 h' → X sc 309 (d + 60) Q c1 s1 1397 [55340232221128654849, x_r 0, x_r 75, x_r 97, iv_c (2147483648 + j), v5, v6] [] h') : X sc 309 (d + 60) Q c0 s0 1091 [55340232221128654849, x_r 0, x_r 75, x_r 97, iv_c (2147483648 + j), w5, w6] [] h := by
  obtain ⟨⟨hJ, hE, w76, w77, hB, hG⟩, hY⟩ := hI
  have h384 := hs.1
  refine x_aload (np := 1092) (x := 1) (by decide +kernel) rfl (x_nc_le (by decide)) ?_
  refine x_aloadS (np := 1093) (x := 0) (by decide +kernel) rfl ?_
  refine x_iload (np := 1095) (x := 4) (by decide +kernel) rfl (by omega) ?_
  refine x_const (np := 1096) (x := 9223372043297226753) (a := 2147483649) (by decide +kernel) (by decide) (by decide) ?_
  refine x_iadd (np := 1097) (x := 0) (v := (2147483648 + (j + 1))) (by decide +kernel) (by omega) (by decide) (by omega) (by omega) ?_
  refine x_scr (j := (j + 1)) hs (np := 1098) (x := 0) (by decide +kernel) rfl (by omega) (by omega) ?_
  refine x_aloadS (np := 1099) (x := 0) (by decide +kernel) rfl ?_
  refine x_iload (np := 1101) (x := 4) (by decide +kernel) rfl (by omega) ?_
  refine x_const (np := 1102) (x := 9223372047592194050) (a := 2147483650) (by decide +kernel) (by decide) (by decide) ?_
  refine x_iadd (np := 1103) (x := 0) (v := (2147483648 + (j + 2))) (by decide +kernel) (by omega) (by decide) (by omega) (by omega) ?_
  refine x_scr (j := (j + 2)) hs (np := 1104) (x := 0) (by decide +kernel) rfl (by omega) (by omega) ?_
  refine x_aload (np := 1105) (x := 3) (by decide +kernel) rfl (x_nc_le (by decide)) ?_
  have b1 : (sv sc (j + 1)) < 4294967296 := sv_lt
  have b2 : (sv sc (j + 2)) < 4294967296 := sv_lt
  refine x_cIc (t := 0) (mj := 302) (n := 4) (rc := 0) (ml := 5) (cc := 1) (ss := 6) (nr := 0) (np := 1108) (as := [x_r 0, iv_c (sv sc (j + 1)), iv_c (sv sc (j + 2)), x_r 97]) (rest := []) (lo1 := [x_r 0, iv_c (sv sc (j + 1)), iv_c (sv sc (j + 2)), x_r 97, 147573952589676412928]) (by decide +kernel) (by decide) (x_cbV (by decide +kernel) (by show _ ≤ 600000; omega) (by show _ ≤ 7300000; omega)) (Or.inl rfl) rfl rfl (x_wr (by decide) (x_wi sv_lt (x_wi sv_lt (x_wr (by decide) x_wn)))) x_wn (by decide) rfl (c302_0_97 hJ (by omega) (by omega)) (fun r5 h3 l6 q4 => ?_)
  obtain ⟨j7, f8, g9⟩ := q4
  have q10 : h3 1 1 = h 1 1 := f8 1 1 (by decide +kernel)
  have q11 : h3 75 6 = h 75 6 := f8 75 6 (by decide +kernel)
  have q12 : h3 0 10 = h 0 10 := f8 0 10 (by decide +kernel)
  have q13 : h3 75 4 = h 75 4 := f8 75 4 (by decide +kernel)
  have m14 := WT.fr w76 hJ f8 (by decide)
  have m15 := WT.fr7 w77 hJ f8 (by decide)
  have m16 : h3 75 4 = 2147483649 → 2147483650 ≤ h3 77 0 := by
    rw [f8 75 4 (by decide +kernel), f8 77 0 (by decide +kernel)]
    exact hB
  have t17 := Ty.fr hY f8 (by decide) (by decide)
  refine x_istore (np := 1110) (x := 5) (lo' := [55340232221128654849, x_r 0, x_r 75, x_r 97, iv_c (2147483648 + j), iv_c r5, w6]) (by decide +kernel) l6 (Nat.le_of_ble_eq_true rfl) rfl ?_
  refine x_aload (np := 1111) (x := 2) (by decide +kernel) rfl (x_nc_le (by decide)) ?_
  refine x_aloadS (np := 1112) (x := 0) (by decide +kernel) rfl ?_
  refine x_iload (np := 1114) (x := 4) (by decide +kernel) rfl (by omega) ?_
  refine x_const (np := 1115) (x := 9223372043297226753) (a := 2147483649) (by decide +kernel) (by decide) (by decide) ?_
  refine x_iadd (np := 1116) (x := 0) (v := (2147483648 + (j + 1))) (by decide +kernel) (by omega) (by decide) (by omega) (by omega) ?_
  refine x_scr (j := (j + 1)) hs (np := 1117) (x := 0) (by decide +kernel) rfl (by omega) (by omega) ?_
  refine x_aloadS (np := 1118) (x := 0) (by decide +kernel) rfl ?_
  refine x_iload (np := 1120) (x := 4) (by decide +kernel) rfl (by omega) ?_
  refine x_const (np := 1121) (x := 9223372047592194050) (a := 2147483650) (by decide +kernel) (by decide) (by decide) ?_
  refine x_iadd (np := 1122) (x := 0) (v := (2147483648 + (j + 2))) (by decide +kernel) (by omega) (by decide) (by omega) (by omega) ?_
  refine x_scr (j := (j + 2)) hs (np := 1123) (x := 0) (by decide +kernel) rfl (by omega) (by omega) ?_
  have b18 : (sv sc (j + 1)) < 4294967296 := sv_lt
  have b19 : (sv sc (j + 2)) < 4294967296 := sv_lt
  refine x_cIc (t := 6) (mj := 263) (n := 3) (rc := 12) (ml := 4) (cc := 0) (ss := 0) (nr := 0) (np := 1126) (as := [x_r 75, iv_c (sv sc (j + 1)), iv_c (sv sc (j + 2))]) (rest := []) (lo1 := [x_r 75, iv_c (sv sc (j + 1)), iv_c (sv sc (j + 2)), 147573952589676412928]) (by decide +kernel) (by decide) (x_cbV (by decide +kernel) (by show _ ≤ 600000; omega) (by show _ ≤ 7300000; omega)) (x_rb_of (by decide +kernel)) rfl rfl (x_wr (by decide) (x_wi sv_lt (x_wi sv_lt x_wn))) x_wn (by decide) rfl (c263_75 j7 (by omega) (by omega) m14) (fun r22 h20 l23 q21 => ?_)
  obtain ⟨j24, f25, g26⟩ := q21
  have q27 : h20 1 1 = h3 1 1 := f25 1 1 (by decide +kernel)
  have q28 : h20 75 6 = h3 75 6 := f25 75 6 (by decide +kernel)
  have q29 : h20 0 10 = h3 0 10 := f25 0 10 (by decide +kernel)
  have q30 : h20 75 4 = h3 75 4 := f25 75 4 (by decide +kernel)
  have m31 := WT.fr m14 j7 f25 (by decide)
  have m32 := WT.fr7 m15 j7 f25 (by decide)
  have m33 : h20 75 4 = 2147483649 → 2147483650 ≤ h20 77 0 := by
    rw [f25 75 4 (by decide +kernel), f25 77 0 (by decide +kernel)]
    exact m16
  have t34 := Ty.fr t17 f25 (by decide) (by decide)
  refine x_istore (np := 1128) (x := 6) (lo' := [55340232221128654849, x_r 0, x_r 75, x_r 97, iv_c (2147483648 + j), iv_c r5, iv_c r22]) (by decide +kernel) l23 (Nat.le_of_ble_eq_true rfl) rfl ?_
  refine x_goto (np := 1131) (x := 1397) (by decide +kernel) ?_
  exact k (c0 + 1) (s0 + 6) (iv_c r5) (iv_c r22) h20 (by omega) (by omega) ⟨⟨j24, by omega, m31, m32, m33, by omega⟩, t34⟩
set_option maxHeartbeats 0 in
theorem lc_27 {sc : Nat × Nat} {d j c0 s0 w5 w6 : Nat} {h : xh} {Q : Nat → xh → Prop} (hs : scOK sc) (hI : INV9 h) (hj : j + 6 ≤ sc.1) (hc : c0 + 2 ≤ 600000) (hz : s0 + 12 ≤ 7300000) (k : ∀ c1 s1 v5 v6 h', c1 ≤ c0 + 2 → s1 ≤ s0 + 12 → INV9 h' → X sc 309 (d + 60) Q c1 s1 1397 [55340232221128654849, x_r 0, x_r 75, x_r 97, iv_c (2147483648 + j), v5, v6] [] h') : X sc 309 (d + 60) Q c0 s0 1131 [55340232221128654849, x_r 0, x_r 75, x_r 97, iv_c (2147483648 + j), w5, w6] [] h := by
  obtain ⟨⟨hJ, hE, w76, w77, hB, hG⟩, hY⟩ := hI
  have h384 := hs.1
  refine x_aload (np := 1132) (x := 1) (by decide +kernel) rfl (x_nc_le (by decide)) ?_
  refine x_cIc (t := 6) (mj := 134) (n := 1) (rc := 11) (ml := 3) (cc := 0) (ss := 0) (nr := 0) (np := 1135) (as := [x_r 0]) (rest := []) (lo1 := [x_r 0, 147573952589676412928, 147573952589676412928]) (by decide +kernel) (by decide) (x_cbV (by decide +kernel) (by show _ ≤ 600000; omega) (by show _ ≤ 7300000; omega)) (x_rb_of (by decide +kernel)) rfl rfl (x_wr (by decide) x_wn) x_wn (by decide) rfl (c134_0 hJ) (fun r3 h1 l4 q2 => ?_)
  obtain ⟨q5, b6⟩ := q2
  rw [q5]
  refine x_pop (by decide +kernel) l4 ?_
  refine x_aload (np := 1137) (x := 2) (by decide +kernel) rfl (x_nc_le (by decide)) ?_
  refine x_cIc (t := 6) (mj := 264) (n := 1) (rc := 12) (ml := 3) (cc := 0) (ss := 0) (nr := 0) (np := 1140) (as := [x_r 75]) (rest := []) (lo1 := [x_r 75, 147573952589676412928, 147573952589676412928]) (by decide +kernel) (by decide) (x_cbV (by decide +kernel) (by show _ ≤ 600000; omega) (by show _ ≤ 7300000; omega)) (x_rb_of (by decide +kernel)) rfl rfl (x_wr (by decide) x_wn) x_wn (by decide) rfl (c264_75 hJ w76) (fun r9 h7 l10 q8 => ?_)
  obtain ⟨j11, f12, g13⟩ := q8
  have q14 : h7 1 1 = h 1 1 := f12 1 1 (by decide +kernel)
  have q15 : h7 75 6 = h 75 6 := f12 75 6 (by decide +kernel)
  have q16 : h7 0 10 = h 0 10 := f12 0 10 (by decide +kernel)
  have q17 : h7 75 4 = h 75 4 := f12 75 4 (by decide +kernel)
  have m18 := WT.fr w76 hJ f12 (by decide)
  have m19 := WT.fr7 w77 hJ f12 (by decide)
  have m20 : h7 75 4 = 2147483649 → 2147483650 ≤ h7 77 0 := by
    rw [f12 75 4 (by decide +kernel), f12 77 0 (by decide +kernel)]
    exact hB
  have t21 := Ty.fr hY f12 (by decide) (by decide)
  refine x_pop (by decide +kernel) l10 ?_
  refine x_goto (np := 1144) (x := 1397) (by decide +kernel) ?_
  exact k c0 s0 w5 w6 h7 (by omega) (by omega) ⟨⟨j11, by omega, m18, m19, m20, by omega⟩, t21⟩
set_option maxHeartbeats 0 in
theorem lc_28 {sc : Nat × Nat} {d j c0 s0 w5 w6 : Nat} {h : xh} {Q : Nat → xh → Prop} (hs : scOK sc) (hI : INV9 h) (hj : j + 6 ≤ sc.1) (hc : c0 + 2 ≤ 600000) (hz : s0 + 12 ≤ 7300000) (k : ∀ c1 s1 v5 v6 h', c1 ≤ c0 + 2 → s1 ≤ s0 + 12 → INV9 h' → X sc 309 (d + 60) Q c1 s1 1397 [55340232221128654849, x_r 0, x_r 75, x_r 97, iv_c (2147483648 + j), v5, v6] [] h') : X sc 309 (d + 60) Q c0 s0 1144 [55340232221128654849, x_r 0, x_r 75, x_r 97, iv_c (2147483648 + j), w5, w6] [] h := by
  obtain ⟨⟨hJ, hE, w76, w77, hB, hG⟩, hY⟩ := hI
  have h384 := hs.1
  refine x_aload (np := 1145) (x := 1) (by decide +kernel) rfl (x_nc_le (by decide)) ?_
  refine x_aloadS (np := 1146) (x := 0) (by decide +kernel) rfl ?_
  refine x_iload (np := 1148) (x := 4) (by decide +kernel) rfl (by omega) ?_
  refine x_const (np := 1149) (x := 9223372043297226753) (a := 2147483649) (by decide +kernel) (by decide) (by decide) ?_
  refine x_iadd (np := 1150) (x := 0) (v := (2147483648 + (j + 1))) (by decide +kernel) (by omega) (by decide) (by omega) (by omega) ?_
  refine x_scr (j := (j + 1)) hs (np := 1151) (x := 0) (by decide +kernel) rfl (by omega) (by omega) ?_
  refine x_aload (np := 1152) (x := 3) (by decide +kernel) rfl (x_nc_le (by decide)) ?_
  have b1 : (sv sc (j + 1)) < 4294967296 := sv_lt
  refine x_cIc (t := 0) (mj := 303) (n := 3) (rc := 0) (ml := 4) (cc := 1) (ss := 6) (nr := 0) (np := 1155) (as := [x_r 0, iv_c (sv sc (j + 1)), x_r 97]) (rest := []) (lo1 := [x_r 0, iv_c (sv sc (j + 1)), x_r 97, 147573952589676412928]) (by decide +kernel) (by decide) (x_cbV (by decide +kernel) (by show _ ≤ 600000; omega) (by show _ ≤ 7300000; omega)) (Or.inl rfl) rfl rfl (x_wr (by decide) (x_wi sv_lt (x_wr (by decide) x_wn))) x_wn (by decide) rfl (c303_0_97 hJ (by omega)) (fun r4 h2 l5 q3 => ?_)
  obtain ⟨j6, f7, g8⟩ := q3
  have q9 : h2 1 1 = h 1 1 := f7 1 1 (by decide +kernel)
  have q10 : h2 75 6 = h 75 6 := f7 75 6 (by decide +kernel)
  have q11 : h2 0 10 = h 0 10 := f7 0 10 (by decide +kernel)
  have q12 : h2 75 4 = h 75 4 := f7 75 4 (by decide +kernel)
  have m13 := WT.fr w76 hJ f7 (by decide)
  have m14 := WT.fr7 w77 hJ f7 (by decide)
  have m15 : h2 75 4 = 2147483649 → 2147483650 ≤ h2 77 0 := by
    rw [f7 75 4 (by decide +kernel), f7 77 0 (by decide +kernel)]
    exact hB
  have t16 := Ty.fr hY f7 (by decide) (by decide)
  refine x_istore (np := 1157) (x := 5) (lo' := [55340232221128654849, x_r 0, x_r 75, x_r 97, iv_c (2147483648 + j), iv_c r4, w6]) (by decide +kernel) l5 (Nat.le_of_ble_eq_true rfl) rfl ?_
  refine x_aload (np := 1158) (x := 2) (by decide +kernel) rfl (x_nc_le (by decide)) ?_
  refine x_aloadS (np := 1159) (x := 0) (by decide +kernel) rfl ?_
  refine x_iload (np := 1161) (x := 4) (by decide +kernel) rfl (by omega) ?_
  refine x_const (np := 1162) (x := 9223372043297226753) (a := 2147483649) (by decide +kernel) (by decide) (by decide) ?_
  refine x_iadd (np := 1163) (x := 0) (v := (2147483648 + (j + 1))) (by decide +kernel) (by omega) (by decide) (by omega) (by omega) ?_
  refine x_scr (j := (j + 1)) hs (np := 1164) (x := 0) (by decide +kernel) rfl (by omega) (by omega) ?_
  have b17 : (sv sc (j + 1)) < 4294967296 := sv_lt
  refine x_cIc (t := 6) (mj := 265) (n := 2) (rc := 12) (ml := 4) (cc := 0) (ss := 0) (nr := 0) (np := 1167) (as := [x_r 75, iv_c (sv sc (j + 1))]) (rest := []) (lo1 := [x_r 75, iv_c (sv sc (j + 1)), 147573952589676412928, 147573952589676412928]) (by decide +kernel) (by decide) (x_cbV (by decide +kernel) (by show _ ≤ 600000; omega) (by show _ ≤ 7300000; omega)) (x_rb_of (by decide +kernel)) rfl rfl (x_wr (by decide) (x_wi sv_lt x_wn)) x_wn (by decide) rfl (c265_75 j6 (by omega)) (fun r20 h18 l21 q19 => ?_)
  obtain ⟨j22, f23, g24⟩ := q19
  have q25 : h18 1 1 = h2 1 1 := f23 1 1 (by decide +kernel)
  have q26 : h18 75 6 = h2 75 6 := f23 75 6 (by decide +kernel)
  have q27 : h18 0 10 = h2 0 10 := f23 0 10 (by decide +kernel)
  have q28 : h18 75 4 = h2 75 4 := f23 75 4 (by decide +kernel)
  have m29 := WT.fr m13 j6 f23 (by decide)
  have m30 := WT.fr7 m14 j6 f23 (by decide)
  have m31 : h18 75 4 = 2147483649 → 2147483650 ≤ h18 77 0 := by
    rw [f23 75 4 (by decide +kernel), f23 77 0 (by decide +kernel)]
    exact m15
  have t32 := Ty.fr t16 f23 (by decide) (by decide)
  refine x_istore (np := 1169) (x := 6) (lo' := [55340232221128654849, x_r 0, x_r 75, x_r 97, iv_c (2147483648 + j), iv_c r4, iv_c r20]) (by decide +kernel) l21 (Nat.le_of_ble_eq_true rfl) rfl ?_
  refine x_goto (np := 1172) (x := 1397) (by decide +kernel) ?_
  exact k (c0 + 1) (s0 + 6) (iv_c r4) (iv_c r20) h18 (by omega) (by omega) ⟨⟨j22, by omega, m29, m30, m31, by omega⟩, t32⟩
set_option maxHeartbeats 0 in
theorem lc_29 {sc : Nat × Nat} {d j c0 s0 w5 w6 : Nat} {h : xh} {Q : Nat → xh → Prop} (hs : scOK sc) (hI : INV9 h) (hj : j + 6 ≤ sc.1) (hc : c0 + 2 ≤ 600000) (hz : s0 + 12 ≤ 7300000) (k : ∀ c1 s1 v5 v6 h', c1 ≤ c0 + 2 → s1 ≤ s0 + 12 → INV9 h' → X sc 309 (d + 60) Q c1 s1 1397 [55340232221128654849, x_r 0, x_r 75, x_r 97, iv_c (2147483648 + j), v5, v6] [] h') : X sc 309 (d + 60) Q c0 s0 1172 [55340232221128654849, x_r 0, x_r 75, x_r 97, iv_c (2147483648 + j), w5, w6] [] h := by
  obtain ⟨⟨hJ, hE, w76, w77, hB, hG⟩, hY⟩ := hI
  have h384 := hs.1
  refine x_aload (np := 1173) (x := 1) (by decide +kernel) rfl (x_nc_le (by decide)) ?_
  refine x_aloadS (np := 1174) (x := 0) (by decide +kernel) rfl ?_
  refine x_iload (np := 1176) (x := 4) (by decide +kernel) rfl (by omega) ?_
  refine x_const (np := 1177) (x := 9223372043297226753) (a := 2147483649) (by decide +kernel) (by decide) (by decide) ?_
  refine x_iadd (np := 1178) (x := 0) (v := (2147483648 + (j + 1))) (by decide +kernel) (by omega) (by decide) (by omega) (by omega) ?_
  refine x_scr (j := (j + 1)) hs (np := 1179) (x := 0) (by decide +kernel) rfl (by omega) (by omega) ?_
  refine x_aloadS (np := 1180) (x := 0) (by decide +kernel) rfl ?_
  refine x_iload (np := 1182) (x := 4) (by decide +kernel) rfl (by omega) ?_
  refine x_const (np := 1183) (x := 9223372047592194050) (a := 2147483650) (by decide +kernel) (by decide) (by decide) ?_
  refine x_iadd (np := 1184) (x := 0) (v := (2147483648 + (j + 2))) (by decide +kernel) (by omega) (by decide) (by omega) (by omega) ?_
  refine x_scr (j := (j + 2)) hs (np := 1185) (x := 0) (by decide +kernel) rfl (by omega) (by omega) ?_
  refine x_aload (np := 1186) (x := 3) (by decide +kernel) rfl (x_nc_le (by decide)) ?_
  have b1 : (sv sc (j + 1)) < 4294967296 := sv_lt
  have b2 : (sv sc (j + 2)) < 4294967296 := sv_lt
  refine x_cIc (t := 0) (mj := 304) (n := 4) (rc := 0) (ml := 5) (cc := 2) (ss := 12) (nr := 0) (np := 1189) (as := [x_r 0, iv_c (sv sc (j + 1)), iv_c (sv sc (j + 2)), x_r 97]) (rest := []) (lo1 := [x_r 0, iv_c (sv sc (j + 1)), iv_c (sv sc (j + 2)), x_r 97, 147573952589676412928]) (by decide +kernel) (by decide) (x_cbV (by decide +kernel) (by show _ ≤ 600000; omega) (by show _ ≤ 7300000; omega)) (Or.inl rfl) rfl rfl (x_wr (by decide) (x_wi sv_lt (x_wi sv_lt (x_wr (by decide) x_wn)))) x_wn (by decide) rfl (c304_0_97 hJ (by omega) (by omega)) (fun r5 h3 l6 q4 => ?_)
  obtain ⟨j7, f8, g9⟩ := q4
  have q10 : h3 1 1 = h 1 1 := f8 1 1 (by decide +kernel)
  have q11 : h3 75 6 = h 75 6 := f8 75 6 (by decide +kernel)
  have q12 : h3 0 10 = h 0 10 := f8 0 10 (by decide +kernel)
  have q13 : h3 75 4 = h 75 4 := f8 75 4 (by decide +kernel)
  have m14 := WT.fr w76 hJ f8 (by decide)
  have m15 := WT.fr7 w77 hJ f8 (by decide)
  have m16 : h3 75 4 = 2147483649 → 2147483650 ≤ h3 77 0 := by
    rw [f8 75 4 (by decide +kernel), f8 77 0 (by decide +kernel)]
    exact hB
  have t17 := Ty.fr hY f8 (by decide) (by decide)
  refine x_istore (np := 1191) (x := 5) (lo' := [55340232221128654849, x_r 0, x_r 75, x_r 97, iv_c (2147483648 + j), iv_c r5, w6]) (by decide +kernel) l6 (Nat.le_of_ble_eq_true rfl) rfl ?_
  refine x_aload (np := 1192) (x := 2) (by decide +kernel) rfl (x_nc_le (by decide)) ?_
  refine x_aloadS (np := 1193) (x := 0) (by decide +kernel) rfl ?_
  refine x_iload (np := 1195) (x := 4) (by decide +kernel) rfl (by omega) ?_
  refine x_const (np := 1196) (x := 9223372043297226753) (a := 2147483649) (by decide +kernel) (by decide) (by decide) ?_
  refine x_iadd (np := 1197) (x := 0) (v := (2147483648 + (j + 1))) (by decide +kernel) (by omega) (by decide) (by omega) (by omega) ?_
  refine x_scr (j := (j + 1)) hs (np := 1198) (x := 0) (by decide +kernel) rfl (by omega) (by omega) ?_
  refine x_aloadS (np := 1199) (x := 0) (by decide +kernel) rfl ?_
  refine x_iload (np := 1201) (x := 4) (by decide +kernel) rfl (by omega) ?_
  refine x_const (np := 1202) (x := 9223372047592194050) (a := 2147483650) (by decide +kernel) (by decide) (by decide) ?_
  refine x_iadd (np := 1203) (x := 0) (v := (2147483648 + (j + 2))) (by decide +kernel) (by omega) (by decide) (by omega) (by omega) ?_
  refine x_scr (j := (j + 2)) hs (np := 1204) (x := 0) (by decide +kernel) rfl (by omega) (by omega) ?_
  have b18 : (sv sc (j + 1)) < 4294967296 := sv_lt
  have b19 : (sv sc (j + 2)) < 4294967296 := sv_lt
  refine x_cIc (t := 6) (mj := 266) (n := 3) (rc := 12) (ml := 4) (cc := 0) (ss := 0) (nr := 0) (np := 1207) (as := [x_r 75, iv_c (sv sc (j + 1)), iv_c (sv sc (j + 2))]) (rest := []) (lo1 := [x_r 75, iv_c (sv sc (j + 1)), iv_c (sv sc (j + 2)), 147573952589676412928]) (by decide +kernel) (by decide) (x_cbV (by decide +kernel) (by show _ ≤ 600000; omega) (by show _ ≤ 7300000; omega)) (x_rb_of (by decide +kernel)) rfl rfl (x_wr (by decide) (x_wi sv_lt (x_wi sv_lt x_wn))) x_wn (by decide) rfl (c266_75 j7 (by omega) (by omega) m14) (fun r22 h20 l23 q21 => ?_)
  obtain ⟨j24, f25, g26⟩ := q21
  have q27 : h20 1 1 = h3 1 1 := f25 1 1 (by decide +kernel)
  have q28 : h20 75 6 = h3 75 6 := f25 75 6 (by decide +kernel)
  have q29 : h20 0 10 = h3 0 10 := f25 0 10 (by decide +kernel)
  have q30 : h20 75 4 = h3 75 4 := f25 75 4 (by decide +kernel)
  have m31 := WT.fr m14 j7 f25 (by decide)
  have m32 := WT.fr7 m15 j7 f25 (by decide)
  have m33 : h20 75 4 = 2147483649 → 2147483650 ≤ h20 77 0 := by
    rw [f25 75 4 (by decide +kernel), f25 77 0 (by decide +kernel)]
    exact m16
  have t34 := Ty.fr t17 f25 (by decide) (by decide)
  refine x_istore (np := 1209) (x := 6) (lo' := [55340232221128654849, x_r 0, x_r 75, x_r 97, iv_c (2147483648 + j), iv_c r5, iv_c r22]) (by decide +kernel) l23 (Nat.le_of_ble_eq_true rfl) rfl ?_
  refine x_goto (np := 1212) (x := 1397) (by decide +kernel) ?_
  exact k (c0 + 2) (s0 + 12) (iv_c r5) (iv_c r22) h20 (by omega) (by omega) ⟨⟨j24, by omega, m31, m32, m33, by omega⟩, t34⟩
set_option maxHeartbeats 0 in
theorem lc_30 {sc : Nat × Nat} {d j c0 s0 w5 w6 : Nat} {h : xh} {Q : Nat → xh → Prop} (hs : scOK sc) (hI : INV9 h) (hj : j + 6 ≤ sc.1) (hc : c0 + 2 ≤ 600000) (hz : s0 + 12 ≤ 7300000) (k : ∀ c1 s1 v5 v6 h', c1 ≤ c0 + 2 → s1 ≤ s0 + 12 → INV9 h' → X sc 309 (d + 60) Q c1 s1 1397 [55340232221128654849, x_r 0, x_r 75, x_r 97, iv_c (2147483648 + j), v5, v6] [] h') : X sc 309 (d + 60) Q c0 s0 1212 [55340232221128654849, x_r 0, x_r 75, x_r 97, iv_c (2147483648 + j), w5, w6] [] h := by
  obtain ⟨⟨hJ, hE, w76, w77, hB, hG⟩, hY⟩ := hI
  have h384 := hs.1
  refine x_aload (np := 1213) (x := 1) (by decide +kernel) rfl (x_nc_le (by decide)) ?_
  refine x_aloadS (np := 1214) (x := 0) (by decide +kernel) rfl ?_
  refine x_iload (np := 1216) (x := 4) (by decide +kernel) rfl (by omega) ?_
  refine x_const (np := 1217) (x := 9223372043297226753) (a := 2147483649) (by decide +kernel) (by decide) (by decide) ?_
  refine x_iadd (np := 1218) (x := 0) (v := (2147483648 + (j + 1))) (by decide +kernel) (by omega) (by decide) (by omega) (by omega) ?_
  refine x_scr (j := (j + 1)) hs (np := 1219) (x := 0) (by decide +kernel) rfl (by omega) (by omega) ?_
  refine x_aload (np := 1220) (x := 3) (by decide +kernel) rfl (x_nc_le (by decide)) ?_
  have b1 : (sv sc (j + 1)) < 4294967296 := sv_lt
  refine x_cIc (t := 0) (mj := 305) (n := 3) (rc := 0) (ml := 4) (cc := 1) (ss := 6) (nr := 0) (np := 1223) (as := [x_r 0, iv_c (sv sc (j + 1)), x_r 97]) (rest := []) (lo1 := [x_r 0, iv_c (sv sc (j + 1)), x_r 97, 147573952589676412928]) (by decide +kernel) (by decide) (x_cbV (by decide +kernel) (by show _ ≤ 600000; omega) (by show _ ≤ 7300000; omega)) (Or.inl rfl) rfl rfl (x_wr (by decide) (x_wi sv_lt (x_wr (by decide) x_wn))) x_wn (by decide) rfl (c305_0_97 hJ (by omega)) (fun r4 h2 l5 q3 => ?_)
  obtain ⟨j6, f7, g8⟩ := q3
  have q9 : h2 1 1 = h 1 1 := f7 1 1 (by decide +kernel)
  have q10 : h2 75 6 = h 75 6 := f7 75 6 (by decide +kernel)
  have q11 : h2 0 10 = h 0 10 := f7 0 10 (by decide +kernel)
  have q12 : h2 75 4 = h 75 4 := f7 75 4 (by decide +kernel)
  have m13 := WT.fr w76 hJ f7 (by decide)
  have m14 := WT.fr7 w77 hJ f7 (by decide)
  have m15 : h2 75 4 = 2147483649 → 2147483650 ≤ h2 77 0 := by
    rw [f7 75 4 (by decide +kernel), f7 77 0 (by decide +kernel)]
    exact hB
  have t16 := Ty.fr hY f7 (by decide) (by decide)
  refine x_istore (np := 1225) (x := 5) (lo' := [55340232221128654849, x_r 0, x_r 75, x_r 97, iv_c (2147483648 + j), iv_c r4, w6]) (by decide +kernel) l5 (Nat.le_of_ble_eq_true rfl) rfl ?_
  refine x_aload (np := 1226) (x := 2) (by decide +kernel) rfl (x_nc_le (by decide)) ?_
  refine x_aloadS (np := 1227) (x := 0) (by decide +kernel) rfl ?_
  refine x_iload (np := 1229) (x := 4) (by decide +kernel) rfl (by omega) ?_
  refine x_const (np := 1230) (x := 9223372043297226753) (a := 2147483649) (by decide +kernel) (by decide) (by decide) ?_
  refine x_iadd (np := 1231) (x := 0) (v := (2147483648 + (j + 1))) (by decide +kernel) (by omega) (by decide) (by omega) (by omega) ?_
  refine x_scr (j := (j + 1)) hs (np := 1232) (x := 0) (by decide +kernel) rfl (by omega) (by omega) ?_
  have b17 : (sv sc (j + 1)) < 4294967296 := sv_lt
  refine x_cIc (t := 6) (mj := 267) (n := 2) (rc := 12) (ml := 6) (cc := 0) (ss := 0) (nr := 0) (np := 1235) (as := [x_r 75, iv_c (sv sc (j + 1))]) (rest := []) (lo1 := [x_r 75, iv_c (sv sc (j + 1)), 147573952589676412928, 147573952589676412928, 147573952589676412928, 147573952589676412928]) (by decide +kernel) (by decide) (x_cbV (by decide +kernel) (by show _ ≤ 600000; omega) (by show _ ≤ 7300000; omega)) (x_rb_of (by decide +kernel)) rfl rfl (x_wr (by decide) (x_wi sv_lt x_wn)) x_wn (by decide) rfl (c267_75 j6 (by omega) m13) (fun r20 h18 l21 q19 => ?_)
  obtain ⟨j22, f23, g24⟩ := q19
  have q25 : h18 1 1 = h2 1 1 := f23 1 1 (by decide +kernel)
  have q26 : h18 75 6 = h2 75 6 := f23 75 6 (by decide +kernel)
  have q27 : h18 0 10 = h2 0 10 := f23 0 10 (by decide +kernel)
  have q28 : h18 75 4 = h2 75 4 := f23 75 4 (by decide +kernel)
  have m29 := WT.fr m13 j6 f23 (by decide)
  have m30 := WT.fr7 m14 j6 f23 (by decide)
  have m31 : h18 75 4 = 2147483649 → 2147483650 ≤ h18 77 0 := by
    rw [f23 75 4 (by decide +kernel), f23 77 0 (by decide +kernel)]
    exact m15
  have t32 := Ty.fr t16 f23 (by decide) (by decide)
  refine x_istore (np := 1237) (x := 6) (lo' := [55340232221128654849, x_r 0, x_r 75, x_r 97, iv_c (2147483648 + j), iv_c r4, iv_c r20]) (by decide +kernel) l21 (Nat.le_of_ble_eq_true rfl) rfl ?_
  refine x_goto (np := 1240) (x := 1397) (by decide +kernel) ?_
  exact k (c0 + 1) (s0 + 6) (iv_c r4) (iv_c r20) h18 (by omega) (by omega) ⟨⟨j22, by omega, m29, m30, m31, by omega⟩, t32⟩
set_option maxHeartbeats 0 in
theorem lc_31 {sc : Nat × Nat} {d j c0 s0 w5 w6 : Nat} {h : xh} {Q : Nat → xh → Prop} (hs : scOK sc) (hI : INV9 h) (hj : j + 6 ≤ sc.1) (hc : c0 + 2 ≤ 600000) (hz : s0 + 12 ≤ 7300000) (k : ∀ c1 s1 v5 v6 h', c1 ≤ c0 + 2 → s1 ≤ s0 + 12 → INV9 h' → X sc 309 (d + 60) Q c1 s1 1397 [55340232221128654849, x_r 0, x_r 75, x_r 97, iv_c (2147483648 + j), v5, v6] [] h') : X sc 309 (d + 60) Q c0 s0 1240 [55340232221128654849, x_r 0, x_r 75, x_r 97, iv_c (2147483648 + j), w5, w6] [] h := by
  obtain ⟨⟨hJ, hE, w76, w77, hB, hG⟩, hY⟩ := hI
  have h384 := hs.1
  refine x_aload (np := 1241) (x := 1) (by decide +kernel) rfl (x_nc_le (by decide)) ?_
  refine x_aloadS (np := 1242) (x := 0) (by decide +kernel) rfl ?_
  refine x_iload (np := 1244) (x := 4) (by decide +kernel) rfl (by omega) ?_
  refine x_const (np := 1245) (x := 9223372043297226753) (a := 2147483649) (by decide +kernel) (by decide) (by decide) ?_
  refine x_iadd (np := 1246) (x := 0) (v := (2147483648 + (j + 1))) (by decide +kernel) (by omega) (by decide) (by omega) (by omega) ?_
  refine x_scr (j := (j + 1)) hs (np := 1247) (x := 0) (by decide +kernel) rfl (by omega) (by omega) ?_
  refine x_aload (np := 1248) (x := 3) (by decide +kernel) rfl (x_nc_le (by decide)) ?_
  have b1 : (sv sc (j + 1)) < 4294967296 := sv_lt
  refine x_cIc (t := 0) (mj := 306) (n := 3) (rc := 0) (ml := 4) (cc := 1) (ss := 6) (nr := 0) (np := 1251) (as := [x_r 0, iv_c (sv sc (j + 1)), x_r 97]) (rest := []) (lo1 := [x_r 0, iv_c (sv sc (j + 1)), x_r 97, 147573952589676412928]) (by decide +kernel) (by decide) (x_cbV (by decide +kernel) (by show _ ≤ 600000; omega) (by show _ ≤ 7300000; omega)) (Or.inl rfl) rfl rfl (x_wr (by decide) (x_wi sv_lt (x_wr (by decide) x_wn))) x_wn (by decide) rfl (c306_0_97 hJ (by omega)) (fun r4 h2 l5 q3 => ?_)
  obtain ⟨j6, f7, g8⟩ := q3
  have q9 : h2 1 1 = h 1 1 := f7 1 1 (by decide +kernel)
  have q10 : h2 75 6 = h 75 6 := f7 75 6 (by decide +kernel)
  have q11 : h2 0 10 = h 0 10 := f7 0 10 (by decide +kernel)
  have q12 : h2 75 4 = h 75 4 := f7 75 4 (by decide +kernel)
  have m13 := WT.fr w76 hJ f7 (by decide)
  have m14 := WT.fr7 w77 hJ f7 (by decide)
  have m15 : h2 75 4 = 2147483649 → 2147483650 ≤ h2 77 0 := by
    rw [f7 75 4 (by decide +kernel), f7 77 0 (by decide +kernel)]
    exact hB
  have t16 := Ty.fr hY f7 (by decide) (by decide)
  refine x_istore (np := 1253) (x := 5) (lo' := [55340232221128654849, x_r 0, x_r 75, x_r 97, iv_c (2147483648 + j), iv_c r4, w6]) (by decide +kernel) l5 (Nat.le_of_ble_eq_true rfl) rfl ?_
  refine x_aload (np := 1254) (x := 2) (by decide +kernel) rfl (x_nc_le (by decide)) ?_
  refine x_aloadS (np := 1255) (x := 0) (by decide +kernel) rfl ?_
  refine x_iload (np := 1257) (x := 4) (by decide +kernel) rfl (by omega) ?_
  refine x_const (np := 1258) (x := 9223372043297226753) (a := 2147483649) (by decide +kernel) (by decide) (by decide) ?_
  refine x_iadd (np := 1259) (x := 0) (v := (2147483648 + (j + 1))) (by decide +kernel) (by omega) (by decide) (by omega) (by omega) ?_
  refine x_scr (j := (j + 1)) hs (np := 1260) (x := 0) (by decide +kernel) rfl (by omega) (by omega) ?_
  have b17 : (sv sc (j + 1)) < 4294967296 := sv_lt
  refine x_cIc (t := 6) (mj := 239) (n := 2) (rc := 12) (ml := 4) (cc := 0) (ss := 0) (nr := 0) (np := 1263) (as := [x_r 75, iv_c (sv sc (j + 1))]) (rest := []) (lo1 := [x_r 75, iv_c (sv sc (j + 1)), 147573952589676412928, 147573952589676412928]) (by decide +kernel) (by decide) (x_cbV (by decide +kernel) (by show _ ≤ 600000; omega) (by show _ ≤ 7300000; omega)) (x_rb_of (by decide +kernel)) rfl rfl (x_wr (by decide) (x_wi sv_lt x_wn)) x_wn (by decide) rfl (c239_75 j6 (by omega) m13) (fun r20 h18 l21 q19 => ?_)
  obtain ⟨j22, f23, g24⟩ := q19
  have q25 : h18 1 1 = h2 1 1 := f23 1 1 (by decide +kernel)
  have q26 : h18 75 6 = h2 75 6 := f23 75 6 (by decide +kernel)
  have q27 : h18 0 10 = h2 0 10 := f23 0 10 (by decide +kernel)
  have q28 : h18 75 4 = h2 75 4 := f23 75 4 (by decide +kernel)
  have m29 := WT.fr m13 j6 f23 (by decide)
  have m30 := WT.fr7 m14 j6 f23 (by decide)
  have m31 : h18 75 4 = 2147483649 → 2147483650 ≤ h18 77 0 := by
    rw [f23 75 4 (by decide +kernel), f23 77 0 (by decide +kernel)]
    exact m15
  have t32 := Ty.fr t16 f23 (by decide) (by decide)
  refine x_istore (np := 1265) (x := 6) (lo' := [55340232221128654849, x_r 0, x_r 75, x_r 97, iv_c (2147483648 + j), iv_c r4, iv_c r20]) (by decide +kernel) l21 (Nat.le_of_ble_eq_true rfl) rfl ?_
  refine x_goto (np := 1268) (x := 1397) (by decide +kernel) ?_
  exact k (c0 + 1) (s0 + 6) (iv_c r4) (iv_c r20) h18 (by omega) (by omega) ⟨⟨j22, by omega, m29, m30, m31, by omega⟩, t32⟩
set_option maxHeartbeats 0 in
theorem lc_32 {sc : Nat × Nat} {d j c0 s0 w5 w6 : Nat} {h : xh} {Q : Nat → xh → Prop} (hs : scOK sc) (hI : INV9 h) (hj : j + 6 ≤ sc.1) (hc : c0 + 2 ≤ 600000) (hz : s0 + 12 ≤ 7300000) (k : ∀ c1 s1 v5 v6 h', c1 ≤ c0 + 2 → s1 ≤ s0 + 12 → INV9 h' → X sc 309 (d + 60) Q c1 s1 1397 [55340232221128654849, x_r 0, x_r 75, x_r 97, iv_c (2147483648 + j), v5, v6] [] h') : X sc 309 (d + 60) Q c0 s0 1268 [55340232221128654849, x_r 0, x_r 75, x_r 97, iv_c (2147483648 + j), w5, w6] [] h := by
  obtain ⟨⟨hJ, hE, w76, w77, hB, hG⟩, hY⟩ := hI
  have h384 := hs.1
  refine x_aload (np := 1269) (x := 1) (by decide +kernel) rfl (x_nc_le (by decide)) ?_
  refine x_aloadS (np := 1270) (x := 0) (by decide +kernel) rfl ?_
  refine x_iload (np := 1272) (x := 4) (by decide +kernel) rfl (by omega) ?_
  refine x_const (np := 1273) (x := 9223372043297226753) (a := 2147483649) (by decide +kernel) (by decide) (by decide) ?_
  refine x_iadd (np := 1274) (x := 0) (v := (2147483648 + (j + 1))) (by decide +kernel) (by omega) (by decide) (by omega) (by omega) ?_
  refine x_scr (j := (j + 1)) hs (np := 1275) (x := 0) (by decide +kernel) rfl (by omega) (by omega) ?_
  refine x_aloadS (np := 1276) (x := 0) (by decide +kernel) rfl ?_
  refine x_iload (np := 1278) (x := 4) (by decide +kernel) rfl (by omega) ?_
  refine x_const (np := 1279) (x := 9223372047592194050) (a := 2147483650) (by decide +kernel) (by decide) (by decide) ?_
  refine x_iadd (np := 1280) (x := 0) (v := (2147483648 + (j + 2))) (by decide +kernel) (by omega) (by decide) (by omega) (by omega) ?_
  refine x_scr (j := (j + 2)) hs (np := 1281) (x := 0) (by decide +kernel) rfl (by omega) (by omega) ?_
  refine x_aload (np := 1282) (x := 3) (by decide +kernel) rfl (x_nc_le (by decide)) ?_
  have b1 : (sv sc (j + 1)) < 4294967296 := sv_lt
  have b2 : (sv sc (j + 2)) < 4294967296 := sv_lt
  refine x_cIc (t := 0) (mj := 307) (n := 4) (rc := 0) (ml := 5) (cc := 2) (ss := 12) (nr := 0) (np := 1285) (as := [x_r 0, iv_c (sv sc (j + 1)), iv_c (sv sc (j + 2)), x_r 97]) (rest := []) (lo1 := [x_r 0, iv_c (sv sc (j + 1)), iv_c (sv sc (j + 2)), x_r 97, 147573952589676412928]) (by decide +kernel) (by decide) (x_cbV (by decide +kernel) (by show _ ≤ 600000; omega) (by show _ ≤ 7300000; omega)) (Or.inl rfl) rfl rfl (x_wr (by decide) (x_wi sv_lt (x_wi sv_lt (x_wr (by decide) x_wn)))) x_wn (by decide) rfl (c307_0_97 hJ (by omega) (by omega)) (fun r5 h3 l6 q4 => ?_)
  obtain ⟨j7, f8, g9⟩ := q4
  have q10 : h3 1 1 = h 1 1 := f8 1 1 (by decide +kernel)
  have q11 : h3 75 6 = h 75 6 := f8 75 6 (by decide +kernel)
  have q12 : h3 0 10 = h 0 10 := f8 0 10 (by decide +kernel)
  have q13 : h3 75 4 = h 75 4 := f8 75 4 (by decide +kernel)
  have m14 := WT.fr w76 hJ f8 (by decide)
  have m15 := WT.fr7 w77 hJ f8 (by decide)
  have m16 : h3 75 4 = 2147483649 → 2147483650 ≤ h3 77 0 := by
    rw [f8 75 4 (by decide +kernel), f8 77 0 (by decide +kernel)]
    exact hB
  have t17 := Ty.fr hY f8 (by decide) (by decide)
  refine x_istore (np := 1287) (x := 5) (lo' := [55340232221128654849, x_r 0, x_r 75, x_r 97, iv_c (2147483648 + j), iv_c r5, w6]) (by decide +kernel) l6 (Nat.le_of_ble_eq_true rfl) rfl ?_
  refine x_aload (np := 1288) (x := 2) (by decide +kernel) rfl (x_nc_le (by decide)) ?_
  refine x_aloadS (np := 1289) (x := 0) (by decide +kernel) rfl ?_
  refine x_iload (np := 1291) (x := 4) (by decide +kernel) rfl (by omega) ?_
  refine x_const (np := 1292) (x := 9223372043297226753) (a := 2147483649) (by decide +kernel) (by decide) (by decide) ?_
  refine x_iadd (np := 1293) (x := 0) (v := (2147483648 + (j + 1))) (by decide +kernel) (by omega) (by decide) (by omega) (by omega) ?_
  refine x_scr (j := (j + 1)) hs (np := 1294) (x := 0) (by decide +kernel) rfl (by omega) (by omega) ?_
  refine x_aloadS (np := 1295) (x := 0) (by decide +kernel) rfl ?_
  refine x_iload (np := 1297) (x := 4) (by decide +kernel) rfl (by omega) ?_
  refine x_const (np := 1298) (x := 9223372047592194050) (a := 2147483650) (by decide +kernel) (by decide) (by decide) ?_
  refine x_iadd (np := 1299) (x := 0) (v := (2147483648 + (j + 2))) (by decide +kernel) (by omega) (by decide) (by omega) (by omega) ?_
  refine x_scr (j := (j + 2)) hs (np := 1300) (x := 0) (by decide +kernel) rfl (by omega) (by omega) ?_
  have b18 : (sv sc (j + 1)) < 4294967296 := sv_lt
  have b19 : (sv sc (j + 2)) < 4294967296 := sv_lt
  refine x_cIc (t := 6) (mj := 240) (n := 3) (rc := 12) (ml := 5) (cc := 0) (ss := 0) (nr := 0) (np := 1303) (as := [x_r 75, iv_c (sv sc (j + 1)), iv_c (sv sc (j + 2))]) (rest := []) (lo1 := [x_r 75, iv_c (sv sc (j + 1)), iv_c (sv sc (j + 2)), 147573952589676412928, 147573952589676412928]) (by decide +kernel) (by decide) (x_cbV (by decide +kernel) (by show _ ≤ 600000; omega) (by show _ ≤ 7300000; omega)) (x_rb_of (by decide +kernel)) rfl rfl (x_wr (by decide) (x_wi sv_lt (x_wi sv_lt x_wn))) x_wn (by decide) rfl (c240_75 j7 (by omega) (by omega) m14) (fun r22 h20 l23 q21 => ?_)
  obtain ⟨j24, f25, g26⟩ := q21
  have q27 : h20 1 1 = h3 1 1 := f25 1 1 (by decide +kernel)
  have q28 : h20 75 6 = h3 75 6 := f25 75 6 (by decide +kernel)
  have q29 : h20 0 10 = h3 0 10 := f25 0 10 (by decide +kernel)
  have q30 : h20 75 4 = h3 75 4 := f25 75 4 (by decide +kernel)
  have m31 := WT.fr m14 j7 f25 (by decide)
  have m32 := WT.fr7 m15 j7 f25 (by decide)
  have m33 : h20 75 4 = 2147483649 → 2147483650 ≤ h20 77 0 := by
    rw [f25 75 4 (by decide +kernel), f25 77 0 (by decide +kernel)]
    exact m16
  have t34 := Ty.fr t17 f25 (by decide) (by decide)
  refine x_istore (np := 1305) (x := 6) (lo' := [55340232221128654849, x_r 0, x_r 75, x_r 97, iv_c (2147483648 + j), iv_c r5, iv_c r22]) (by decide +kernel) l23 (Nat.le_of_ble_eq_true rfl) rfl ?_
  refine x_goto (np := 1308) (x := 1397) (by decide +kernel) ?_
  exact k (c0 + 2) (s0 + 12) (iv_c r5) (iv_c r22) h20 (by omega) (by omega) ⟨⟨j24, by omega, m31, m32, m33, by omega⟩, t34⟩
set_option maxHeartbeats 0 in
theorem lc_33 {sc : Nat × Nat} {d j c0 s0 w5 w6 : Nat} {h : xh} {Q : Nat → xh → Prop} (hs : scOK sc) (hI : INV9 h) (hj : j + 6 ≤ sc.1) (hc : c0 + 2 ≤ 600000) (hz : s0 + 12 ≤ 7300000) (k : ∀ c1 s1 v5 v6 h', c1 ≤ c0 + 2 → s1 ≤ s0 + 12 → INV9 h' → X sc 309 (d + 60) Q c1 s1 1397 [55340232221128654849, x_r 0, x_r 75, x_r 97, iv_c (2147483648 + j), v5, v6] [] h') : X sc 309 (d + 60) Q c0 s0 1308 [55340232221128654849, x_r 0, x_r 75, x_r 97, iv_c (2147483648 + j), w5, w6] [] h := by
  obtain ⟨⟨hJ, hE, w76, w77, hB, hG⟩, hY⟩ := hI
  have h384 := hs.1
  refine x_aload (np := 1309) (x := 1) (by decide +kernel) rfl (x_nc_le (by decide)) ?_
  refine x_aloadS (np := 1310) (x := 0) (by decide +kernel) rfl ?_
  refine x_iload (np := 1312) (x := 4) (by decide +kernel) rfl (by omega) ?_
  refine x_const (np := 1313) (x := 9223372043297226753) (a := 2147483649) (by decide +kernel) (by decide) (by decide) ?_
  refine x_iadd (np := 1314) (x := 0) (v := (2147483648 + (j + 1))) (by decide +kernel) (by omega) (by decide) (by omega) (by omega) ?_
  refine x_scr (j := (j + 1)) hs (np := 1315) (x := 0) (by decide +kernel) rfl (by omega) (by omega) ?_
  refine x_aloadS (np := 1316) (x := 0) (by decide +kernel) rfl ?_
  refine x_iload (np := 1318) (x := 4) (by decide +kernel) rfl (by omega) ?_
  refine x_const (np := 1319) (x := 9223372047592194050) (a := 2147483650) (by decide +kernel) (by decide) (by decide) ?_
  refine x_iadd (np := 1320) (x := 0) (v := (2147483648 + (j + 2))) (by decide +kernel) (by omega) (by decide) (by omega) (by omega) ?_
  refine x_scr (j := (j + 2)) hs (np := 1321) (x := 0) (by decide +kernel) rfl (by omega) (by omega) ?_
  refine x_aload (np := 1322) (x := 3) (by decide +kernel) rfl (x_nc_le (by decide)) ?_
  have b1 : (sv sc (j + 1)) < 4294967296 := sv_lt
  have b2 : (sv sc (j + 2)) < 4294967296 := sv_lt
  refine x_cIc (t := 0) (mj := 308) (n := 4) (rc := 0) (ml := 5) (cc := 2) (ss := 12) (nr := 0) (np := 1325) (as := [x_r 0, iv_c (sv sc (j + 1)), iv_c (sv sc (j + 2)), x_r 97]) (rest := []) (lo1 := [x_r 0, iv_c (sv sc (j + 1)), iv_c (sv sc (j + 2)), x_r 97, 147573952589676412928]) (by decide +kernel) (by decide) (x_cbV (by decide +kernel) (by show _ ≤ 600000; omega) (by show _ ≤ 7300000; omega)) (Or.inl rfl) rfl rfl (x_wr (by decide) (x_wi sv_lt (x_wi sv_lt (x_wr (by decide) x_wn)))) x_wn (by decide) rfl (c308_0_97 hJ (by omega) (by omega)) (fun r5 h3 l6 q4 => ?_)
  obtain ⟨j7, f8, g9⟩ := q4
  have q10 : h3 1 1 = h 1 1 := f8 1 1 (by decide +kernel)
  have q11 : h3 75 6 = h 75 6 := f8 75 6 (by decide +kernel)
  have q12 : h3 0 10 = h 0 10 := f8 0 10 (by decide +kernel)
  have q13 : h3 75 4 = h 75 4 := f8 75 4 (by decide +kernel)
  have m14 := WT.fr w76 hJ f8 (by decide)
  have m15 := WT.fr7 w77 hJ f8 (by decide)
  have m16 : h3 75 4 = 2147483649 → 2147483650 ≤ h3 77 0 := by
    rw [f8 75 4 (by decide +kernel), f8 77 0 (by decide +kernel)]
    exact hB
  have t17 := Ty.fr hY f8 (by decide) (by decide)
  refine x_istore (np := 1327) (x := 5) (lo' := [55340232221128654849, x_r 0, x_r 75, x_r 97, iv_c (2147483648 + j), iv_c r5, w6]) (by decide +kernel) l6 (Nat.le_of_ble_eq_true rfl) rfl ?_
  refine x_aload (np := 1328) (x := 2) (by decide +kernel) rfl (x_nc_le (by decide)) ?_
  refine x_aloadS (np := 1329) (x := 0) (by decide +kernel) rfl ?_
  refine x_iload (np := 1331) (x := 4) (by decide +kernel) rfl (by omega) ?_
  refine x_const (np := 1332) (x := 9223372043297226753) (a := 2147483649) (by decide +kernel) (by decide) (by decide) ?_
  refine x_iadd (np := 1333) (x := 0) (v := (2147483648 + (j + 1))) (by decide +kernel) (by omega) (by decide) (by omega) (by omega) ?_
  refine x_scr (j := (j + 1)) hs (np := 1334) (x := 0) (by decide +kernel) rfl (by omega) (by omega) ?_
  refine x_aloadS (np := 1335) (x := 0) (by decide +kernel) rfl ?_
  refine x_iload (np := 1337) (x := 4) (by decide +kernel) rfl (by omega) ?_
  refine x_const (np := 1338) (x := 9223372047592194050) (a := 2147483650) (by decide +kernel) (by decide) (by decide) ?_
  refine x_iadd (np := 1339) (x := 0) (v := (2147483648 + (j + 2))) (by decide +kernel) (by omega) (by decide) (by omega) (by omega) ?_
  refine x_scr (j := (j + 2)) hs (np := 1340) (x := 0) (by decide +kernel) rfl (by omega) (by omega) ?_
  have b18 : (sv sc (j + 1)) < 4294967296 := sv_lt
  have b19 : (sv sc (j + 2)) < 4294967296 := sv_lt
  refine x_cIc (t := 6) (mj := 241) (n := 3) (rc := 12) (ml := 4) (cc := 0) (ss := 0) (nr := 0) (np := 1343) (as := [x_r 75, iv_c (sv sc (j + 1)), iv_c (sv sc (j + 2))]) (rest := []) (lo1 := [x_r 75, iv_c (sv sc (j + 1)), iv_c (sv sc (j + 2)), 147573952589676412928]) (by decide +kernel) (by decide) (x_cbV (by decide +kernel) (by show _ ≤ 600000; omega) (by show _ ≤ 7300000; omega)) (x_rb_of (by decide +kernel)) rfl rfl (x_wr (by decide) (x_wi sv_lt (x_wi sv_lt x_wn))) x_wn (by decide) rfl (c241_75 j7 (by omega) (by omega) m14) (fun r22 h20 l23 q21 => ?_)
  obtain ⟨j24, f25, g26⟩ := q21
  have q27 : h20 1 1 = h3 1 1 := f25 1 1 (by decide +kernel)
  have q28 : h20 75 6 = h3 75 6 := f25 75 6 (by decide +kernel)
  have q29 : h20 0 10 = h3 0 10 := f25 0 10 (by decide +kernel)
  have q30 : h20 75 4 = h3 75 4 := f25 75 4 (by decide +kernel)
  have m31 := WT.fr m14 j7 f25 (by decide)
  have m32 := WT.fr7 m15 j7 f25 (by decide)
  have m33 : h20 75 4 = 2147483649 → 2147483650 ≤ h20 77 0 := by
    rw [f25 75 4 (by decide +kernel), f25 77 0 (by decide +kernel)]
    exact m16
  have t34 := Ty.fr t17 f25 (by decide) (by decide)
  refine x_istore (np := 1345) (x := 6) (lo' := [55340232221128654849, x_r 0, x_r 75, x_r 97, iv_c (2147483648 + j), iv_c r5, iv_c r22]) (by decide +kernel) l23 (Nat.le_of_ble_eq_true rfl) rfl ?_
  refine x_goto (np := 1348) (x := 1397) (by decide +kernel) ?_
  exact k (c0 + 2) (s0 + 12) (iv_c r5) (iv_c r22) h20 (by omega) (by omega) ⟨⟨j24, by omega, m31, m32, m33, by omega⟩, t34⟩
set_option maxHeartbeats 0 in
theorem lc_34 {sc : Nat × Nat} {d j c0 s0 w5 w6 : Nat} {h : xh} {Q : Nat → xh → Prop} (hs : scOK sc) (hI : INV9 h) (hj : j + 6 ≤ sc.1) (hc : c0 + 2 ≤ 600000) (hz : s0 + 12 ≤ 7300000) (k : ∀ c1 s1 v5 v6 h', c1 ≤ c0 + 2 → s1 ≤ s0 + 12 → INV9 h' → X sc 309 (d + 60) Q c1 s1 1397 [55340232221128654849, x_r 0, x_r 75, x_r 97, iv_c (2147483648 + j), v5, v6] [] h') : X sc 309 (d + 60) Q c0 s0 1348 [55340232221128654849, x_r 0, x_r 75, x_r 97, iv_c (2147483648 + j), w5, w6] [] h := by
  obtain ⟨⟨hJ, hE, w76, w77, hB, hG⟩, hY⟩ := hI
  have h384 := hs.1
  refine x_aload (np := 1349) (x := 1) (by decide +kernel) rfl (x_nc_le (by decide)) ?_
  refine x_cVc (t := 6) (mj := 138) (n := 1) (rc := 11) (ml := 1) (cc := 0) (ss := 0) (nr := 0) (np := 1352) (as := [x_r 0]) (rest := []) (lo1 := [x_r 0]) (by decide +kernel) (by decide) (x_cbV (by decide +kernel) (by show _ ≤ 600000; omega) (by show _ ≤ 7300000; omega)) (x_rb_of (by decide +kernel)) rfl rfl (x_wr (by decide) x_wn) x_wn (by decide) rfl (c138_0n hJ) (fun h1 q2 => ?_)
  obtain ⟨j5, f6, g7⟩ := q2
  have q8 : h1 1 1 = h 1 1 := f6 1 1 (by decide +kernel)
  have q9 : h1 75 6 = h 75 6 := f6 75 6 (by decide +kernel)
  have q10 : h1 75 4 = h 75 4 := f6 75 4 (by decide +kernel)
  have m11 := WT.fr w76 hJ f6 (by decide)
  have m12 := WT.fr7 w77 hJ f6 (by decide)
  have m13 : h1 75 4 = 2147483649 → 2147483650 ≤ h1 77 0 := by
    rw [f6 75 4 (by decide +kernel), f6 77 0 (by decide +kernel)]
    exact hB
  have t14 := Ty.fr hY f6 (by decide) (by decide)
  refine x_aload (np := 1353) (x := 2) (by decide +kernel) rfl (x_nc_le (by decide)) ?_
  refine x_cVc (t := 6) (mj := 155) (n := 1) (rc := 12) (ml := 2) (cc := 0) (ss := 0) (nr := 0) (np := 1356) (as := [x_r 75]) (rest := []) (lo1 := [x_r 75, 147573952589676412928]) (by decide +kernel) (by decide) (x_cbV (by decide +kernel) (by show _ ≤ 600000; omega) (by show _ ≤ 7300000; omega)) (x_rb_of (by decide +kernel)) rfl rfl (x_wr (by decide) x_wn) x_wn (by decide) rfl (c155_75nn j5) (fun h15 q16 => ?_)
  obtain ⟨j19, f20, g21, g22⟩ := q16
  have q23 : h15 1 1 = h1 1 1 := f20 1 1 (by decide +kernel)
  have q24 : h15 75 6 = h1 75 6 := f20 75 6 (by decide +kernel)
  have q25 : h15 0 10 = h1 0 10 := f20 0 10 (by decide +kernel)
  have m26 := WT.fr m11 j5 f20 (by decide)
  have m27 : WT 77 h15 := WT.of m11 j5 (Or.inl rfl) (fun i _ h9 => g22 i h9)
  have m28 : h15 75 4 = 2147483649 → 2147483650 ≤ h15 77 0 := fun _ => by
    rw [g22 0 (by decide)]
    have z := (j5.1 76 0 (by decide) (by decide +kernel)).1
    rw [show j_lo 76 0 = 2147483650 by decide +kernel] at z
    exact z
  have t29 := Ty.fr t14 f20 (by decide) (by decide)
  refine x_goto (np := 1359) (x := 1397) (by decide +kernel) ?_
  exact k c0 s0 w5 w6 h15 (by omega) (by omega) ⟨⟨j19, by omega, m26, m27, m28, by omega⟩, t29⟩
set_option maxHeartbeats 0 in
theorem lc_35 {sc : Nat × Nat} {d j c0 s0 w5 w6 : Nat} {h : xh} {Q : Nat → xh → Prop} (hs : scOK sc) (hI : INV9 h) (hj : j + 6 ≤ sc.1) (hc : c0 + 2 ≤ 600000) (hz : s0 + 12 ≤ 7300000) (k : ∀ c1 s1 v5 v6 h', c1 ≤ c0 + 2 → s1 ≤ s0 + 12 → INV9 h' → X sc 309 (d + 60) Q c1 s1 1397 [55340232221128654849, x_r 0, x_r 75, x_r 97, iv_c (2147483648 + j), v5, v6] [] h') : X sc 309 (d + 60) Q c0 s0 1359 [55340232221128654849, x_r 0, x_r 75, x_r 97, iv_c (2147483648 + j), w5, w6] [] h := by
  obtain ⟨⟨hJ, hE, w76, w77, hB, hG⟩, hY⟩ := hI
  have h384 := hs.1
  refine x_aload (np := 1360) (x := 1) (by decide +kernel) rfl (x_nc_le (by decide)) ?_
  refine x_cIc (t := 6) (mj := 139) (n := 1) (rc := 11) (ml := 1) (cc := 0) (ss := 0) (nr := 0) (np := 1363) (as := [x_r 0]) (rest := []) (lo1 := [x_r 0]) (by decide +kernel) (by decide) (x_cbV (by decide +kernel) (by show _ ≤ 600000; omega) (by show _ ≤ 7300000; omega)) (x_rb_of (by decide +kernel)) rfl rfl (x_wr (by decide) x_wn) x_wn (by decide) rfl (c139_0n hJ) (fun r3 h1 l4 q2 => ?_)
  obtain ⟨j5, f6, g7, g8⟩ := q2
  have q9 : h1 1 1 = h 1 1 := f6 1 1 (by decide +kernel)
  have q10 : h1 75 6 = h 75 6 := f6 75 6 (by decide +kernel)
  have q11 : h1 0 10 = h 0 10 := f6 0 10 (by decide +kernel)
  have q12 : h1 75 4 = h 75 4 := f6 75 4 (by decide +kernel)
  have m13 := WT.fr w76 hJ f6 (by decide)
  have m14 := WT.fr7 w77 hJ f6 (by decide)
  have m15 : h1 75 4 = 2147483649 → 2147483650 ≤ h1 77 0 := by
    rw [f6 75 4 (by decide +kernel), f6 77 0 (by decide +kernel)]
    exact hB
  have t16 := Ty.fr hY f6 (by decide) (by decide)
  refine x_pop (by decide +kernel) l4 ?_
  refine x_aload (np := 1365) (x := 2) (by decide +kernel) rfl (x_nc_le (by decide)) ?_
  refine x_cIc (t := 6) (mj := 156) (n := 1) (rc := 12) (ml := 2) (cc := 0) (ss := 0) (nr := 0) (np := 1368) (as := [x_r 75]) (rest := []) (lo1 := [x_r 75, 147573952589676412928]) (by decide +kernel) (by decide) (x_cbV (by decide +kernel) (by show _ ≤ 600000; omega) (by show _ ≤ 7300000; omega)) (x_rb_of (by decide +kernel)) rfl rfl (x_wr (by decide) x_wn) x_wn (by decide) rfl (c156_75 j5 m15) (fun r19 h17 l20 q18 => ?_)
  obtain ⟨j21, f22, g23, g24, g25, g26⟩ := q18
  have q27 : h17 1 1 = h1 1 1 := f22 1 1 (by decide +kernel)
  have q28 : h17 75 6 = h1 75 6 := f22 75 6 (by decide +kernel)
  have q29 : h17 0 10 = h1 0 10 := f22 0 10 (by decide +kernel)
  have q30 : h17 75 4 = h1 75 4 := f22 75 4 (by decide +kernel)
  have m31 : WT 76 h17 := by
    rcases (show r19 = 2147483649 ∨ r19 = 2147483648 by omega) with z | z
    · exact WT.of m14 j5 (Or.inr rfl) (fun i _ h9 => g25 z i h9)
    · exact WT.of m13 j5 (Or.inl rfl) (fun i _ _ => g26 z i)
  have m32 := WT.fr7 m14 j5 f22 (by decide)
  have m33 : h17 75 4 = 2147483649 → 2147483650 ≤ h17 77 0 := by
    rw [f22 75 4 (by decide +kernel), f22 77 0 (by decide +kernel)]
    exact m15
  have t34 := Ty.fr t16 f22 (by decide) (by decide)
  refine x_pop (by decide +kernel) l20 ?_
  refine x_goto (np := 1372) (x := 1397) (by decide +kernel) ?_
  exact k c0 s0 w5 w6 h17 (by omega) (by omega) ⟨⟨j21, by omega, m31, m32, m33, by omega⟩, t34⟩
set_option maxHeartbeats 0 in
theorem lc_36 {sc : Nat × Nat} {d j c0 s0 w5 w6 : Nat} {h : xh} {Q : Nat → xh → Prop} (hs : scOK sc) (hI : INV9 h) (hj : j + 6 ≤ sc.1) (hc : c0 + 2 ≤ 600000) (hz : s0 + 12 ≤ 7300000) (k : ∀ c1 s1 v5 v6 h', c1 ≤ c0 + 2 → s1 ≤ s0 + 12 → INV9 h' → X sc 309 (d + 60) Q c1 s1 1397 [55340232221128654849, x_r 0, x_r 75, x_r 97, iv_c (2147483648 + j), v5, v6] [] h') : X sc 309 (d + 60) Q c0 s0 1372 [55340232221128654849, x_r 0, x_r 75, x_r 97, iv_c (2147483648 + j), w5, w6] [] h := by
  obtain ⟨⟨hJ, hE, w76, w77, hB, hG⟩, hY⟩ := hI
  have h384 := hs.1
  refine x_aload (np := 1373) (x := 1) (by decide +kernel) rfl (x_nc_le (by decide)) ?_
  refine x_aloadS (np := 1374) (x := 0) (by decide +kernel) rfl ?_
  refine x_iload (np := 1376) (x := 4) (by decide +kernel) rfl (by omega) ?_
  refine x_const (np := 1377) (x := 9223372043297226753) (a := 2147483649) (by decide +kernel) (by decide) (by decide) ?_
  refine x_iadd (np := 1378) (x := 0) (v := (2147483648 + (j + 1))) (by decide +kernel) (by omega) (by decide) (by omega) (by omega) ?_
  refine x_scr (j := (j + 1)) hs (np := 1379) (x := 0) (by decide +kernel) rfl (by omega) (by omega) ?_
  have b1 : (sv sc (j + 1)) < 4294967296 := sv_lt
  refine x_cIc (t := 6) (mj := 140) (n := 2) (rc := 11) (ml := 2) (cc := 0) (ss := 0) (nr := 0) (np := 1382) (as := [x_r 0, iv_c (sv sc (j + 1))]) (rest := []) (lo1 := [x_r 0, iv_c (sv sc (j + 1))]) (by decide +kernel) (by decide) (x_cbV (by decide +kernel) (by show _ ≤ 600000; omega) (by show _ ≤ 7300000; omega)) (x_rb_of (by decide +kernel)) rfl rfl (x_wr (by decide) (x_wi sv_lt x_wn)) x_wn (by decide) rfl (c140_0 hJ (by omega)) (fun r4 h2 l5 q3 => ?_)
  obtain ⟨q6, b7⟩ := q3
  rw [q6]
  refine x_pop (by decide +kernel) l5 ?_
  refine x_aload (np := 1384) (x := 2) (by decide +kernel) rfl (x_nc_le (by decide)) ?_
  refine x_aloadS (np := 1385) (x := 0) (by decide +kernel) rfl ?_
  refine x_iload (np := 1387) (x := 4) (by decide +kernel) rfl (by omega) ?_
  refine x_const (np := 1388) (x := 9223372043297226753) (a := 2147483649) (by decide +kernel) (by decide) (by decide) ?_
  refine x_iadd (np := 1389) (x := 0) (v := (2147483648 + (j + 1))) (by decide +kernel) (by omega) (by decide) (by omega) (by omega) ?_
  refine x_scr (j := (j + 1)) hs (np := 1390) (x := 0) (by decide +kernel) rfl (by omega) (by omega) ?_
  have b8 : (sv sc (j + 1)) < 4294967296 := sv_lt
  refine x_cIc (t := 6) (mj := 268) (n := 2) (rc := 12) (ml := 4) (cc := 0) (ss := 0) (nr := 0) (np := 1393) (as := [x_r 75, iv_c (sv sc (j + 1))]) (rest := []) (lo1 := [x_r 75, iv_c (sv sc (j + 1)), 147573952589676412928, 147573952589676412928]) (by decide +kernel) (by decide) (x_cbV (by decide +kernel) (by show _ ≤ 600000; omega) (by show _ ≤ 7300000; omega)) (x_rb_of (by decide +kernel)) rfl rfl (x_wr (by decide) (x_wi sv_lt x_wn)) x_wn (by decide) rfl (c268_75 hJ (by omega) w76) (fun r11 h9 l12 q10 => ?_)
  obtain ⟨j13, f14, g15⟩ := q10
  have q16 : h9 1 1 = h 1 1 := f14 1 1 (by decide +kernel)
  have q17 : h9 75 6 = h 75 6 := f14 75 6 (by decide +kernel)
  have q18 : h9 0 10 = h 0 10 := f14 0 10 (by decide +kernel)
  have q19 : h9 75 4 = h 75 4 := f14 75 4 (by decide +kernel)
  have m20 := WT.fr w76 hJ f14 (by decide)
  have m21 := WT.fr7 w77 hJ f14 (by decide)
  have m22 : h9 75 4 = 2147483649 → 2147483650 ≤ h9 77 0 := by
    rw [f14 75 4 (by decide +kernel), f14 77 0 (by decide +kernel)]
    exact hB
  have t23 := Ty.fr hY f14 (by decide) (by decide)
  refine x_pop (by decide +kernel) l12 ?_
  refine x_goto (np := 1397) (x := 1397) (by decide +kernel) ?_
  exact k c0 s0 w5 w6 h9 (by omega) (by omega) ⟨⟨j13, by omega, m20, m21, m22, by omega⟩, t23⟩
