/-! ===== the law: its cases ===== -/
set_option maxHeartbeats 0 in
theorem lc_0 {sc : Nat × Nat} {d j c0 s0 w5 w6 : Nat} {h : xh} {Q : Nat → xh → Prop} (hs : scOK sc) (hI : INV9b h) (hj : j + 6 ≤ sc.1) (hc : c0 + 2 ≤ 600000) (hz : s0 + 12 ≤ 7300000) (k : ∀ c1 s1 v5 v6 h', c1 ≤ c0 + 2 → s1 ≤ s0 + 12 → INV9b h' → X sc 309 (d + 60) Q c1 s1 1404 [55340232221128654849, x_r 0, x_r 75, x_r 97, iv_c (2147483648 + j), v5, v6] [] h') : X sc 309 (d + 60) Q c0 s0 204 [55340232221128654849, x_r 0, x_r 75, x_r 97, iv_c (2147483648 + j), w5, w6] [] h := by
  obtain ⟨⟨hJ, hE, w76, w77, hB, hG⟩, hY, hS, hD, hG9⟩ := hI
  have h384 := hs.1
  have hS1 : tv h 1 = h 76 1 := by
    have z := hS.2.1 1 (by decide)
    rw [wx_0 (by decide)] at z
    exact z
  have hS3 := hS.2.2.1
  refine x_aload (np := 205) (x := 1) (by decide +kernel) rfl (x_nc_le (by decide)) ?_
  refine x_aloadS (np := 206) (x := 0) (by decide +kernel) rfl ?_
  refine x_iload (np := 208) (x := 4) (by decide +kernel) rfl (by omega) ?_
  refine x_const (np := 209) (x := 9223372043297226753) (a := 2147483649) (by decide +kernel) (by decide) (by decide) ?_
  refine x_iadd (np := 210) (x := 0) (v := (2147483648 + (j + 1))) (by decide +kernel) (by omega) (by decide) (by omega) (by omega) ?_
  refine x_scr (j := (j + 1)) hs (np := 211) (x := 0) (by decide +kernel) rfl (by omega) (by omega) ?_
  refine x_aloadS (np := 212) (x := 0) (by decide +kernel) rfl ?_
  refine x_iload (np := 214) (x := 4) (by decide +kernel) rfl (by omega) ?_
  refine x_const (np := 215) (x := 9223372047592194050) (a := 2147483650) (by decide +kernel) (by decide) (by decide) ?_
  refine x_iadd (np := 216) (x := 0) (v := (2147483648 + (j + 2))) (by decide +kernel) (by omega) (by decide) (by omega) (by omega) ?_
  refine x_scr (j := (j + 2)) hs (np := 217) (x := 0) (by decide +kernel) rfl (by omega) (by omega) ?_
  refine x_aloadS (np := 218) (x := 0) (by decide +kernel) rfl ?_
  refine x_iload (np := 220) (x := 4) (by decide +kernel) rfl (by omega) ?_
  refine x_const (np := 221) (x := 9223372051887161347) (a := 2147483651) (by decide +kernel) (by decide) (by decide) ?_
  refine x_iadd (np := 222) (x := 0) (v := (2147483648 + (j + 3))) (by decide +kernel) (by omega) (by decide) (by omega) (by omega) ?_
  refine x_scr (j := (j + 3)) hs (np := 223) (x := 0) (by decide +kernel) rfl (by omega) (by omega) ?_
  refine x_aloadS (np := 224) (x := 0) (by decide +kernel) rfl ?_
  refine x_iload (np := 226) (x := 4) (by decide +kernel) rfl (by omega) ?_
  refine x_const (np := 227) (x := 9223372056182128644) (a := 2147483652) (by decide +kernel) (by decide) (by decide) ?_
  refine x_iadd (np := 228) (x := 0) (v := (2147483648 + (j + 4))) (by decide +kernel) (by omega) (by decide) (by omega) (by omega) ?_
  refine x_scr (j := (j + 4)) hs (np := 229) (x := 0) (by decide +kernel) rfl (by omega) (by omega) ?_
  refine x_aloadS (np := 230) (x := 0) (by decide +kernel) rfl ?_
  refine x_iload (np := 232) (x := 4) (by decide +kernel) rfl (by omega) ?_
  refine x_const (np := 233) (x := 9223372060477095941) (a := 2147483653) (by decide +kernel) (by decide) (by decide) ?_
  refine x_iadd (np := 234) (x := 0) (v := (2147483648 + (j + 5))) (by decide +kernel) (by omega) (by decide) (by omega) (by omega) ?_
  refine x_scr (j := (j + 5)) hs (np := 235) (x := 0) (by decide +kernel) rfl (by omega) (by omega) ?_
  have b1 : (sv sc (j + 1)) < 4294967296 := sv_lt
  have b2 : (sv sc (j + 2)) < 4294967296 := sv_lt
  have b3 : (sv sc (j + 3)) < 4294967296 := sv_lt
  have b4 : (sv sc (j + 4)) < 4294967296 := sv_lt
  have b5 : (sv sc (j + 5)) < 4294967296 := sv_lt
  refine x_cIc (t := 6) (mj := 104) (n := 6) (rc := 11) (ml := 6) (cc := 0) (ss := 0) (nr := 0) (np := 238) (as := [x_r 0, iv_c (sv sc (j + 1)), iv_c (sv sc (j + 2)), iv_c (sv sc (j + 3)), iv_c (sv sc (j + 4)), iv_c (sv sc (j + 5))]) (rest := []) (lo1 := [x_r 0, iv_c (sv sc (j + 1)), iv_c (sv sc (j + 2)), iv_c (sv sc (j + 3)), iv_c (sv sc (j + 4)), iv_c (sv sc (j + 5))]) (by decide +kernel) (by decide) (x_cbV (by decide +kernel) (by show _ ≤ 600000; omega) (by show _ ≤ 7300000; omega)) (x_rb_of (by decide +kernel)) rfl rfl (x_wr (by decide) (x_wi sv_lt (x_wi sv_lt (x_wi sv_lt (x_wi sv_lt (x_wi sv_lt x_wn)))))) x_wn (by decide) rfl (c104_0 hJ (by omega) (by omega) (by omega) (by omega) (by omega)) (fun r8 h6 l9 q7 => ?_)
  obtain ⟨j10, f11, g12, g13, g14, g15, g16⟩ := q7
  have q17 : h6 75 6 = h 75 6 := f11 75 6 (by decide +kernel)
  have q18 : h6 76 1 = h 76 1 := f11 76 1 (by decide +kernel)
  have q19 : h6 0 10 = h 0 10 := f11 0 10 (by decide +kernel)
  have q20 : h6 75 4 = h 75 4 := f11 75 4 (by decide +kernel)
  have m21 := WT.fr w76 hJ f11 (by decide)
  have m22 := WT.fr7 w77 hJ f11 (by decide)
  have m23 : h6 75 4 = 2147483649 → 2147483650 ≤ h6 77 0 := by
    rw [f11 75 4 (by decide +kernel), f11 77 0 (by decide +kernel)]
    exact hB
  have e25 := Se.fr hG9 f11 hJ (by decide) (by decide) (by decide) (by decide) (by decide) (by decide)
  have d26 := Sd.fr hD f11 hJ (by decide) (by decide) (by decide) (by decide) (by decide) (by decide) (by decide)
  have s27 := St.fr hS f11 hJ (by decide) (by decide) (by decide) (by decide) (by decide) (by decide)
  refine x_pop (by decide +kernel) l9 ?_
  refine x_aload (np := 240) (x := 2) (by decide +kernel) rfl (x_nc_le (by decide)) ?_
  refine x_aloadS (np := 241) (x := 0) (by decide +kernel) rfl ?_
  refine x_iload (np := 243) (x := 4) (by decide +kernel) rfl (by omega) ?_
  refine x_const (np := 244) (x := 9223372043297226753) (a := 2147483649) (by decide +kernel) (by decide) (by decide) ?_
  refine x_iadd (np := 245) (x := 0) (v := (2147483648 + (j + 1))) (by decide +kernel) (by omega) (by decide) (by omega) (by omega) ?_
  refine x_scr (j := (j + 1)) hs (np := 246) (x := 0) (by decide +kernel) rfl (by omega) (by omega) ?_
  refine x_aloadS (np := 247) (x := 0) (by decide +kernel) rfl ?_
  refine x_iload (np := 249) (x := 4) (by decide +kernel) rfl (by omega) ?_
  refine x_const (np := 250) (x := 9223372047592194050) (a := 2147483650) (by decide +kernel) (by decide) (by decide) ?_
  refine x_iadd (np := 251) (x := 0) (v := (2147483648 + (j + 2))) (by decide +kernel) (by omega) (by decide) (by omega) (by omega) ?_
  refine x_scr (j := (j + 2)) hs (np := 252) (x := 0) (by decide +kernel) rfl (by omega) (by omega) ?_
  refine x_aloadS (np := 253) (x := 0) (by decide +kernel) rfl ?_
  refine x_iload (np := 255) (x := 4) (by decide +kernel) rfl (by omega) ?_
  refine x_const (np := 256) (x := 9223372051887161347) (a := 2147483651) (by decide +kernel) (by decide) (by decide) ?_
  refine x_iadd (np := 257) (x := 0) (v := (2147483648 + (j + 3))) (by decide +kernel) (by omega) (by decide) (by omega) (by omega) ?_
  refine x_scr (j := (j + 3)) hs (np := 258) (x := 0) (by decide +kernel) rfl (by omega) (by omega) ?_
  refine x_aloadS (np := 259) (x := 0) (by decide +kernel) rfl ?_
  refine x_iload (np := 261) (x := 4) (by decide +kernel) rfl (by omega) ?_
  refine x_const (np := 262) (x := 9223372056182128644) (a := 2147483652) (by decide +kernel) (by decide) (by decide) ?_
  refine x_iadd (np := 263) (x := 0) (v := (2147483648 + (j + 4))) (by decide +kernel) (by omega) (by decide) (by omega) (by omega) ?_
  refine x_scr (j := (j + 4)) hs (np := 264) (x := 0) (by decide +kernel) rfl (by omega) (by omega) ?_
  refine x_aloadS (np := 265) (x := 0) (by decide +kernel) rfl ?_
  refine x_iload (np := 267) (x := 4) (by decide +kernel) rfl (by omega) ?_
  refine x_const (np := 268) (x := 9223372060477095941) (a := 2147483653) (by decide +kernel) (by decide) (by decide) ?_
  refine x_iadd (np := 269) (x := 0) (v := (2147483648 + (j + 5))) (by decide +kernel) (by omega) (by decide) (by omega) (by omega) ?_
  refine x_scr (j := (j + 5)) hs (np := 270) (x := 0) (by decide +kernel) rfl (by omega) (by omega) ?_
  have b28 : (sv sc (j + 1)) < 4294967296 := sv_lt
  have b29 : (sv sc (j + 2)) < 4294967296 := sv_lt
  have b30 : (sv sc (j + 3)) < 4294967296 := sv_lt
  have b31 : (sv sc (j + 4)) < 4294967296 := sv_lt
  have b32 : (sv sc (j + 5)) < 4294967296 := sv_lt
  refine x_cIc (t := 6) (mj := 165) (n := 6) (rc := 12) (ml := 7) (cc := 0) (ss := 0) (nr := 0) (np := 273) (as := [x_r 75, iv_c (sv sc (j + 1)), iv_c (sv sc (j + 2)), iv_c (sv sc (j + 3)), iv_c (sv sc (j + 4)), iv_c (sv sc (j + 5))]) (rest := []) (lo1 := [x_r 75, iv_c (sv sc (j + 1)), iv_c (sv sc (j + 2)), iv_c (sv sc (j + 3)), iv_c (sv sc (j + 4)), iv_c (sv sc (j + 5)), 147573952589676412928]) (by decide +kernel) (by decide) (x_cbV (by decide +kernel) (by show _ ≤ 600000; omega) (by show _ ≤ 7300000; omega)) (x_rb_of (by decide +kernel)) rfl rfl (x_wr (by decide) (x_wi sv_lt (x_wi sv_lt (x_wi sv_lt (x_wi sv_lt (x_wi sv_lt x_wn)))))) x_wn (by decide) rfl (c165_75 j10 (by omega) (by omega) (by omega) (by omega) (by omega)) (fun r35 h33 l36 q34 => ?_)
  obtain ⟨j37, f38, g39, g40, g41, g42, g43⟩ := q34
  have q44 : h33 1 1 = h6 1 1 := f38 1 1 (by decide +kernel)
  have q45 : h33 76 1 = h6 76 1 := f38 76 1 (by decide +kernel)
  have q46 : h33 0 10 = h6 0 10 := f38 0 10 (by decide +kernel)
  have q47 : h33 75 4 = h6 75 4 := f38 75 4 (by decide +kernel)
  have m48 := WT.fr m21 j10 f38 (by decide)
  have m49 := WT.fr7 m22 j10 f38 (by decide)
  have m50 : h33 75 4 = 2147483649 → 2147483650 ≤ h33 77 0 := by
    rw [f38 75 4 (by decide +kernel), f38 77 0 (by decide +kernel)]
    exact m23
  have e52 := Se.fr e25 f38 j10 (by decide) (by decide) (by decide) (by decide) (by decide) (by decide)
  have d53 := Sd.fr d26 f38 j10 (by decide) (by decide) (by decide) (by decide) (by decide) (by decide) (by decide)
  have s54 := St.fr s27 f38 j10 (by decide) (by decide) (by decide) (by decide) (by decide) (by decide)
  have t51 : Ty h33 := by
    rcases Nat.lt_or_ge 2147484048 (h 1 1 + 20) with z | z
    · exact Ty.same hY (g16 z) f11 (by decide) (g43 (by omega)) f38 (by decide)
    · exact Ty.feed (h3 := h33) hY (g15 z) f11 (by decide) (Ap.cast (g42 (by omega)) (by rw [show h6 75 6 = h 1 1 by omega])) f38 (by decide)
  refine x_pop (by decide +kernel) l36 ?_
  refine x_goto (np := 277) (x := 1404) (by decide +kernel) ?_
  exact k c0 s0 w5 w6 h33 (by omega) (by omega) ⟨⟨j37, by omega, m48, m49, m50, by omega⟩, t51, s54, d53, e52⟩
set_option maxHeartbeats 0 in
theorem lc_1 {sc : Nat × Nat} {d j c0 s0 w5 w6 : Nat} {h : xh} {Q : Nat → xh → Prop} (hs : scOK sc) (hI : INV9b h) (hj : j + 6 ≤ sc.1) (hc : c0 + 2 ≤ 600000) (hz : s0 + 12 ≤ 7300000) (k : ∀ c1 s1 v5 v6 h', c1 ≤ c0 + 2 → s1 ≤ s0 + 12 → INV9b h' → X sc 309 (d + 60) Q c1 s1 1404 [55340232221128654849, x_r 0, x_r 75, x_r 97, iv_c (2147483648 + j), v5, v6] [] h') : X sc 309 (d + 60) Q c0 s0 277 [55340232221128654849, x_r 0, x_r 75, x_r 97, iv_c (2147483648 + j), w5, w6] [] h := by
  obtain ⟨⟨hJ, hE, w76, w77, hB, hG⟩, hY, hS, hD, hG9⟩ := hI
  have h384 := hs.1
  have hS1 : tv h 1 = h 76 1 := by
    have z := hS.2.1 1 (by decide)
    rw [wx_0 (by decide)] at z
    exact z
  have hS3 := hS.2.2.1
  refine x_aload (np := 278) (x := 1) (by decide +kernel) rfl (x_nc_le (by decide)) ?_
  refine x_aloadS (np := 279) (x := 0) (by decide +kernel) rfl ?_
  refine x_iload (np := 281) (x := 4) (by decide +kernel) rfl (by omega) ?_
  refine x_const (np := 282) (x := 9223372043297226753) (a := 2147483649) (by decide +kernel) (by decide) (by decide) ?_
  refine x_iadd (np := 283) (x := 0) (v := (2147483648 + (j + 1))) (by decide +kernel) (by omega) (by decide) (by omega) (by omega) ?_
  refine x_scr (j := (j + 1)) hs (np := 284) (x := 0) (by decide +kernel) rfl (by omega) (by omega) ?_
  have b1 : (sv sc (j + 1)) < 4294967296 := sv_lt
  refine x_cIc (t := 6) (mj := 105) (n := 2) (rc := 11) (ml := 2) (cc := 0) (ss := 0) (nr := 0) (np := 287) (as := [x_r 0, iv_c (sv sc (j + 1))]) (rest := []) (lo1 := [x_r 0, iv_c (sv sc (j + 1))]) (by decide +kernel) (by decide) (x_cbV (by decide +kernel) (by show _ ≤ 600000; omega) (by show _ ≤ 7300000; omega)) (x_rb_of (by decide +kernel)) rfl rfl (x_wr (by decide) (x_wi sv_lt x_wn)) x_wn (by decide) rfl (c105_0 hJ (by omega)) (fun r4 h2 l5 q3 => ?_)
  obtain ⟨j6, f7, g8, g9, g10⟩ := q3
  have q11 : h2 75 6 = h 75 6 := f7 75 6 (by decide +kernel)
  have q12 : h2 76 1 = h 76 1 := f7 76 1 (by decide +kernel)
  have q13 : h2 0 10 = h 0 10 := f7 0 10 (by decide +kernel)
  have q14 : h2 75 4 = h 75 4 := f7 75 4 (by decide +kernel)
  have m15 := WT.fr w76 hJ f7 (by decide)
  have m16 := WT.fr7 w77 hJ f7 (by decide)
  have m17 : h2 75 4 = 2147483649 → 2147483650 ≤ h2 77 0 := by
    rw [f7 75 4 (by decide +kernel), f7 77 0 (by decide +kernel)]
    exact hB
  have e19 := Se.fr hG9 f7 hJ (by decide) (by decide) (by decide) (by decide) (by decide) (by decide)
  have d20 := Sd.fr hD f7 hJ (by decide) (by decide) (by decide) (by decide) (by decide) (by decide) (by decide)
  have s21 := St.fr hS f7 hJ (by decide) (by decide) (by decide) (by decide) (by decide) (by decide)
  have t18 := Ty.fr hY f7 (by decide) (by decide)
  refine x_pop (by decide +kernel) l5 ?_
  refine x_aload (np := 289) (x := 2) (by decide +kernel) rfl (x_nc_le (by decide)) ?_
  refine x_aloadS (np := 290) (x := 0) (by decide +kernel) rfl ?_
  refine x_iload (np := 292) (x := 4) (by decide +kernel) rfl (by omega) ?_
  refine x_const (np := 293) (x := 9223372043297226753) (a := 2147483649) (by decide +kernel) (by decide) (by decide) ?_
  refine x_iadd (np := 294) (x := 0) (v := (2147483648 + (j + 1))) (by decide +kernel) (by omega) (by decide) (by omega) (by omega) ?_
  refine x_scr (j := (j + 1)) hs (np := 295) (x := 0) (by decide +kernel) rfl (by omega) (by omega) ?_
  have b22 : (sv sc (j + 1)) < 4294967296 := sv_lt
  refine x_cIc (t := 6) (mj := 166) (n := 2) (rc := 12) (ml := 2) (cc := 0) (ss := 0) (nr := 0) (np := 298) (as := [x_r 75, iv_c (sv sc (j + 1))]) (rest := []) (lo1 := [x_r 75, iv_c (sv sc (j + 1))]) (by decide +kernel) (by decide) (x_cbV (by decide +kernel) (by show _ ≤ 600000; omega) (by show _ ≤ 7300000; omega)) (x_rb_of (by decide +kernel)) rfl rfl (x_wr (by decide) (x_wi sv_lt x_wn)) x_wn (by decide) rfl (c166_75 j6 (by omega)) (fun r25 h23 l26 q24 => ?_)
  obtain ⟨j27, f28, g29, g30, g31⟩ := q24
  have q32 : h23 1 1 = h2 1 1 := f28 1 1 (by decide +kernel)
  have q33 : h23 76 1 = h2 76 1 := f28 76 1 (by decide +kernel)
  have q34 : h23 0 10 = h2 0 10 := f28 0 10 (by decide +kernel)
  have q35 : h23 75 4 = h2 75 4 := f28 75 4 (by decide +kernel)
  have m36 := WT.fr m15 j6 f28 (by decide)
  have m37 := WT.fr7 m16 j6 f28 (by decide)
  have m38 : h23 75 4 = 2147483649 → 2147483650 ≤ h23 77 0 := by
    rw [f28 75 4 (by decide +kernel), f28 77 0 (by decide +kernel)]
    exact m17
  have e40 := Se.fr e19 f28 j6 (by decide) (by decide) (by decide) (by decide) (by decide) (by decide)
  have d41 := Sd.fr d20 f28 j6 (by decide) (by decide) (by decide) (by decide) (by decide) (by decide) (by decide)
  have s42 := St.fr s21 f28 j6 (by decide) (by decide) (by decide) (by decide) (by decide) (by decide)
  have t39 := Ty.fr t18 f28 (by decide) (by decide)
  refine x_pop (by decide +kernel) l26 ?_
  refine x_goto (np := 302) (x := 1404) (by decide +kernel) ?_
  exact k c0 s0 w5 w6 h23 (by omega) (by omega) ⟨⟨j27, by omega, m36, m37, m38, by omega⟩, t39, s42, d41, e40⟩
set_option maxHeartbeats 0 in
theorem lc_2 {sc : Nat × Nat} {d j c0 s0 w5 w6 : Nat} {h : xh} {Q : Nat → xh → Prop} (hs : scOK sc) (hI : INV9b h) (hj : j + 6 ≤ sc.1) (hc : c0 + 2 ≤ 600000) (hz : s0 + 12 ≤ 7300000) (k : ∀ c1 s1 v5 v6 h', c1 ≤ c0 + 2 → s1 ≤ s0 + 12 → INV9b h' → X sc 309 (d + 60) Q c1 s1 1404 [55340232221128654849, x_r 0, x_r 75, x_r 97, iv_c (2147483648 + j), v5, v6] [] h') : X sc 309 (d + 60) Q c0 s0 302 [55340232221128654849, x_r 0, x_r 75, x_r 97, iv_c (2147483648 + j), w5, w6] [] h := by
  obtain ⟨⟨hJ, hE, w76, w77, hB, hG⟩, hY, hS, hD, hG9⟩ := hI
  have h384 := hs.1
  have hS1 : tv h 1 = h 76 1 := by
    have z := hS.2.1 1 (by decide)
    rw [wx_0 (by decide)] at z
    exact z
  have hS3 := hS.2.2.1
  refine x_aload (np := 303) (x := 1) (by decide +kernel) rfl (x_nc_le (by decide)) ?_
  refine x_aload (np := 304) (x := 3) (by decide +kernel) rfl (x_nc_le (by decide)) ?_
  refine x_cIc (t := 0) (mj := 282) (n := 2) (rc := 0) (ml := 3) (cc := 1) (ss := 6) (nr := 0) (np := 307) (as := [x_r 0, x_r 97]) (rest := []) (lo1 := [x_r 0, x_r 97, 147573952589676412928]) (by decide +kernel) (by decide) (x_cbV (by decide +kernel) (by show _ ≤ 600000; omega) (by show _ ≤ 7300000; omega)) (Or.inl rfl) rfl rfl (x_wr (by decide) (x_wr (by decide) x_wn)) x_wn (by decide) rfl (c282_0_97 hJ (Ty.tp (h := h)) hS.1) (fun r3 h1 l4 q2 => ?_)
  obtain ⟨j5, f6, g7, g8, g9⟩ := q2
  have q10 : h1 75 6 = h 75 6 := f6 75 6 (by decide +kernel)
  have q11 : h1 76 1 = h 76 1 := f6 76 1 (by decide +kernel)
  have q12 : h1 0 10 = h 0 10 := f6 0 10 (by decide +kernel)
  have q13 : h1 75 4 = h 75 4 := f6 75 4 (by decide +kernel)
  have m14 := WT.fr w76 hJ f6 (by decide)
  have m15 := WT.fr7 w77 hJ f6 (by decide)
  have m16 : h1 75 4 = 2147483649 → 2147483650 ≤ h1 77 0 := by
    rw [f6 75 4 (by decide +kernel), f6 77 0 (by decide +kernel)]
    exact hB
  have t17 := Ty.fr hY f6 (by decide) (by decide)
  refine x_istore (np := 309) (x := 5) (lo' := [55340232221128654849, x_r 0, x_r 75, x_r 97, iv_c (2147483648 + j), iv_c r3, w6]) (by decide +kernel) l4 (Nat.le_of_ble_eq_true rfl) rfl ?_
  refine x_aload (np := 310) (x := 2) (by decide +kernel) rfl (x_nc_le (by decide)) ?_
  refine x_cIc (t := 6) (mj := 195) (n := 1) (rc := 12) (ml := 3) (cc := 0) (ss := 0) (nr := 0) (np := 313) (as := [x_r 75]) (rest := []) (lo1 := [x_r 75, 147573952589676412928, 147573952589676412928]) (by decide +kernel) (by decide) (x_cbV (by decide +kernel) (by show _ ≤ 600000; omega) (by show _ ≤ 7300000; omega)) (x_rb_of (by decide +kernel)) rfl rfl (x_wr (by decide) x_wn) x_wn (by decide) rfl (c195_75 j5 (by omega) m14 (Ty.tr (n := h 1 1) hY f6 (by decide) (by omega))) (fun r23 h21 l24 q22 => ?_)
  obtain ⟨j25, f26, g27, g28, g29, g30⟩ := q22
  have q31 : h21 1 1 = h1 1 1 := f26 1 1 (by decide +kernel)
  have q32 : h21 0 10 = h1 0 10 := f26 0 10 (by decide +kernel)
  have q33 : h21 75 4 = h1 75 4 := f26 75 4 (by decide +kernel)
  have m35 := WT.fr7 m15 j5 f26 (by decide)
  have m36 : h21 75 4 = 2147483649 → 2147483650 ≤ h21 77 0 := by
    rw [f26 75 4 (by decide +kernel), f26 77 0 (by decide +kernel)]
    exact m16
  have e38 := Se.tell hG9 hS g9 g30 j5 f6 (by decide) (by decide) (by decide) (by decide) f26 (by decide) (by decide) (by decide) (by decide) (by decide)
  have d39 := Sd.tell hD hS g9 g30 j5 f6 (by decide) (by decide) (by decide) (by decide) f26 (by decide) (by decide) (by decide) (by decide) (by decide) (by decide)
  have q41 : h21 97 0 = h1 97 0 := f26 97 0 (by decide +kernel)
  obtain ⟨⟨al1, al2⟩, s40⟩ := St.tell hS g9 g30 j5 f6 (by decide) (by decide) (by decide) (by decide) f26 (by decide) (by decide) (by decide) (by decide) (by decide) q41
  have t37 := Ty.fr t17 f26 (by decide) (by decide)
  refine x_istore (np := 315) (x := 6) (lo' := [55340232221128654849, x_r 0, x_r 75, x_r 97, iv_c (2147483648 + j), iv_c r3, iv_c r23]) (by decide +kernel) l24 (Nat.le_of_ble_eq_true rfl) rfl ?_
  refine x_goto (np := 318) (x := 1404) (by decide +kernel) ?_
  exact k (c0 + 1) (s0 + 6) (iv_c r3) (iv_c r23) h21 (by omega) (by omega) ⟨⟨j25, by omega, g29, m35, m36, by omega⟩, t37, s40, d39, e38⟩
set_option maxHeartbeats 0 in
theorem lc_3 {sc : Nat × Nat} {d j c0 s0 w5 w6 : Nat} {h : xh} {Q : Nat → xh → Prop} (hs : scOK sc) (hI : INV9b h) (hj : j + 6 ≤ sc.1) (hc : c0 + 2 ≤ 600000) (hz : s0 + 12 ≤ 7300000) (k : ∀ c1 s1 v5 v6 h', c1 ≤ c0 + 2 → s1 ≤ s0 + 12 → INV9b h' → X sc 309 (d + 60) Q c1 s1 1404 [55340232221128654849, x_r 0, x_r 75, x_r 97, iv_c (2147483648 + j), v5, v6] [] h') : X sc 309 (d + 60) Q c0 s0 318 [55340232221128654849, x_r 0, x_r 75, x_r 97, iv_c (2147483648 + j), w5, w6] [] h := by
  obtain ⟨⟨hJ, hE, w76, w77, hB, hG⟩, hY, hS, hD, hG9⟩ := hI
  have h384 := hs.1
  have hS1 : tv h 1 = h 76 1 := by
    have z := hS.2.1 1 (by decide)
    rw [wx_0 (by decide)] at z
    exact z
  have hS3 := hS.2.2.1
  refine x_aload (np := 319) (x := 1) (by decide +kernel) rfl (x_nc_le (by decide)) ?_
  refine x_cIc (t := 6) (mj := 107) (n := 1) (rc := 11) (ml := 1) (cc := 0) (ss := 0) (nr := 0) (np := 322) (as := [x_r 0]) (rest := []) (lo1 := [x_r 0]) (by decide +kernel) (by decide) (x_cbV (by decide +kernel) (by show _ ≤ 600000; omega) (by show _ ≤ 7300000; omega)) (x_rb_of (by decide +kernel)) rfl rfl (x_wr (by decide) x_wn) x_wn (by decide) rfl (c107_0 hJ) (fun r3 h1 l4 q2 => ?_)
  obtain ⟨q5, b6⟩ := q2
  rw [q5]
  refine x_pop (by decide +kernel) l4 ?_
  refine x_aload (np := 324) (x := 2) (by decide +kernel) rfl (x_nc_le (by decide)) ?_
  refine x_cIc (t := 6) (mj := 175) (n := 1) (rc := 12) (ml := 1) (cc := 0) (ss := 0) (nr := 0) (np := 327) (as := [x_r 75]) (rest := []) (lo1 := [x_r 75]) (by decide +kernel) (by decide) (x_cbV (by decide +kernel) (by show _ ≤ 600000; omega) (by show _ ≤ 7300000; omega)) (x_rb_of (by decide +kernel)) rfl rfl (x_wr (by decide) x_wn) x_wn (by decide) rfl (c175_75 hJ) (fun r9 h7 l10 q8 => ?_)
  obtain ⟨j11, f12, g13⟩ := q8
  have q14 : h7 1 1 = h 1 1 := f12 1 1 (by decide +kernel)
  have q15 : h7 75 6 = h 75 6 := f12 75 6 (by decide +kernel)
  have q16 : h7 76 1 = h 76 1 := f12 76 1 (by decide +kernel)
  have q17 : h7 0 10 = h 0 10 := f12 0 10 (by decide +kernel)
  have q18 : h7 75 4 = h 75 4 := f12 75 4 (by decide +kernel)
  have m19 := WT.fr w76 hJ f12 (by decide)
  have m20 := WT.fr7 w77 hJ f12 (by decide)
  have m21 : h7 75 4 = 2147483649 → 2147483650 ≤ h7 77 0 := by
    rw [f12 75 4 (by decide +kernel), f12 77 0 (by decide +kernel)]
    exact hB
  have e23 := Se.fr hG9 f12 hJ (by decide) (by decide) (by decide) (by decide) (by decide) (by decide)
  have d24 := Sd.fr hD f12 hJ (by decide) (by decide) (by decide) (by decide) (by decide) (by decide) (by decide)
  have s25 := St.fr hS f12 hJ (by decide) (by decide) (by decide) (by decide) (by decide) (by decide)
  have t22 := Ty.fr hY f12 (by decide) (by decide)
  refine x_pop (by decide +kernel) l10 ?_
  refine x_goto (np := 331) (x := 1404) (by decide +kernel) ?_
  exact k c0 s0 w5 w6 h7 (by omega) (by omega) ⟨⟨j11, by omega, m19, m20, m21, by omega⟩, t22, s25, d24, e23⟩
set_option maxHeartbeats 0 in
theorem lc_4 {sc : Nat × Nat} {d j c0 s0 w5 w6 : Nat} {h : xh} {Q : Nat → xh → Prop} (hs : scOK sc) (hI : INV9b h) (hj : j + 6 ≤ sc.1) (hc : c0 + 2 ≤ 600000) (hz : s0 + 12 ≤ 7300000) (k : ∀ c1 s1 v5 v6 h', c1 ≤ c0 + 2 → s1 ≤ s0 + 12 → INV9b h' → X sc 309 (d + 60) Q c1 s1 1404 [55340232221128654849, x_r 0, x_r 75, x_r 97, iv_c (2147483648 + j), v5, v6] [] h') : X sc 309 (d + 60) Q c0 s0 331 [55340232221128654849, x_r 0, x_r 75, x_r 97, iv_c (2147483648 + j), w5, w6] [] h := by
  obtain ⟨⟨hJ, hE, w76, w77, hB, hG⟩, hY, hS, hD, hG9⟩ := hI
  have h384 := hs.1
  have hS1 : tv h 1 = h 76 1 := by
    have z := hS.2.1 1 (by decide)
    rw [wx_0 (by decide)] at z
    exact z
  have hS3 := hS.2.2.1
  refine x_aload (np := 332) (x := 1) (by decide +kernel) rfl (x_nc_le (by decide)) ?_
  refine x_aloadS (np := 333) (x := 0) (by decide +kernel) rfl ?_
  refine x_iload (np := 335) (x := 4) (by decide +kernel) rfl (by omega) ?_
  refine x_const (np := 336) (x := 9223372043297226753) (a := 2147483649) (by decide +kernel) (by decide) (by decide) ?_
  refine x_iadd (np := 337) (x := 0) (v := (2147483648 + (j + 1))) (by decide +kernel) (by omega) (by decide) (by omega) (by omega) ?_
  refine x_scr (j := (j + 1)) hs (np := 338) (x := 0) (by decide +kernel) rfl (by omega) (by omega) ?_
  have b1 : (sv sc (j + 1)) < 4294967296 := sv_lt
  refine x_cIc (t := 0) (mj := 283) (n := 2) (rc := 0) (ml := 3) (cc := 1) (ss := 6) (nr := 0) (np := 341) (as := [x_r 0, iv_c (sv sc (j + 1))]) (rest := []) (lo1 := [x_r 0, iv_c (sv sc (j + 1)), 147573952589676412928]) (by decide +kernel) (by decide) (x_cbV (by decide +kernel) (by show _ ≤ 600000; omega) (by show _ ≤ 7300000; omega)) (Or.inl rfl) rfl rfl (x_wr (by decide) (x_wi sv_lt x_wn)) x_wn (by decide) rfl (c283_0 hJ (by omega)) (fun r4 h2 l5 q3 => ?_)
  obtain ⟨j6, f7, g8, g9⟩ := q3
  have q10 : h2 1 1 = h 1 1 := f7 1 1 (by decide +kernel)
  have q11 : h2 75 6 = h 75 6 := f7 75 6 (by decide +kernel)
  have q12 : h2 76 1 = h 76 1 := f7 76 1 (by decide +kernel)
  have q13 : h2 0 10 = h 0 10 := f7 0 10 (by decide +kernel)
  have q14 : h2 75 4 = h 75 4 := f7 75 4 (by decide +kernel)
  have m15 := WT.fr w76 hJ f7 (by decide)
  have m16 := WT.fr7 w77 hJ f7 (by decide)
  have m17 : h2 75 4 = 2147483649 → 2147483650 ≤ h2 77 0 := by
    rw [f7 75 4 (by decide +kernel), f7 77 0 (by decide +kernel)]
    exact hB
  have t18 := Ty.fr hY f7 (by decide) (by decide)
  refine x_istore (np := 343) (x := 5) (lo' := [55340232221128654849, x_r 0, x_r 75, x_r 97, iv_c (2147483648 + j), iv_c r4, w6]) (by decide +kernel) l5 (Nat.le_of_ble_eq_true rfl) rfl ?_
  refine x_aload (np := 344) (x := 2) (by decide +kernel) rfl (x_nc_le (by decide)) ?_
  refine x_aloadS (np := 345) (x := 0) (by decide +kernel) rfl ?_
  refine x_iload (np := 347) (x := 4) (by decide +kernel) rfl (by omega) ?_
  refine x_const (np := 348) (x := 9223372043297226753) (a := 2147483649) (by decide +kernel) (by decide) (by decide) ?_
  refine x_iadd (np := 349) (x := 0) (v := (2147483648 + (j + 1))) (by decide +kernel) (by omega) (by decide) (by omega) (by omega) ?_
  refine x_scr (j := (j + 1)) hs (np := 350) (x := 0) (by decide +kernel) rfl (by omega) (by omega) ?_
  have b22 : (sv sc (j + 1)) < 4294967296 := sv_lt
  refine x_cVc (t := 6) (mj := 197) (n := 2) (rc := 12) (ml := 2) (cc := 0) (ss := 0) (nr := 0) (np := 353) (as := [x_r 75, iv_c (sv sc (j + 1))]) (rest := []) (lo1 := [x_r 75, iv_c (sv sc (j + 1))]) (by decide +kernel) (by decide) (x_cbV (by decide +kernel) (by show _ ≤ 600000; omega) (by show _ ≤ 7300000; omega)) (x_rb_of (by decide +kernel)) rfl rfl (x_wr (by decide) (x_wi sv_lt x_wn)) x_wn (by decide) rfl (c197_75 j6 (by omega) m15) (fun h23 q24 => ?_)
  obtain ⟨j27, f28, g29, g30⟩ := q24
  have q31 : h23 1 1 = h2 1 1 := f28 1 1 (by decide +kernel)
  have q32 : h23 75 6 = h2 75 6 := f28 75 6 (by decide +kernel)
  have q33 : h23 0 10 = h2 0 10 := f28 0 10 (by decide +kernel)
  have q34 : h23 75 4 = h2 75 4 := f28 75 4 (by decide +kernel)
  have m35 := WT.fr m15 j6 f28 (by decide)
  have m36 := WT.fr7 m16 j6 f28 (by decide)
  have m37 : h23 75 4 = 2147483649 → 2147483650 ≤ h23 77 0 := by
    rw [f28 75 4 (by decide +kernel), f28 77 0 (by decide +kernel)]
    exact m17
  have e39 := Se.people hG9 g9 hJ j6 f7 (by decide) (by decide) (by decide) (by decide) (by decide) f28 (by decide) (by decide) (by decide) (by decide) (by decide) (by decide)
  have d40 := Sd.people hD g9 hJ j6 f7 (by decide) (by decide) (by decide) (by decide) (by decide) f28 (by decide) (by decide) (by decide) (by decide) (by decide) (by decide) (by decide)
  obtain ⟨al1, s41⟩ := St.people hS g9 g30 hJ j6 f7 (by decide) (by decide) (by decide) (by decide) (by decide) f28 (by decide) (by decide) (by decide) (by decide) (by decide) (by decide)
  have t38 := Ty.fr t18 f28 (by decide) (by decide)
  refine x_goto (np := 356) (x := 1404) (by decide +kernel) ?_
  exact k (c0 + 1) (s0 + 6) (iv_c r4) w6 h23 (by omega) (by omega) ⟨⟨j27, by omega, m35, m36, m37, by omega⟩, t38, s41, d40, e39⟩
set_option maxHeartbeats 0 in
theorem lc_5 {sc : Nat × Nat} {d j c0 s0 w5 w6 : Nat} {h : xh} {Q : Nat → xh → Prop} (hs : scOK sc) (hI : INV9b h) (hj : j + 6 ≤ sc.1) (hc : c0 + 2 ≤ 600000) (hz : s0 + 12 ≤ 7300000) (k : ∀ c1 s1 v5 v6 h', c1 ≤ c0 + 2 → s1 ≤ s0 + 12 → INV9b h' → X sc 309 (d + 60) Q c1 s1 1404 [55340232221128654849, x_r 0, x_r 75, x_r 97, iv_c (2147483648 + j), v5, v6] [] h') : X sc 309 (d + 60) Q c0 s0 356 [55340232221128654849, x_r 0, x_r 75, x_r 97, iv_c (2147483648 + j), w5, w6] [] h := by
  obtain ⟨⟨hJ, hE, w76, w77, hB, hG⟩, hY, hS, hD, hG9⟩ := hI
  have h384 := hs.1
  have hS1 : tv h 1 = h 76 1 := by
    have z := hS.2.1 1 (by decide)
    rw [wx_0 (by decide)] at z
    exact z
  have hS3 := hS.2.2.1
  refine x_aload (np := 357) (x := 1) (by decide +kernel) rfl (x_nc_le (by decide)) ?_
  refine x_aloadS (np := 358) (x := 0) (by decide +kernel) rfl ?_
  refine x_iload (np := 360) (x := 4) (by decide +kernel) rfl (by omega) ?_
  refine x_const (np := 361) (x := 9223372043297226753) (a := 2147483649) (by decide +kernel) (by decide) (by decide) ?_
  refine x_iadd (np := 362) (x := 0) (v := (2147483648 + (j + 1))) (by decide +kernel) (by omega) (by decide) (by omega) (by omega) ?_
  refine x_scr (j := (j + 1)) hs (np := 363) (x := 0) (by decide +kernel) rfl (by omega) (by omega) ?_
  refine x_aloadS (np := 364) (x := 0) (by decide +kernel) rfl ?_
  refine x_iload (np := 366) (x := 4) (by decide +kernel) rfl (by omega) ?_
  refine x_const (np := 367) (x := 9223372047592194050) (a := 2147483650) (by decide +kernel) (by decide) (by decide) ?_
  refine x_iadd (np := 368) (x := 0) (v := (2147483648 + (j + 2))) (by decide +kernel) (by omega) (by decide) (by omega) (by omega) ?_
  refine x_scr (j := (j + 2)) hs (np := 369) (x := 0) (by decide +kernel) rfl (by omega) (by omega) ?_
  refine x_aload (np := 370) (x := 3) (by decide +kernel) rfl (x_nc_le (by decide)) ?_
  have b1 : (sv sc (j + 1)) < 4294967296 := sv_lt
  have b2 : (sv sc (j + 2)) < 4294967296 := sv_lt
  refine x_cIc (t := 0) (mj := 284) (n := 4) (rc := 0) (ml := 5) (cc := 2) (ss := 12) (nr := 0) (np := 373) (as := [x_r 0, iv_c (sv sc (j + 1)), iv_c (sv sc (j + 2)), x_r 97]) (rest := []) (lo1 := [x_r 0, iv_c (sv sc (j + 1)), iv_c (sv sc (j + 2)), x_r 97, 147573952589676412928]) (by decide +kernel) (by decide) (x_cbV (by decide +kernel) (by show _ ≤ 600000; omega) (by show _ ≤ 7300000; omega)) (Or.inl rfl) rfl rfl (x_wr (by decide) (x_wi sv_lt (x_wi sv_lt (x_wr (by decide) x_wn)))) x_wn (by decide) rfl (c284_0_97 hJ (by omega) (by omega)) (fun r5 h3 l6 q4 => ?_)
  obtain ⟨j7, f8, g9⟩ := q4
  have q10 : h3 1 1 = h 1 1 := f8 1 1 (by decide +kernel)
  have q11 : h3 75 6 = h 75 6 := f8 75 6 (by decide +kernel)
  have q12 : h3 76 1 = h 76 1 := f8 76 1 (by decide +kernel)
  have q13 : h3 0 10 = h 0 10 := f8 0 10 (by decide +kernel)
  have q14 : h3 75 4 = h 75 4 := f8 75 4 (by decide +kernel)
  have m15 := WT.fr w76 hJ f8 (by decide)
  have m16 := WT.fr7 w77 hJ f8 (by decide)
  have m17 : h3 75 4 = 2147483649 → 2147483650 ≤ h3 77 0 := by
    rw [f8 75 4 (by decide +kernel), f8 77 0 (by decide +kernel)]
    exact hB
  have e19 := Se.fr hG9 f8 hJ (by decide) (by decide) (by decide) (by decide) (by decide) (by decide)
  have d20 := Sd.fr hD f8 hJ (by decide) (by decide) (by decide) (by decide) (by decide) (by decide) (by decide)
  have s21 := St.fr hS f8 hJ (by decide) (by decide) (by decide) (by decide) (by decide) (by decide)
  have t18 := Ty.fr hY f8 (by decide) (by decide)
  refine x_istore (np := 375) (x := 5) (lo' := [55340232221128654849, x_r 0, x_r 75, x_r 97, iv_c (2147483648 + j), iv_c r5, w6]) (by decide +kernel) l6 (Nat.le_of_ble_eq_true rfl) rfl ?_
  refine x_aload (np := 376) (x := 2) (by decide +kernel) rfl (x_nc_le (by decide)) ?_
  refine x_aloadS (np := 377) (x := 0) (by decide +kernel) rfl ?_
  refine x_iload (np := 379) (x := 4) (by decide +kernel) rfl (by omega) ?_
  refine x_const (np := 380) (x := 9223372043297226753) (a := 2147483649) (by decide +kernel) (by decide) (by decide) ?_
  refine x_iadd (np := 381) (x := 0) (v := (2147483648 + (j + 1))) (by decide +kernel) (by omega) (by decide) (by omega) (by omega) ?_
  refine x_scr (j := (j + 1)) hs (np := 382) (x := 0) (by decide +kernel) rfl (by omega) (by omega) ?_
  refine x_aloadS (np := 383) (x := 0) (by decide +kernel) rfl ?_
  refine x_iload (np := 385) (x := 4) (by decide +kernel) rfl (by omega) ?_
  refine x_const (np := 386) (x := 9223372047592194050) (a := 2147483650) (by decide +kernel) (by decide) (by decide) ?_
  refine x_iadd (np := 387) (x := 0) (v := (2147483648 + (j + 2))) (by decide +kernel) (by omega) (by decide) (by omega) (by omega) ?_
  refine x_scr (j := (j + 2)) hs (np := 388) (x := 0) (by decide +kernel) rfl (by omega) (by omega) ?_
  have b22 : (sv sc (j + 1)) < 4294967296 := sv_lt
  have b23 : (sv sc (j + 2)) < 4294967296 := sv_lt
  refine x_cIc (t := 6) (mj := 212) (n := 3) (rc := 12) (ml := 3) (cc := 0) (ss := 0) (nr := 0) (np := 391) (as := [x_r 75, iv_c (sv sc (j + 1)), iv_c (sv sc (j + 2))]) (rest := []) (lo1 := [x_r 75, iv_c (sv sc (j + 1)), iv_c (sv sc (j + 2))]) (by decide +kernel) (by decide) (x_cbV (by decide +kernel) (by show _ ≤ 600000; omega) (by show _ ≤ 7300000; omega)) (x_rb_of (by decide +kernel)) rfl rfl (x_wr (by decide) (x_wi sv_lt (x_wi sv_lt x_wn))) x_wn (by decide) rfl (c212_75 j7 (by omega) (by omega) m15) (fun r26 h24 l27 q25 => ?_)
  obtain ⟨j28, f29, g30⟩ := q25
  have q31 : h24 1 1 = h3 1 1 := f29 1 1 (by decide +kernel)
  have q32 : h24 75 6 = h3 75 6 := f29 75 6 (by decide +kernel)
  have q33 : h24 76 1 = h3 76 1 := f29 76 1 (by decide +kernel)
  have q34 : h24 0 10 = h3 0 10 := f29 0 10 (by decide +kernel)
  have q35 : h24 75 4 = h3 75 4 := f29 75 4 (by decide +kernel)
  have m36 := WT.fr m15 j7 f29 (by decide)
  have m37 := WT.fr7 m16 j7 f29 (by decide)
  have m38 : h24 75 4 = 2147483649 → 2147483650 ≤ h24 77 0 := by
    rw [f29 75 4 (by decide +kernel), f29 77 0 (by decide +kernel)]
    exact m17
  have e40 := Se.fr e19 f29 j7 (by decide) (by decide) (by decide) (by decide) (by decide) (by decide)
  have d41 := Sd.fr d20 f29 j7 (by decide) (by decide) (by decide) (by decide) (by decide) (by decide) (by decide)
  have s42 := St.fr s21 f29 j7 (by decide) (by decide) (by decide) (by decide) (by decide) (by decide)
  have t39 := Ty.fr t18 f29 (by decide) (by decide)
  refine x_istore (np := 393) (x := 6) (lo' := [55340232221128654849, x_r 0, x_r 75, x_r 97, iv_c (2147483648 + j), iv_c r5, iv_c r26]) (by decide +kernel) l27 (Nat.le_of_ble_eq_true rfl) rfl ?_
  refine x_goto (np := 396) (x := 1404) (by decide +kernel) ?_
  exact k (c0 + 2) (s0 + 12) (iv_c r5) (iv_c r26) h24 (by omega) (by omega) ⟨⟨j28, by omega, m36, m37, m38, by omega⟩, t39, s42, d41, e40⟩
set_option maxHeartbeats 0 in
theorem lc_6 {sc : Nat × Nat} {d j c0 s0 w5 w6 : Nat} {h : xh} {Q : Nat → xh → Prop} (hs : scOK sc) (hI : INV9b h) (hj : j + 6 ≤ sc.1) (hc : c0 + 2 ≤ 600000) (hz : s0 + 12 ≤ 7300000) (k : ∀ c1 s1 v5 v6 h', c1 ≤ c0 + 2 → s1 ≤ s0 + 12 → INV9b h' → X sc 309 (d + 60) Q c1 s1 1404 [55340232221128654849, x_r 0, x_r 75, x_r 97, iv_c (2147483648 + j), v5, v6] [] h') : X sc 309 (d + 60) Q c0 s0 396 [55340232221128654849, x_r 0, x_r 75, x_r 97, iv_c (2147483648 + j), w5, w6] [] h := by
  obtain ⟨⟨hJ, hE, w76, w77, hB, hG⟩, hY, hS, hD, hG9⟩ := hI
  have h384 := hs.1
  have hS1 : tv h 1 = h 76 1 := by
    have z := hS.2.1 1 (by decide)
    rw [wx_0 (by decide)] at z
    exact z
  have hS3 := hS.2.2.1
  refine x_aload (np := 397) (x := 1) (by decide +kernel) rfl (x_nc_le (by decide)) ?_
  refine x_aloadS (np := 398) (x := 0) (by decide +kernel) rfl ?_
  refine x_iload (np := 400) (x := 4) (by decide +kernel) rfl (by omega) ?_
  refine x_const (np := 401) (x := 9223372043297226753) (a := 2147483649) (by decide +kernel) (by decide) (by decide) ?_
  refine x_iadd (np := 402) (x := 0) (v := (2147483648 + (j + 1))) (by decide +kernel) (by omega) (by decide) (by omega) (by omega) ?_
  refine x_scr (j := (j + 1)) hs (np := 403) (x := 0) (by decide +kernel) rfl (by omega) (by omega) ?_
  refine x_aloadS (np := 404) (x := 0) (by decide +kernel) rfl ?_
  refine x_iload (np := 406) (x := 4) (by decide +kernel) rfl (by omega) ?_
  refine x_const (np := 407) (x := 9223372047592194050) (a := 2147483650) (by decide +kernel) (by decide) (by decide) ?_
  refine x_iadd (np := 408) (x := 0) (v := (2147483648 + (j + 2))) (by decide +kernel) (by omega) (by decide) (by omega) (by omega) ?_
  refine x_scr (j := (j + 2)) hs (np := 409) (x := 0) (by decide +kernel) rfl (by omega) (by omega) ?_
  refine x_aload (np := 410) (x := 3) (by decide +kernel) rfl (x_nc_le (by decide)) ?_
  have b1 : (sv sc (j + 1)) < 4294967296 := sv_lt
  have b2 : (sv sc (j + 2)) < 4294967296 := sv_lt
  refine x_cIc (t := 0) (mj := 285) (n := 4) (rc := 0) (ml := 5) (cc := 2) (ss := 12) (nr := 0) (np := 413) (as := [x_r 0, iv_c (sv sc (j + 1)), iv_c (sv sc (j + 2)), x_r 97]) (rest := []) (lo1 := [x_r 0, iv_c (sv sc (j + 1)), iv_c (sv sc (j + 2)), x_r 97, 147573952589676412928]) (by decide +kernel) (by decide) (x_cbV (by decide +kernel) (by show _ ≤ 600000; omega) (by show _ ≤ 7300000; omega)) (Or.inl rfl) rfl rfl (x_wr (by decide) (x_wi sv_lt (x_wi sv_lt (x_wr (by decide) x_wn)))) x_wn (by decide) rfl (c285_0_97 hJ (by omega) (by omega)) (fun r5 h3 l6 q4 => ?_)
  obtain ⟨j7, f8, g9⟩ := q4
  have q10 : h3 1 1 = h 1 1 := f8 1 1 (by decide +kernel)
  have q11 : h3 75 6 = h 75 6 := f8 75 6 (by decide +kernel)
  have q12 : h3 76 1 = h 76 1 := f8 76 1 (by decide +kernel)
  have q13 : h3 0 10 = h 0 10 := f8 0 10 (by decide +kernel)
  have q14 : h3 75 4 = h 75 4 := f8 75 4 (by decide +kernel)
  have m15 := WT.fr w76 hJ f8 (by decide)
  have m16 := WT.fr7 w77 hJ f8 (by decide)
  have m17 : h3 75 4 = 2147483649 → 2147483650 ≤ h3 77 0 := by
    rw [f8 75 4 (by decide +kernel), f8 77 0 (by decide +kernel)]
    exact hB
  have e19 := Se.fr hG9 f8 hJ (by decide) (by decide) (by decide) (by decide) (by decide) (by decide)
  have d20 := Sd.fr hD f8 hJ (by decide) (by decide) (by decide) (by decide) (by decide) (by decide) (by decide)
  have s21 := St.fr hS f8 hJ (by decide) (by decide) (by decide) (by decide) (by decide) (by decide)
  have t18 := Ty.fr hY f8 (by decide) (by decide)
  refine x_istore (np := 415) (x := 5) (lo' := [55340232221128654849, x_r 0, x_r 75, x_r 97, iv_c (2147483648 + j), iv_c r5, w6]) (by decide +kernel) l6 (Nat.le_of_ble_eq_true rfl) rfl ?_
  refine x_aload (np := 416) (x := 2) (by decide +kernel) rfl (x_nc_le (by decide)) ?_
  refine x_aloadS (np := 417) (x := 0) (by decide +kernel) rfl ?_
  refine x_iload (np := 419) (x := 4) (by decide +kernel) rfl (by omega) ?_
  refine x_const (np := 420) (x := 9223372043297226753) (a := 2147483649) (by decide +kernel) (by decide) (by decide) ?_
  refine x_iadd (np := 421) (x := 0) (v := (2147483648 + (j + 1))) (by decide +kernel) (by omega) (by decide) (by omega) (by omega) ?_
  refine x_scr (j := (j + 1)) hs (np := 422) (x := 0) (by decide +kernel) rfl (by omega) (by omega) ?_
  refine x_aloadS (np := 423) (x := 0) (by decide +kernel) rfl ?_
  refine x_iload (np := 425) (x := 4) (by decide +kernel) rfl (by omega) ?_
  refine x_const (np := 426) (x := 9223372047592194050) (a := 2147483650) (by decide +kernel) (by decide) (by decide) ?_
  refine x_iadd (np := 427) (x := 0) (v := (2147483648 + (j + 2))) (by decide +kernel) (by omega) (by decide) (by omega) (by omega) ?_
  refine x_scr (j := (j + 2)) hs (np := 428) (x := 0) (by decide +kernel) rfl (by omega) (by omega) ?_
  have b22 : (sv sc (j + 1)) < 4294967296 := sv_lt
  have b23 : (sv sc (j + 2)) < 4294967296 := sv_lt
  refine x_cIc (t := 6) (mj := 214) (n := 3) (rc := 12) (ml := 3) (cc := 0) (ss := 0) (nr := 0) (np := 431) (as := [x_r 75, iv_c (sv sc (j + 1)), iv_c (sv sc (j + 2))]) (rest := []) (lo1 := [x_r 75, iv_c (sv sc (j + 1)), iv_c (sv sc (j + 2))]) (by decide +kernel) (by decide) (x_cbV (by decide +kernel) (by show _ ≤ 600000; omega) (by show _ ≤ 7300000; omega)) (x_rb_of (by decide +kernel)) rfl rfl (x_wr (by decide) (x_wi sv_lt (x_wi sv_lt x_wn))) x_wn (by decide) rfl (c214_75 j7 (by omega) (by omega) m15) (fun r26 h24 l27 q25 => ?_)
  obtain ⟨j28, f29, g30⟩ := q25
  have q31 : h24 1 1 = h3 1 1 := f29 1 1 (by decide +kernel)
  have q32 : h24 75 6 = h3 75 6 := f29 75 6 (by decide +kernel)
  have q33 : h24 76 1 = h3 76 1 := f29 76 1 (by decide +kernel)
  have q34 : h24 0 10 = h3 0 10 := f29 0 10 (by decide +kernel)
  have q35 : h24 75 4 = h3 75 4 := f29 75 4 (by decide +kernel)
  have m36 := WT.fr m15 j7 f29 (by decide)
  have m37 := WT.fr7 m16 j7 f29 (by decide)
  have m38 : h24 75 4 = 2147483649 → 2147483650 ≤ h24 77 0 := by
    rw [f29 75 4 (by decide +kernel), f29 77 0 (by decide +kernel)]
    exact m17
  have e40 := Se.fr e19 f29 j7 (by decide) (by decide) (by decide) (by decide) (by decide) (by decide)
  have d41 := Sd.fr d20 f29 j7 (by decide) (by decide) (by decide) (by decide) (by decide) (by decide) (by decide)
  have s42 := St.fr s21 f29 j7 (by decide) (by decide) (by decide) (by decide) (by decide) (by decide)
  have t39 := Ty.fr t18 f29 (by decide) (by decide)
  refine x_istore (np := 433) (x := 6) (lo' := [55340232221128654849, x_r 0, x_r 75, x_r 97, iv_c (2147483648 + j), iv_c r5, iv_c r26]) (by decide +kernel) l27 (Nat.le_of_ble_eq_true rfl) rfl ?_
  refine x_goto (np := 436) (x := 1404) (by decide +kernel) ?_
  exact k (c0 + 2) (s0 + 12) (iv_c r5) (iv_c r26) h24 (by omega) (by omega) ⟨⟨j28, by omega, m36, m37, m38, by omega⟩, t39, s42, d41, e40⟩
set_option maxHeartbeats 0 in
theorem lc_7 {sc : Nat × Nat} {d j c0 s0 w5 w6 : Nat} {h : xh} {Q : Nat → xh → Prop} (hs : scOK sc) (hI : INV9b h) (hj : j + 6 ≤ sc.1) (hc : c0 + 2 ≤ 600000) (hz : s0 + 12 ≤ 7300000) (k : ∀ c1 s1 v5 v6 h', c1 ≤ c0 + 2 → s1 ≤ s0 + 12 → INV9b h' → X sc 309 (d + 60) Q c1 s1 1404 [55340232221128654849, x_r 0, x_r 75, x_r 97, iv_c (2147483648 + j), v5, v6] [] h') : X sc 309 (d + 60) Q c0 s0 436 [55340232221128654849, x_r 0, x_r 75, x_r 97, iv_c (2147483648 + j), w5, w6] [] h := by
  obtain ⟨⟨hJ, hE, w76, w77, hB, hG⟩, hY, hS, hD, hG9⟩ := hI
  have h384 := hs.1
  have hS1 : tv h 1 = h 76 1 := by
    have z := hS.2.1 1 (by decide)
    rw [wx_0 (by decide)] at z
    exact z
  have hS3 := hS.2.2.1
  refine x_aload (np := 437) (x := 1) (by decide +kernel) rfl (x_nc_le (by decide)) ?_
  refine x_aloadS (np := 438) (x := 0) (by decide +kernel) rfl ?_
  refine x_iload (np := 440) (x := 4) (by decide +kernel) rfl (by omega) ?_
  refine x_const (np := 441) (x := 9223372043297226753) (a := 2147483649) (by decide +kernel) (by decide) (by decide) ?_
  refine x_iadd (np := 442) (x := 0) (v := (2147483648 + (j + 1))) (by decide +kernel) (by omega) (by decide) (by omega) (by omega) ?_
  refine x_scr (j := (j + 1)) hs (np := 443) (x := 0) (by decide +kernel) rfl (by omega) (by omega) ?_
  refine x_aloadS (np := 444) (x := 0) (by decide +kernel) rfl ?_
  refine x_iload (np := 446) (x := 4) (by decide +kernel) rfl (by omega) ?_
  refine x_const (np := 447) (x := 9223372047592194050) (a := 2147483650) (by decide +kernel) (by decide) (by decide) ?_
  refine x_iadd (np := 448) (x := 0) (v := (2147483648 + (j + 2))) (by decide +kernel) (by omega) (by decide) (by omega) (by omega) ?_
  refine x_scr (j := (j + 2)) hs (np := 449) (x := 0) (by decide +kernel) rfl (by omega) (by omega) ?_
  refine x_aload (np := 450) (x := 3) (by decide +kernel) rfl (x_nc_le (by decide)) ?_
  have b1 : (sv sc (j + 1)) < 4294967296 := sv_lt
  have b2 : (sv sc (j + 2)) < 4294967296 := sv_lt
  refine x_cIc (t := 0) (mj := 286) (n := 4) (rc := 0) (ml := 5) (cc := 2) (ss := 12) (nr := 0) (np := 453) (as := [x_r 0, iv_c (sv sc (j + 1)), iv_c (sv sc (j + 2)), x_r 97]) (rest := []) (lo1 := [x_r 0, iv_c (sv sc (j + 1)), iv_c (sv sc (j + 2)), x_r 97, 147573952589676412928]) (by decide +kernel) (by decide) (x_cbV (by decide +kernel) (by show _ ≤ 600000; omega) (by show _ ≤ 7300000; omega)) (Or.inl rfl) rfl rfl (x_wr (by decide) (x_wi sv_lt (x_wi sv_lt (x_wr (by decide) x_wn)))) x_wn (by decide) rfl (c286_0_97 hJ (by omega) (by omega)) (fun r5 h3 l6 q4 => ?_)
  obtain ⟨j7, f8, g9⟩ := q4
  have q10 : h3 1 1 = h 1 1 := f8 1 1 (by decide +kernel)
  have q11 : h3 75 6 = h 75 6 := f8 75 6 (by decide +kernel)
  have q12 : h3 76 1 = h 76 1 := f8 76 1 (by decide +kernel)
  have q13 : h3 0 10 = h 0 10 := f8 0 10 (by decide +kernel)
  have q14 : h3 75 4 = h 75 4 := f8 75 4 (by decide +kernel)
  have m15 := WT.fr w76 hJ f8 (by decide)
  have m16 := WT.fr7 w77 hJ f8 (by decide)
  have m17 : h3 75 4 = 2147483649 → 2147483650 ≤ h3 77 0 := by
    rw [f8 75 4 (by decide +kernel), f8 77 0 (by decide +kernel)]
    exact hB
  have e19 := Se.fr hG9 f8 hJ (by decide) (by decide) (by decide) (by decide) (by decide) (by decide)
  have d20 := Sd.fr hD f8 hJ (by decide) (by decide) (by decide) (by decide) (by decide) (by decide) (by decide)
  have s21 := St.fr hS f8 hJ (by decide) (by decide) (by decide) (by decide) (by decide) (by decide)
  have t18 := Ty.fr hY f8 (by decide) (by decide)
  refine x_istore (np := 455) (x := 5) (lo' := [55340232221128654849, x_r 0, x_r 75, x_r 97, iv_c (2147483648 + j), iv_c r5, w6]) (by decide +kernel) l6 (Nat.le_of_ble_eq_true rfl) rfl ?_
  refine x_aload (np := 456) (x := 2) (by decide +kernel) rfl (x_nc_le (by decide)) ?_
  refine x_aloadS (np := 457) (x := 0) (by decide +kernel) rfl ?_
  refine x_iload (np := 459) (x := 4) (by decide +kernel) rfl (by omega) ?_
  refine x_const (np := 460) (x := 9223372043297226753) (a := 2147483649) (by decide +kernel) (by decide) (by decide) ?_
  refine x_iadd (np := 461) (x := 0) (v := (2147483648 + (j + 1))) (by decide +kernel) (by omega) (by decide) (by omega) (by omega) ?_
  refine x_scr (j := (j + 1)) hs (np := 462) (x := 0) (by decide +kernel) rfl (by omega) (by omega) ?_
  refine x_aloadS (np := 463) (x := 0) (by decide +kernel) rfl ?_
  refine x_iload (np := 465) (x := 4) (by decide +kernel) rfl (by omega) ?_
  refine x_const (np := 466) (x := 9223372047592194050) (a := 2147483650) (by decide +kernel) (by decide) (by decide) ?_
  refine x_iadd (np := 467) (x := 0) (v := (2147483648 + (j + 2))) (by decide +kernel) (by omega) (by decide) (by omega) (by omega) ?_
  refine x_scr (j := (j + 2)) hs (np := 468) (x := 0) (by decide +kernel) rfl (by omega) (by omega) ?_
  have b22 : (sv sc (j + 1)) < 4294967296 := sv_lt
  have b23 : (sv sc (j + 2)) < 4294967296 := sv_lt
  refine x_cIc (t := 6) (mj := 215) (n := 3) (rc := 12) (ml := 6) (cc := 0) (ss := 0) (nr := 0) (np := 471) (as := [x_r 75, iv_c (sv sc (j + 1)), iv_c (sv sc (j + 2))]) (rest := []) (lo1 := [x_r 75, iv_c (sv sc (j + 1)), iv_c (sv sc (j + 2)), 147573952589676412928, 147573952589676412928, 147573952589676412928]) (by decide +kernel) (by decide) (x_cbV (by decide +kernel) (by show _ ≤ 600000; omega) (by show _ ≤ 7300000; omega)) (x_rb_of (by decide +kernel)) rfl rfl (x_wr (by decide) (x_wi sv_lt (x_wi sv_lt x_wn))) x_wn (by decide) rfl (c215_75 j7 (by omega) (by omega) m15) (fun r26 h24 l27 q25 => ?_)
  obtain ⟨j28, f29, g30⟩ := q25
  have q31 : h24 1 1 = h3 1 1 := f29 1 1 (by decide +kernel)
  have q32 : h24 75 6 = h3 75 6 := f29 75 6 (by decide +kernel)
  have q33 : h24 76 1 = h3 76 1 := f29 76 1 (by decide +kernel)
  have q34 : h24 0 10 = h3 0 10 := f29 0 10 (by decide +kernel)
  have q35 : h24 75 4 = h3 75 4 := f29 75 4 (by decide +kernel)
  have m36 := WT.fr m15 j7 f29 (by decide)
  have m37 := WT.fr7 m16 j7 f29 (by decide)
  have m38 : h24 75 4 = 2147483649 → 2147483650 ≤ h24 77 0 := by
    rw [f29 75 4 (by decide +kernel), f29 77 0 (by decide +kernel)]
    exact m17
  have e40 := Se.fr e19 f29 j7 (by decide) (by decide) (by decide) (by decide) (by decide) (by decide)
  have d41 := Sd.fr d20 f29 j7 (by decide) (by decide) (by decide) (by decide) (by decide) (by decide) (by decide)
  have s42 := St.fr s21 f29 j7 (by decide) (by decide) (by decide) (by decide) (by decide) (by decide)
  have t39 := Ty.fr t18 f29 (by decide) (by decide)
  refine x_istore (np := 473) (x := 6) (lo' := [55340232221128654849, x_r 0, x_r 75, x_r 97, iv_c (2147483648 + j), iv_c r5, iv_c r26]) (by decide +kernel) l27 (Nat.le_of_ble_eq_true rfl) rfl ?_
  refine x_goto (np := 476) (x := 1404) (by decide +kernel) ?_
  exact k (c0 + 2) (s0 + 12) (iv_c r5) (iv_c r26) h24 (by omega) (by omega) ⟨⟨j28, by omega, m36, m37, m38, by omega⟩, t39, s42, d41, e40⟩
set_option maxHeartbeats 0 in
theorem lc_8 {sc : Nat × Nat} {d j c0 s0 w5 w6 : Nat} {h : xh} {Q : Nat → xh → Prop} (hs : scOK sc) (hI : INV9b h) (hj : j + 6 ≤ sc.1) (hc : c0 + 2 ≤ 600000) (hz : s0 + 12 ≤ 7300000) (k : ∀ c1 s1 v5 v6 h', c1 ≤ c0 + 2 → s1 ≤ s0 + 12 → INV9b h' → X sc 309 (d + 60) Q c1 s1 1404 [55340232221128654849, x_r 0, x_r 75, x_r 97, iv_c (2147483648 + j), v5, v6] [] h') : X sc 309 (d + 60) Q c0 s0 476 [55340232221128654849, x_r 0, x_r 75, x_r 97, iv_c (2147483648 + j), w5, w6] [] h := by
  obtain ⟨⟨hJ, hE, w76, w77, hB, hG⟩, hY, hS, hD, hG9⟩ := hI
  have h384 := hs.1
  have hS1 : tv h 1 = h 76 1 := by
    have z := hS.2.1 1 (by decide)
    rw [wx_0 (by decide)] at z
    exact z
  have hS3 := hS.2.2.1
  refine x_aload (np := 477) (x := 1) (by decide +kernel) rfl (x_nc_le (by decide)) ?_
  refine x_aloadS (np := 478) (x := 0) (by decide +kernel) rfl ?_
  refine x_iload (np := 480) (x := 4) (by decide +kernel) rfl (by omega) ?_
  refine x_const (np := 481) (x := 9223372043297226753) (a := 2147483649) (by decide +kernel) (by decide) (by decide) ?_
  refine x_iadd (np := 482) (x := 0) (v := (2147483648 + (j + 1))) (by decide +kernel) (by omega) (by decide) (by omega) (by omega) ?_
  refine x_scr (j := (j + 1)) hs (np := 483) (x := 0) (by decide +kernel) rfl (by omega) (by omega) ?_
  refine x_aloadS (np := 484) (x := 0) (by decide +kernel) rfl ?_
  refine x_iload (np := 486) (x := 4) (by decide +kernel) rfl (by omega) ?_
  refine x_const (np := 487) (x := 9223372047592194050) (a := 2147483650) (by decide +kernel) (by decide) (by decide) ?_
  refine x_iadd (np := 488) (x := 0) (v := (2147483648 + (j + 2))) (by decide +kernel) (by omega) (by decide) (by omega) (by omega) ?_
  refine x_scr (j := (j + 2)) hs (np := 489) (x := 0) (by decide +kernel) rfl (by omega) (by omega) ?_
  refine x_aloadS (np := 490) (x := 0) (by decide +kernel) rfl ?_
  refine x_iload (np := 492) (x := 4) (by decide +kernel) rfl (by omega) ?_
  refine x_const (np := 493) (x := 9223372051887161347) (a := 2147483651) (by decide +kernel) (by decide) (by decide) ?_
  refine x_iadd (np := 494) (x := 0) (v := (2147483648 + (j + 3))) (by decide +kernel) (by omega) (by decide) (by omega) (by omega) ?_
  refine x_scr (j := (j + 3)) hs (np := 495) (x := 0) (by decide +kernel) rfl (by omega) (by omega) ?_
  refine x_aload (np := 496) (x := 3) (by decide +kernel) rfl (x_nc_le (by decide)) ?_
  have b1 : (sv sc (j + 1)) < 4294967296 := sv_lt
  have b2 : (sv sc (j + 2)) < 4294967296 := sv_lt
  have b3 : (sv sc (j + 3)) < 4294967296 := sv_lt
  refine x_cIc (t := 0) (mj := 287) (n := 5) (rc := 0) (ml := 6) (cc := 2) (ss := 12) (nr := 0) (np := 499) (as := [x_r 0, iv_c (sv sc (j + 1)), iv_c (sv sc (j + 2)), iv_c (sv sc (j + 3)), x_r 97]) (rest := []) (lo1 := [x_r 0, iv_c (sv sc (j + 1)), iv_c (sv sc (j + 2)), iv_c (sv sc (j + 3)), x_r 97, 147573952589676412928]) (by decide +kernel) (by decide) (x_cbV (by decide +kernel) (by show _ ≤ 600000; omega) (by show _ ≤ 7300000; omega)) (Or.inl rfl) rfl rfl (x_wr (by decide) (x_wi sv_lt (x_wi sv_lt (x_wi sv_lt (x_wr (by decide) x_wn))))) x_wn (by decide) rfl (c287_0_97 hJ (by omega) (by omega) (by omega)) (fun r6 h4 l7 q5 => ?_)
  obtain ⟨j8, f9, g10⟩ := q5
  have q11 : h4 1 1 = h 1 1 := f9 1 1 (by decide +kernel)
  have q12 : h4 75 6 = h 75 6 := f9 75 6 (by decide +kernel)
  have q13 : h4 76 1 = h 76 1 := f9 76 1 (by decide +kernel)
  have q14 : h4 0 10 = h 0 10 := f9 0 10 (by decide +kernel)
  have q15 : h4 75 4 = h 75 4 := f9 75 4 (by decide +kernel)
  have m16 := WT.fr w76 hJ f9 (by decide)
  have m17 := WT.fr7 w77 hJ f9 (by decide)
  have m18 : h4 75 4 = 2147483649 → 2147483650 ≤ h4 77 0 := by
    rw [f9 75 4 (by decide +kernel), f9 77 0 (by decide +kernel)]
    exact hB
  have e20 := Se.fr hG9 f9 hJ (by decide) (by decide) (by decide) (by decide) (by decide) (by decide)
  have d21 := Sd.fr hD f9 hJ (by decide) (by decide) (by decide) (by decide) (by decide) (by decide) (by decide)
  have s22 := St.fr hS f9 hJ (by decide) (by decide) (by decide) (by decide) (by decide) (by decide)
  have t19 := Ty.fr hY f9 (by decide) (by decide)
  refine x_istore (np := 501) (x := 5) (lo' := [55340232221128654849, x_r 0, x_r 75, x_r 97, iv_c (2147483648 + j), iv_c r6, w6]) (by decide +kernel) l7 (Nat.le_of_ble_eq_true rfl) rfl ?_
  refine x_aload (np := 502) (x := 2) (by decide +kernel) rfl (x_nc_le (by decide)) ?_
  refine x_aloadS (np := 503) (x := 0) (by decide +kernel) rfl ?_
  refine x_iload (np := 505) (x := 4) (by decide +kernel) rfl (by omega) ?_
  refine x_const (np := 506) (x := 9223372043297226753) (a := 2147483649) (by decide +kernel) (by decide) (by decide) ?_
  refine x_iadd (np := 507) (x := 0) (v := (2147483648 + (j + 1))) (by decide +kernel) (by omega) (by decide) (by omega) (by omega) ?_
  refine x_scr (j := (j + 1)) hs (np := 508) (x := 0) (by decide +kernel) rfl (by omega) (by omega) ?_
  refine x_aloadS (np := 509) (x := 0) (by decide +kernel) rfl ?_
  refine x_iload (np := 511) (x := 4) (by decide +kernel) rfl (by omega) ?_
  refine x_const (np := 512) (x := 9223372047592194050) (a := 2147483650) (by decide +kernel) (by decide) (by decide) ?_
  refine x_iadd (np := 513) (x := 0) (v := (2147483648 + (j + 2))) (by decide +kernel) (by omega) (by decide) (by omega) (by omega) ?_
  refine x_scr (j := (j + 2)) hs (np := 514) (x := 0) (by decide +kernel) rfl (by omega) (by omega) ?_
  refine x_aloadS (np := 515) (x := 0) (by decide +kernel) rfl ?_
  refine x_iload (np := 517) (x := 4) (by decide +kernel) rfl (by omega) ?_
  refine x_const (np := 518) (x := 9223372051887161347) (a := 2147483651) (by decide +kernel) (by decide) (by decide) ?_
  refine x_iadd (np := 519) (x := 0) (v := (2147483648 + (j + 3))) (by decide +kernel) (by omega) (by decide) (by omega) (by omega) ?_
  refine x_scr (j := (j + 3)) hs (np := 520) (x := 0) (by decide +kernel) rfl (by omega) (by omega) ?_
  have b23 : (sv sc (j + 1)) < 4294967296 := sv_lt
  have b24 : (sv sc (j + 2)) < 4294967296 := sv_lt
  have b25 : (sv sc (j + 3)) < 4294967296 := sv_lt
  refine x_cIc (t := 6) (mj := 216) (n := 4) (rc := 12) (ml := 5) (cc := 0) (ss := 0) (nr := 0) (np := 523) (as := [x_r 75, iv_c (sv sc (j + 1)), iv_c (sv sc (j + 2)), iv_c (sv sc (j + 3))]) (rest := []) (lo1 := [x_r 75, iv_c (sv sc (j + 1)), iv_c (sv sc (j + 2)), iv_c (sv sc (j + 3)), 147573952589676412928]) (by decide +kernel) (by decide) (x_cbV (by decide +kernel) (by show _ ≤ 600000; omega) (by show _ ≤ 7300000; omega)) (x_rb_of (by decide +kernel)) rfl rfl (x_wr (by decide) (x_wi sv_lt (x_wi sv_lt (x_wi sv_lt x_wn)))) x_wn (by decide) rfl (c216_75 j8 (by omega) (by omega) (by omega) m16) (fun r28 h26 l29 q27 => ?_)
  obtain ⟨j30, f31, g32⟩ := q27
  have q33 : h26 1 1 = h4 1 1 := f31 1 1 (by decide +kernel)
  have q34 : h26 75 6 = h4 75 6 := f31 75 6 (by decide +kernel)
  have q35 : h26 76 1 = h4 76 1 := f31 76 1 (by decide +kernel)
  have q36 : h26 0 10 = h4 0 10 := f31 0 10 (by decide +kernel)
  have q37 : h26 75 4 = h4 75 4 := f31 75 4 (by decide +kernel)
  have m38 := WT.fr m16 j8 f31 (by decide)
  have m39 := WT.fr7 m17 j8 f31 (by decide)
  have m40 : h26 75 4 = 2147483649 → 2147483650 ≤ h26 77 0 := by
    rw [f31 75 4 (by decide +kernel), f31 77 0 (by decide +kernel)]
    exact m18
  have e42 := Se.fr e20 f31 j8 (by decide) (by decide) (by decide) (by decide) (by decide) (by decide)
  have d43 := Sd.fr d21 f31 j8 (by decide) (by decide) (by decide) (by decide) (by decide) (by decide) (by decide)
  have s44 := St.fr s22 f31 j8 (by decide) (by decide) (by decide) (by decide) (by decide) (by decide)
  have t41 := Ty.fr t19 f31 (by decide) (by decide)
  refine x_istore (np := 525) (x := 6) (lo' := [55340232221128654849, x_r 0, x_r 75, x_r 97, iv_c (2147483648 + j), iv_c r6, iv_c r28]) (by decide +kernel) l29 (Nat.le_of_ble_eq_true rfl) rfl ?_
  refine x_goto (np := 528) (x := 1404) (by decide +kernel) ?_
  exact k (c0 + 2) (s0 + 12) (iv_c r6) (iv_c r28) h26 (by omega) (by omega) ⟨⟨j30, by omega, m38, m39, m40, by omega⟩, t41, s44, d43, e42⟩
set_option maxHeartbeats 0 in
theorem lc_9 {sc : Nat × Nat} {d j c0 s0 w5 w6 : Nat} {h : xh} {Q : Nat → xh → Prop} (hs : scOK sc) (hI : INV9b h) (hj : j + 6 ≤ sc.1) (hc : c0 + 2 ≤ 600000) (hz : s0 + 12 ≤ 7300000) (k : ∀ c1 s1 v5 v6 h', c1 ≤ c0 + 2 → s1 ≤ s0 + 12 → INV9b h' → X sc 309 (d + 60) Q c1 s1 1404 [55340232221128654849, x_r 0, x_r 75, x_r 97, iv_c (2147483648 + j), v5, v6] [] h') : X sc 309 (d + 60) Q c0 s0 528 [55340232221128654849, x_r 0, x_r 75, x_r 97, iv_c (2147483648 + j), w5, w6] [] h := by
  obtain ⟨⟨hJ, hE, w76, w77, hB, hG⟩, hY, hS, hD, hG9⟩ := hI
  have h384 := hs.1
  have hS1 : tv h 1 = h 76 1 := by
    have z := hS.2.1 1 (by decide)
    rw [wx_0 (by decide)] at z
    exact z
  have hS3 := hS.2.2.1
  refine x_aload (np := 529) (x := 1) (by decide +kernel) rfl (x_nc_le (by decide)) ?_
  refine x_aloadS (np := 530) (x := 0) (by decide +kernel) rfl ?_
  refine x_iload (np := 532) (x := 4) (by decide +kernel) rfl (by omega) ?_
  refine x_const (np := 533) (x := 9223372043297226753) (a := 2147483649) (by decide +kernel) (by decide) (by decide) ?_
  refine x_iadd (np := 534) (x := 0) (v := (2147483648 + (j + 1))) (by decide +kernel) (by omega) (by decide) (by omega) (by omega) ?_
  refine x_scr (j := (j + 1)) hs (np := 535) (x := 0) (by decide +kernel) rfl (by omega) (by omega) ?_
  refine x_aload (np := 536) (x := 3) (by decide +kernel) rfl (x_nc_le (by decide)) ?_
  have b1 : (sv sc (j + 1)) < 4294967296 := sv_lt
  refine x_cIc (t := 0) (mj := 288) (n := 3) (rc := 0) (ml := 4) (cc := 1) (ss := 6) (nr := 0) (np := 539) (as := [x_r 0, iv_c (sv sc (j + 1)), x_r 97]) (rest := []) (lo1 := [x_r 0, iv_c (sv sc (j + 1)), x_r 97, 147573952589676412928]) (by decide +kernel) (by decide) (x_cbV (by decide +kernel) (by show _ ≤ 600000; omega) (by show _ ≤ 7300000; omega)) (Or.inl rfl) rfl rfl (x_wr (by decide) (x_wi sv_lt (x_wr (by decide) x_wn))) x_wn (by decide) rfl (c288_0_97 hJ (by omega)) (fun r4 h2 l5 q3 => ?_)
  obtain ⟨j6, f7, g8⟩ := q3
  have q9 : h2 1 1 = h 1 1 := f7 1 1 (by decide +kernel)
  have q10 : h2 75 6 = h 75 6 := f7 75 6 (by decide +kernel)
  have q11 : h2 76 1 = h 76 1 := f7 76 1 (by decide +kernel)
  have q12 : h2 0 10 = h 0 10 := f7 0 10 (by decide +kernel)
  have q13 : h2 75 4 = h 75 4 := f7 75 4 (by decide +kernel)
  have m14 := WT.fr w76 hJ f7 (by decide)
  have m15 := WT.fr7 w77 hJ f7 (by decide)
  have m16 : h2 75 4 = 2147483649 → 2147483650 ≤ h2 77 0 := by
    rw [f7 75 4 (by decide +kernel), f7 77 0 (by decide +kernel)]
    exact hB
  have e18 := Se.fr hG9 f7 hJ (by decide) (by decide) (by decide) (by decide) (by decide) (by decide)
  have d19 := Sd.fr hD f7 hJ (by decide) (by decide) (by decide) (by decide) (by decide) (by decide) (by decide)
  have s20 := St.fr hS f7 hJ (by decide) (by decide) (by decide) (by decide) (by decide) (by decide)
  have t17 := Ty.fr hY f7 (by decide) (by decide)
  refine x_istore (np := 541) (x := 5) (lo' := [55340232221128654849, x_r 0, x_r 75, x_r 97, iv_c (2147483648 + j), iv_c r4, w6]) (by decide +kernel) l5 (Nat.le_of_ble_eq_true rfl) rfl ?_
  refine x_aload (np := 542) (x := 2) (by decide +kernel) rfl (x_nc_le (by decide)) ?_
  refine x_aloadS (np := 543) (x := 0) (by decide +kernel) rfl ?_
  refine x_iload (np := 545) (x := 4) (by decide +kernel) rfl (by omega) ?_
  refine x_const (np := 546) (x := 9223372043297226753) (a := 2147483649) (by decide +kernel) (by decide) (by decide) ?_
  refine x_iadd (np := 547) (x := 0) (v := (2147483648 + (j + 1))) (by decide +kernel) (by omega) (by decide) (by omega) (by omega) ?_
  refine x_scr (j := (j + 1)) hs (np := 548) (x := 0) (by decide +kernel) rfl (by omega) (by omega) ?_
  have b21 : (sv sc (j + 1)) < 4294967296 := sv_lt
  refine x_cIc (t := 6) (mj := 219) (n := 2) (rc := 12) (ml := 4) (cc := 0) (ss := 0) (nr := 0) (np := 551) (as := [x_r 75, iv_c (sv sc (j + 1))]) (rest := []) (lo1 := [x_r 75, iv_c (sv sc (j + 1)), 147573952589676412928, 147573952589676412928]) (by decide +kernel) (by decide) (x_cbV (by decide +kernel) (by show _ ≤ 600000; omega) (by show _ ≤ 7300000; omega)) (x_rb_of (by decide +kernel)) rfl rfl (x_wr (by decide) (x_wi sv_lt x_wn)) x_wn (by decide) rfl (c219_75 j6 (by omega) m14) (fun r24 h22 l25 q23 => ?_)
  obtain ⟨j26, f27, g28⟩ := q23
  have q29 : h22 1 1 = h2 1 1 := f27 1 1 (by decide +kernel)
  have q30 : h22 75 6 = h2 75 6 := f27 75 6 (by decide +kernel)
  have q31 : h22 76 1 = h2 76 1 := f27 76 1 (by decide +kernel)
  have q32 : h22 0 10 = h2 0 10 := f27 0 10 (by decide +kernel)
  have q33 : h22 75 4 = h2 75 4 := f27 75 4 (by decide +kernel)
  have m34 := WT.fr m14 j6 f27 (by decide)
  have m35 := WT.fr7 m15 j6 f27 (by decide)
  have m36 : h22 75 4 = 2147483649 → 2147483650 ≤ h22 77 0 := by
    rw [f27 75 4 (by decide +kernel), f27 77 0 (by decide +kernel)]
    exact m16
  have e38 := Se.fr e18 f27 j6 (by decide) (by decide) (by decide) (by decide) (by decide) (by decide)
  have d39 := Sd.fr d19 f27 j6 (by decide) (by decide) (by decide) (by decide) (by decide) (by decide) (by decide)
  have s40 := St.fr s20 f27 j6 (by decide) (by decide) (by decide) (by decide) (by decide) (by decide)
  have t37 := Ty.fr t17 f27 (by decide) (by decide)
  refine x_istore (np := 553) (x := 6) (lo' := [55340232221128654849, x_r 0, x_r 75, x_r 97, iv_c (2147483648 + j), iv_c r4, iv_c r24]) (by decide +kernel) l25 (Nat.le_of_ble_eq_true rfl) rfl ?_
  refine x_goto (np := 556) (x := 1404) (by decide +kernel) ?_
  exact k (c0 + 1) (s0 + 6) (iv_c r4) (iv_c r24) h22 (by omega) (by omega) ⟨⟨j26, by omega, m34, m35, m36, by omega⟩, t37, s40, d39, e38⟩
set_option maxHeartbeats 0 in
theorem lc_10 {sc : Nat × Nat} {d j c0 s0 w5 w6 : Nat} {h : xh} {Q : Nat → xh → Prop} (hs : scOK sc) (hI : INV9b h) (hj : j + 6 ≤ sc.1) (hc : c0 + 2 ≤ 600000) (hz : s0 + 12 ≤ 7300000) (k : ∀ c1 s1 v5 v6 h', c1 ≤ c0 + 2 → s1 ≤ s0 + 12 → INV9b h' → X sc 309 (d + 60) Q c1 s1 1404 [55340232221128654849, x_r 0, x_r 75, x_r 97, iv_c (2147483648 + j), v5, v6] [] h') : X sc 309 (d + 60) Q c0 s0 556 [55340232221128654849, x_r 0, x_r 75, x_r 97, iv_c (2147483648 + j), w5, w6] [] h := by
  obtain ⟨⟨hJ, hE, w76, w77, hB, hG⟩, hY, hS, hD, hG9⟩ := hI
  have h384 := hs.1
  have hS1 : tv h 1 = h 76 1 := by
    have z := hS.2.1 1 (by decide)
    rw [wx_0 (by decide)] at z
    exact z
  have hS3 := hS.2.2.1
  refine x_aload (np := 557) (x := 1) (by decide +kernel) rfl (x_nc_le (by decide)) ?_
  refine x_aloadS (np := 558) (x := 0) (by decide +kernel) rfl ?_
  refine x_iload (np := 560) (x := 4) (by decide +kernel) rfl (by omega) ?_
  refine x_const (np := 561) (x := 9223372043297226753) (a := 2147483649) (by decide +kernel) (by decide) (by decide) ?_
  refine x_iadd (np := 562) (x := 0) (v := (2147483648 + (j + 1))) (by decide +kernel) (by omega) (by decide) (by omega) (by omega) ?_
  refine x_scr (j := (j + 1)) hs (np := 563) (x := 0) (by decide +kernel) rfl (by omega) (by omega) ?_
  refine x_aload (np := 564) (x := 3) (by decide +kernel) rfl (x_nc_le (by decide)) ?_
  have b1 : (sv sc (j + 1)) < 4294967296 := sv_lt
  refine x_cIc (t := 0) (mj := 289) (n := 3) (rc := 0) (ml := 4) (cc := 1) (ss := 6) (nr := 0) (np := 567) (as := [x_r 0, iv_c (sv sc (j + 1)), x_r 97]) (rest := []) (lo1 := [x_r 0, iv_c (sv sc (j + 1)), x_r 97, 147573952589676412928]) (by decide +kernel) (by decide) (x_cbV (by decide +kernel) (by show _ ≤ 600000; omega) (by show _ ≤ 7300000; omega)) (Or.inl rfl) rfl rfl (x_wr (by decide) (x_wi sv_lt (x_wr (by decide) x_wn))) x_wn (by decide) rfl (c289_0_97 hJ (by omega)) (fun r4 h2 l5 q3 => ?_)
  obtain ⟨j6, f7, g8⟩ := q3
  have q9 : h2 1 1 = h 1 1 := f7 1 1 (by decide +kernel)
  have q10 : h2 75 6 = h 75 6 := f7 75 6 (by decide +kernel)
  have q11 : h2 76 1 = h 76 1 := f7 76 1 (by decide +kernel)
  have q12 : h2 0 10 = h 0 10 := f7 0 10 (by decide +kernel)
  have q13 : h2 75 4 = h 75 4 := f7 75 4 (by decide +kernel)
  have m14 := WT.fr w76 hJ f7 (by decide)
  have m15 := WT.fr7 w77 hJ f7 (by decide)
  have m16 : h2 75 4 = 2147483649 → 2147483650 ≤ h2 77 0 := by
    rw [f7 75 4 (by decide +kernel), f7 77 0 (by decide +kernel)]
    exact hB
  have e18 := Se.fr hG9 f7 hJ (by decide) (by decide) (by decide) (by decide) (by decide) (by decide)
  have d19 := Sd.fr hD f7 hJ (by decide) (by decide) (by decide) (by decide) (by decide) (by decide) (by decide)
  have s20 := St.fr hS f7 hJ (by decide) (by decide) (by decide) (by decide) (by decide) (by decide)
  have t17 := Ty.fr hY f7 (by decide) (by decide)
  refine x_istore (np := 569) (x := 5) (lo' := [55340232221128654849, x_r 0, x_r 75, x_r 97, iv_c (2147483648 + j), iv_c r4, w6]) (by decide +kernel) l5 (Nat.le_of_ble_eq_true rfl) rfl ?_
  refine x_aload (np := 570) (x := 2) (by decide +kernel) rfl (x_nc_le (by decide)) ?_
  refine x_aloadS (np := 571) (x := 0) (by decide +kernel) rfl ?_
  refine x_iload (np := 573) (x := 4) (by decide +kernel) rfl (by omega) ?_
  refine x_const (np := 574) (x := 9223372043297226753) (a := 2147483649) (by decide +kernel) (by decide) (by decide) ?_
  refine x_iadd (np := 575) (x := 0) (v := (2147483648 + (j + 1))) (by decide +kernel) (by omega) (by decide) (by omega) (by omega) ?_
  refine x_scr (j := (j + 1)) hs (np := 576) (x := 0) (by decide +kernel) rfl (by omega) (by omega) ?_
  have b21 : (sv sc (j + 1)) < 4294967296 := sv_lt
  refine x_cIc (t := 6) (mj := 220) (n := 2) (rc := 12) (ml := 5) (cc := 0) (ss := 0) (nr := 0) (np := 579) (as := [x_r 75, iv_c (sv sc (j + 1))]) (rest := []) (lo1 := [x_r 75, iv_c (sv sc (j + 1)), 147573952589676412928, 147573952589676412928, 147573952589676412928]) (by decide +kernel) (by decide) (x_cbV (by decide +kernel) (by show _ ≤ 600000; omega) (by show _ ≤ 7300000; omega)) (x_rb_of (by decide +kernel)) rfl rfl (x_wr (by decide) (x_wi sv_lt x_wn)) x_wn (by decide) rfl (c220_75 j6 (by omega) m14) (fun r24 h22 l25 q23 => ?_)
  obtain ⟨j26, f27, g28⟩ := q23
  have q29 : h22 1 1 = h2 1 1 := f27 1 1 (by decide +kernel)
  have q30 : h22 75 6 = h2 75 6 := f27 75 6 (by decide +kernel)
  have q31 : h22 76 1 = h2 76 1 := f27 76 1 (by decide +kernel)
  have q32 : h22 0 10 = h2 0 10 := f27 0 10 (by decide +kernel)
  have q33 : h22 75 4 = h2 75 4 := f27 75 4 (by decide +kernel)
  have m34 := WT.fr m14 j6 f27 (by decide)
  have m35 := WT.fr7 m15 j6 f27 (by decide)
  have m36 : h22 75 4 = 2147483649 → 2147483650 ≤ h22 77 0 := by
    rw [f27 75 4 (by decide +kernel), f27 77 0 (by decide +kernel)]
    exact m16
  have e38 := Se.fr e18 f27 j6 (by decide) (by decide) (by decide) (by decide) (by decide) (by decide)
  have d39 := Sd.fr d19 f27 j6 (by decide) (by decide) (by decide) (by decide) (by decide) (by decide) (by decide)
  have s40 := St.fr s20 f27 j6 (by decide) (by decide) (by decide) (by decide) (by decide) (by decide)
  have t37 := Ty.fr t17 f27 (by decide) (by decide)
  refine x_istore (np := 581) (x := 6) (lo' := [55340232221128654849, x_r 0, x_r 75, x_r 97, iv_c (2147483648 + j), iv_c r4, iv_c r24]) (by decide +kernel) l25 (Nat.le_of_ble_eq_true rfl) rfl ?_
  refine x_goto (np := 584) (x := 1404) (by decide +kernel) ?_
  exact k (c0 + 1) (s0 + 6) (iv_c r4) (iv_c r24) h22 (by omega) (by omega) ⟨⟨j26, by omega, m34, m35, m36, by omega⟩, t37, s40, d39, e38⟩
set_option maxHeartbeats 0 in
theorem lc_11 {sc : Nat × Nat} {d j c0 s0 w5 w6 : Nat} {h : xh} {Q : Nat → xh → Prop} (hs : scOK sc) (hI : INV9b h) (hj : j + 6 ≤ sc.1) (hc : c0 + 2 ≤ 600000) (hz : s0 + 12 ≤ 7300000) (k : ∀ c1 s1 v5 v6 h', c1 ≤ c0 + 2 → s1 ≤ s0 + 12 → INV9b h' → X sc 309 (d + 60) Q c1 s1 1404 [55340232221128654849, x_r 0, x_r 75, x_r 97, iv_c (2147483648 + j), v5, v6] [] h') : X sc 309 (d + 60) Q c0 s0 584 [55340232221128654849, x_r 0, x_r 75, x_r 97, iv_c (2147483648 + j), w5, w6] [] h := by
  obtain ⟨⟨hJ, hE, w76, w77, hB, hG⟩, hY, hS, hD, hG9⟩ := hI
  have h384 := hs.1
  have hS1 : tv h 1 = h 76 1 := by
    have z := hS.2.1 1 (by decide)
    rw [wx_0 (by decide)] at z
    exact z
  have hS3 := hS.2.2.1
  refine x_aload (np := 585) (x := 1) (by decide +kernel) rfl (x_nc_le (by decide)) ?_
  refine x_aloadS (np := 586) (x := 0) (by decide +kernel) rfl ?_
  refine x_iload (np := 588) (x := 4) (by decide +kernel) rfl (by omega) ?_
  refine x_const (np := 589) (x := 9223372043297226753) (a := 2147483649) (by decide +kernel) (by decide) (by decide) ?_
  refine x_iadd (np := 590) (x := 0) (v := (2147483648 + (j + 1))) (by decide +kernel) (by omega) (by decide) (by omega) (by omega) ?_
  refine x_scr (j := (j + 1)) hs (np := 591) (x := 0) (by decide +kernel) rfl (by omega) (by omega) ?_
  refine x_aloadS (np := 592) (x := 0) (by decide +kernel) rfl ?_
  refine x_iload (np := 594) (x := 4) (by decide +kernel) rfl (by omega) ?_
  refine x_const (np := 595) (x := 9223372047592194050) (a := 2147483650) (by decide +kernel) (by decide) (by decide) ?_
  refine x_iadd (np := 596) (x := 0) (v := (2147483648 + (j + 2))) (by decide +kernel) (by omega) (by decide) (by omega) (by omega) ?_
  refine x_scr (j := (j + 2)) hs (np := 597) (x := 0) (by decide +kernel) rfl (by omega) (by omega) ?_
  refine x_aload (np := 598) (x := 3) (by decide +kernel) rfl (x_nc_le (by decide)) ?_
  have b1 : (sv sc (j + 1)) < 4294967296 := sv_lt
  have b2 : (sv sc (j + 2)) < 4294967296 := sv_lt
  refine x_cIc (t := 0) (mj := 290) (n := 4) (rc := 0) (ml := 5) (cc := 2) (ss := 12) (nr := 0) (np := 601) (as := [x_r 0, iv_c (sv sc (j + 1)), iv_c (sv sc (j + 2)), x_r 97]) (rest := []) (lo1 := [x_r 0, iv_c (sv sc (j + 1)), iv_c (sv sc (j + 2)), x_r 97, 147573952589676412928]) (by decide +kernel) (by decide) (x_cbV (by decide +kernel) (by show _ ≤ 600000; omega) (by show _ ≤ 7300000; omega)) (Or.inl rfl) rfl rfl (x_wr (by decide) (x_wi sv_lt (x_wi sv_lt (x_wr (by decide) x_wn)))) x_wn (by decide) rfl (c290_0_97 hJ (by omega) (by omega)) (fun r5 h3 l6 q4 => ?_)
  obtain ⟨j7, f8, g9, g10⟩ := q4
  have q11 : h3 1 1 = h 1 1 := f8 1 1 (by decide +kernel)
  have q12 : h3 75 6 = h 75 6 := f8 75 6 (by decide +kernel)
  have q13 : h3 76 1 = h 76 1 := f8 76 1 (by decide +kernel)
  have q14 : h3 0 10 = h 0 10 := f8 0 10 (by decide +kernel)
  have q15 : h3 75 4 = h 75 4 := f8 75 4 (by decide +kernel)
  have m16 := WT.fr w76 hJ f8 (by decide)
  have m17 := WT.fr7 w77 hJ f8 (by decide)
  have m18 : h3 75 4 = 2147483649 → 2147483650 ≤ h3 77 0 := by
    rw [f8 75 4 (by decide +kernel), f8 77 0 (by decide +kernel)]
    exact hB
  have e20 := Se.fr hG9 f8 hJ (by decide) (by decide) (by decide) (by decide) (by decide) (by decide)
  have d21 := Sd.fr hD f8 hJ (by decide) (by decide) (by decide) (by decide) (by decide) (by decide) (by decide)
  have s22 := St.fr hS f8 hJ (by decide) (by decide) (by decide) (by decide) (by decide) (by decide)
  have t19 := Ty.fr hY f8 (by decide) (by decide)
  refine x_istore (np := 603) (x := 5) (lo' := [55340232221128654849, x_r 0, x_r 75, x_r 97, iv_c (2147483648 + j), iv_c r5, w6]) (by decide +kernel) l6 (Nat.le_of_ble_eq_true rfl) rfl ?_
  refine x_aload (np := 604) (x := 2) (by decide +kernel) rfl (x_nc_le (by decide)) ?_
  refine x_aloadS (np := 605) (x := 0) (by decide +kernel) rfl ?_
  refine x_iload (np := 607) (x := 4) (by decide +kernel) rfl (by omega) ?_
  refine x_const (np := 608) (x := 9223372043297226753) (a := 2147483649) (by decide +kernel) (by decide) (by decide) ?_
  refine x_iadd (np := 609) (x := 0) (v := (2147483648 + (j + 1))) (by decide +kernel) (by omega) (by decide) (by omega) (by omega) ?_
  refine x_scr (j := (j + 1)) hs (np := 610) (x := 0) (by decide +kernel) rfl (by omega) (by omega) ?_
  refine x_aloadS (np := 611) (x := 0) (by decide +kernel) rfl ?_
  refine x_iload (np := 613) (x := 4) (by decide +kernel) rfl (by omega) ?_
  refine x_const (np := 614) (x := 9223372047592194050) (a := 2147483650) (by decide +kernel) (by decide) (by decide) ?_
  refine x_iadd (np := 615) (x := 0) (v := (2147483648 + (j + 2))) (by decide +kernel) (by omega) (by decide) (by omega) (by omega) ?_
  refine x_scr (j := (j + 2)) hs (np := 616) (x := 0) (by decide +kernel) rfl (by omega) (by omega) ?_
  have b23 : (sv sc (j + 1)) < 4294967296 := sv_lt
  have b24 : (sv sc (j + 2)) < 4294967296 := sv_lt
  refine x_cIc (t := 6) (mj := 221) (n := 3) (rc := 12) (ml := 3) (cc := 0) (ss := 0) (nr := 0) (np := 619) (as := [x_r 75, iv_c (sv sc (j + 1)), iv_c (sv sc (j + 2))]) (rest := []) (lo1 := [x_r 75, iv_c (sv sc (j + 1)), iv_c (sv sc (j + 2))]) (by decide +kernel) (by decide) (x_cbV (by decide +kernel) (by show _ ≤ 600000; omega) (by show _ ≤ 7300000; omega)) (x_rb_of (by decide +kernel)) rfl rfl (x_wr (by decide) (x_wi sv_lt (x_wi sv_lt x_wn))) x_wn (by decide) rfl (c221_75 j7 (by omega) (by omega)) (fun r27 h25 l28 q26 => ?_)
  obtain ⟨j29, f30, g31, g32⟩ := q26
  have q33 : h25 1 1 = h3 1 1 := f30 1 1 (by decide +kernel)
  have q34 : h25 75 6 = h3 75 6 := f30 75 6 (by decide +kernel)
  have q35 : h25 76 1 = h3 76 1 := f30 76 1 (by decide +kernel)
  have q36 : h25 0 10 = h3 0 10 := f30 0 10 (by decide +kernel)
  have q37 : h25 75 4 = h3 75 4 := f30 75 4 (by decide +kernel)
  have m38 := WT.fr m16 j7 f30 (by decide)
  have m39 := WT.fr7 m17 j7 f30 (by decide)
  have m40 : h25 75 4 = 2147483649 → 2147483650 ≤ h25 77 0 := by
    rw [f30 75 4 (by decide +kernel), f30 77 0 (by decide +kernel)]
    exact m18
  have e42 := Se.fr e20 f30 j7 (by decide) (by decide) (by decide) (by decide) (by decide) (by decide)
  have q44 : h25 97 0 = h3 97 0 := f30 97 0 (by decide +kernel)
  obtain ⟨al1, al2⟩ := lv_alike hS hD g10 g32 hJ f8 (by decide) q44
  have d43 := Sd.fr d21 f30 j7 (by decide) (by decide) (by decide) (by decide) (by decide) (by decide) (by decide)
  have s45 := St.fr s22 f30 j7 (by decide) (by decide) (by decide) (by decide) (by decide) (by decide)
  have t41 := Ty.fr t19 f30 (by decide) (by decide)
  refine x_istore (np := 621) (x := 6) (lo' := [55340232221128654849, x_r 0, x_r 75, x_r 97, iv_c (2147483648 + j), iv_c r5, iv_c r27]) (by decide +kernel) l28 (Nat.le_of_ble_eq_true rfl) rfl ?_
  refine x_aload (np := 622) (x := 2) (by decide +kernel) rfl (x_nc_le (by decide)) ?_
  refine x_cIc (t := 6) (mj := 318) (n := 1) (rc := 12) (ml := 1) (cc := 0) (ss := 0) (nr := 0) (np := 625) (as := [x_r 75]) (rest := []) (lo1 := [x_r 75]) (by decide +kernel) (by decide) (x_cbV (by decide +kernel) (by show _ ≤ 600000; omega) (by show _ ≤ 7300000; omega)) (x_rb_of (by decide +kernel)) rfl rfl (x_wr (by decide) x_wn) x_wn (by decide) rfl (c318_75 j29) (fun r48 h46 l49 q47 => ?_)
  obtain ⟨q50, b51⟩ := q47
  rw [q50]
  refine x_iload (np := 627) (x := 5) (by decide +kernel) rfl l6 ?_
  refine x_icmp (k := 0) (tg := 632) (np := 630) (by decide +kernel) (by decide) l49 l6 (fun q52 => ?_) (fun q52 => ?_)
  · skip
    refine x_iload (np := 634) (x := 5) (by decide +kernel) rfl l6 ?_
    refine x_ifz (k := 1) (tg := 656) (np := 637) (by decide +kernel) (by decide) l6 (fun q53 => ?_) (fun q53 => ?_)
    · skip
      refine x_goto (np := 659) (x := 1404) (by decide +kernel) ?_
      exact k (c0 + 2) (s0 + 12) (iv_c r5) (iv_c r27) h25 (by omega) (by omega) ⟨⟨j29, by omega, m38, m39, m40, by omega⟩, t41, s45, d43, e42⟩
    have q53 : ¬ (r5 ≠ 2147483648) := q53
    have al3 := al2 (by omega)
    refine x_aload (np := 638) (x := 3) (by decide +kernel) rfl (x_nc_le (by decide)) ?_
    refine x_const (np := 639) (x := 9223372039002259456) (a := 2147483648) (by decide +kernel) (by decide) (by decide) ?_
    refine x_lald (i := 0) (n := 1) (q := h25 97 0) (np := 640) (x := 0) (by decide +kernel) (by decide) (by decide +kernel) (by decide +kernel) (by decide) (by decide) (by decide) rfl (fun l54 => ?_)
    refine x_iload (np := 642) (x := 6) (by decide +kernel) rfl l28 ?_
    refine x_ifz (k := 0) (tg := 649) (np := 645) (by decide +kernel) (by decide) l28 (fun q55 => ?_) (fun q55 => ?_)
    · skip
      have q55 : r27 = 2147483648 := q55
      refine x_lconst (np := 650) (x := 0) (by decide +kernel) (by decide) ?_
      show X _ _ _ _ _ _ _ _ ((73786976294838206464 + iv_c 2147483648) :: _) _
      refine x_lcmp (np := 651) (x := 0) (by decide +kernel) l54 (by decide) (fun q56 => ?_) (fun q56 => absurd (show (h25 97 0) = 2147483648 by omega) q56)
      refine x_ifz (k := 0) (tg := 656) (np := 654) (by decide +kernel) (by decide) (by decide) (fun _ => ?_) (fun q => absurd rfl q)
      refine x_goto (np := 659) (x := 1404) (by decide +kernel) ?_
      exact k (c0 + 2) (s0 + 12) (iv_c r5) (iv_c r27) h25 (by omega) (by omega) ⟨⟨j29, by omega, m38, m39, m40, by omega⟩, t41, s45, d43, e42⟩
    have q55 : ¬ (r27 = 2147483648) := q55
    refine x_lconst (np := 646) (x := 1) (by decide +kernel) (by decide) ?_
    show X _ _ _ _ _ _ _ _ ((73786976294838206464 + iv_c 2147483649) :: _) _
    refine x_goto (np := 649) (x := 650) (by decide +kernel) ?_
    refine x_lcmp (np := 651) (x := 0) (by decide +kernel) l54 (by decide) (fun q57 => ?_) (fun q57 => absurd (show (h25 97 0) = 2147483649 by omega) q57)
    refine x_ifz (k := 0) (tg := 656) (np := 654) (by decide +kernel) (by decide) (by decide) (fun _ => ?_) (fun q => absurd rfl q)
    refine x_goto (np := 659) (x := 1404) (by decide +kernel) ?_
    exact k (c0 + 2) (s0 + 12) (iv_c r5) (iv_c r27) h25 (by omega) (by omega) ⟨⟨j29, by omega, m38, m39, m40, by omega⟩, t41, s45, d43, e42⟩
  exact absurd (show r48 = r5 by omega) q52
set_option maxHeartbeats 0 in
theorem lc_12 {sc : Nat × Nat} {d j c0 s0 w5 w6 : Nat} {h : xh} {Q : Nat → xh → Prop} (hs : scOK sc) (hI : INV9b h) (hj : j + 6 ≤ sc.1) (hc : c0 + 2 ≤ 600000) (hz : s0 + 12 ≤ 7300000) (k : ∀ c1 s1 v5 v6 h', c1 ≤ c0 + 2 → s1 ≤ s0 + 12 → INV9b h' → X sc 309 (d + 60) Q c1 s1 1404 [55340232221128654849, x_r 0, x_r 75, x_r 97, iv_c (2147483648 + j), v5, v6] [] h') : X sc 309 (d + 60) Q c0 s0 659 [55340232221128654849, x_r 0, x_r 75, x_r 97, iv_c (2147483648 + j), w5, w6] [] h := by
  obtain ⟨⟨hJ, hE, w76, w77, hB, hG⟩, hY, hS, hD, hG9⟩ := hI
  have h384 := hs.1
  have hS1 : tv h 1 = h 76 1 := by
    have z := hS.2.1 1 (by decide)
    rw [wx_0 (by decide)] at z
    exact z
  have hS3 := hS.2.2.1
  refine x_aload (np := 660) (x := 1) (by decide +kernel) rfl (x_nc_le (by decide)) ?_
  refine x_aloadS (np := 661) (x := 0) (by decide +kernel) rfl ?_
  refine x_iload (np := 663) (x := 4) (by decide +kernel) rfl (by omega) ?_
  refine x_const (np := 664) (x := 9223372043297226753) (a := 2147483649) (by decide +kernel) (by decide) (by decide) ?_
  refine x_iadd (np := 665) (x := 0) (v := (2147483648 + (j + 1))) (by decide +kernel) (by omega) (by decide) (by omega) (by omega) ?_
  refine x_scr (j := (j + 1)) hs (np := 666) (x := 0) (by decide +kernel) rfl (by omega) (by omega) ?_
  refine x_aloadS (np := 667) (x := 0) (by decide +kernel) rfl ?_
  refine x_iload (np := 669) (x := 4) (by decide +kernel) rfl (by omega) ?_
  refine x_const (np := 670) (x := 9223372047592194050) (a := 2147483650) (by decide +kernel) (by decide) (by decide) ?_
  refine x_iadd (np := 671) (x := 0) (v := (2147483648 + (j + 2))) (by decide +kernel) (by omega) (by decide) (by omega) (by omega) ?_
  refine x_scr (j := (j + 2)) hs (np := 672) (x := 0) (by decide +kernel) rfl (by omega) (by omega) ?_
  refine x_aload (np := 673) (x := 3) (by decide +kernel) rfl (x_nc_le (by decide)) ?_
  have b1 : (sv sc (j + 1)) < 4294967296 := sv_lt
  have b2 : (sv sc (j + 2)) < 4294967296 := sv_lt
  refine x_cIc (t := 0) (mj := 291) (n := 4) (rc := 0) (ml := 5) (cc := 2) (ss := 12) (nr := 0) (np := 676) (as := [x_r 0, iv_c (sv sc (j + 1)), iv_c (sv sc (j + 2)), x_r 97]) (rest := []) (lo1 := [x_r 0, iv_c (sv sc (j + 1)), iv_c (sv sc (j + 2)), x_r 97, 147573952589676412928]) (by decide +kernel) (by decide) (x_cbV (by decide +kernel) (by show _ ≤ 600000; omega) (by show _ ≤ 7300000; omega)) (Or.inl rfl) rfl rfl (x_wr (by decide) (x_wi sv_lt (x_wi sv_lt (x_wr (by decide) x_wn)))) x_wn (by decide) rfl (c291_0_97 hJ (by omega) (by omega)) (fun r5 h3 l6 q4 => ?_)
  obtain ⟨j7, f8, g9⟩ := q4
  have q10 : h3 1 1 = h 1 1 := f8 1 1 (by decide +kernel)
  have q11 : h3 75 6 = h 75 6 := f8 75 6 (by decide +kernel)
  have q12 : h3 76 1 = h 76 1 := f8 76 1 (by decide +kernel)
  have q13 : h3 0 10 = h 0 10 := f8 0 10 (by decide +kernel)
  have q14 : h3 75 4 = h 75 4 := f8 75 4 (by decide +kernel)
  have m15 := WT.fr w76 hJ f8 (by decide)
  have m16 := WT.fr7 w77 hJ f8 (by decide)
  have m17 : h3 75 4 = 2147483649 → 2147483650 ≤ h3 77 0 := by
    rw [f8 75 4 (by decide +kernel), f8 77 0 (by decide +kernel)]
    exact hB
  have e19 := Se.fr hG9 f8 hJ (by decide) (by decide) (by decide) (by decide) (by decide) (by decide)
  have d20 := Sd.fr hD f8 hJ (by decide) (by decide) (by decide) (by decide) (by decide) (by decide) (by decide)
  have s21 := St.fr hS f8 hJ (by decide) (by decide) (by decide) (by decide) (by decide) (by decide)
  have t18 := Ty.fr hY f8 (by decide) (by decide)
  refine x_istore (np := 678) (x := 5) (lo' := [55340232221128654849, x_r 0, x_r 75, x_r 97, iv_c (2147483648 + j), iv_c r5, w6]) (by decide +kernel) l6 (Nat.le_of_ble_eq_true rfl) rfl ?_
  refine x_aload (np := 679) (x := 2) (by decide +kernel) rfl (x_nc_le (by decide)) ?_
  refine x_aloadS (np := 680) (x := 0) (by decide +kernel) rfl ?_
  refine x_iload (np := 682) (x := 4) (by decide +kernel) rfl (by omega) ?_
  refine x_const (np := 683) (x := 9223372043297226753) (a := 2147483649) (by decide +kernel) (by decide) (by decide) ?_
  refine x_iadd (np := 684) (x := 0) (v := (2147483648 + (j + 1))) (by decide +kernel) (by omega) (by decide) (by omega) (by omega) ?_
  refine x_scr (j := (j + 1)) hs (np := 685) (x := 0) (by decide +kernel) rfl (by omega) (by omega) ?_
  refine x_aloadS (np := 686) (x := 0) (by decide +kernel) rfl ?_
  refine x_iload (np := 688) (x := 4) (by decide +kernel) rfl (by omega) ?_
  refine x_const (np := 689) (x := 9223372047592194050) (a := 2147483650) (by decide +kernel) (by decide) (by decide) ?_
  refine x_iadd (np := 690) (x := 0) (v := (2147483648 + (j + 2))) (by decide +kernel) (by omega) (by decide) (by omega) (by omega) ?_
  refine x_scr (j := (j + 2)) hs (np := 691) (x := 0) (by decide +kernel) rfl (by omega) (by omega) ?_
  have b22 : (sv sc (j + 1)) < 4294967296 := sv_lt
  have b23 : (sv sc (j + 2)) < 4294967296 := sv_lt
  refine x_cIc (t := 6) (mj := 223) (n := 3) (rc := 12) (ml := 3) (cc := 0) (ss := 0) (nr := 0) (np := 694) (as := [x_r 75, iv_c (sv sc (j + 1)), iv_c (sv sc (j + 2))]) (rest := []) (lo1 := [x_r 75, iv_c (sv sc (j + 1)), iv_c (sv sc (j + 2))]) (by decide +kernel) (by decide) (x_cbV (by decide +kernel) (by show _ ≤ 600000; omega) (by show _ ≤ 7300000; omega)) (x_rb_of (by decide +kernel)) rfl rfl (x_wr (by decide) (x_wi sv_lt (x_wi sv_lt x_wn))) x_wn (by decide) rfl (c223_75 j7 (by omega) (by omega) m15) (fun r26 h24 l27 q25 => ?_)
  obtain ⟨j28, f29, g30⟩ := q25
  have q31 : h24 1 1 = h3 1 1 := f29 1 1 (by decide +kernel)
  have q32 : h24 75 6 = h3 75 6 := f29 75 6 (by decide +kernel)
  have q33 : h24 76 1 = h3 76 1 := f29 76 1 (by decide +kernel)
  have q34 : h24 0 10 = h3 0 10 := f29 0 10 (by decide +kernel)
  have q35 : h24 75 4 = h3 75 4 := f29 75 4 (by decide +kernel)
  have m36 := WT.fr m15 j7 f29 (by decide)
  have m37 := WT.fr7 m16 j7 f29 (by decide)
  have m38 : h24 75 4 = 2147483649 → 2147483650 ≤ h24 77 0 := by
    rw [f29 75 4 (by decide +kernel), f29 77 0 (by decide +kernel)]
    exact m17
  have e40 := Se.fr e19 f29 j7 (by decide) (by decide) (by decide) (by decide) (by decide) (by decide)
  have d41 := Sd.fr d20 f29 j7 (by decide) (by decide) (by decide) (by decide) (by decide) (by decide) (by decide)
  have s42 := St.fr s21 f29 j7 (by decide) (by decide) (by decide) (by decide) (by decide) (by decide)
  have t39 := Ty.fr t18 f29 (by decide) (by decide)
  refine x_istore (np := 696) (x := 6) (lo' := [55340232221128654849, x_r 0, x_r 75, x_r 97, iv_c (2147483648 + j), iv_c r5, iv_c r26]) (by decide +kernel) l27 (Nat.le_of_ble_eq_true rfl) rfl ?_
  refine x_goto (np := 699) (x := 1404) (by decide +kernel) ?_
  exact k (c0 + 2) (s0 + 12) (iv_c r5) (iv_c r26) h24 (by omega) (by omega) ⟨⟨j28, by omega, m36, m37, m38, by omega⟩, t39, s42, d41, e40⟩
set_option maxHeartbeats 0 in
theorem lc_13 {sc : Nat × Nat} {d j c0 s0 w5 w6 : Nat} {h : xh} {Q : Nat → xh → Prop} (hs : scOK sc) (hI : INV9b h) (hj : j + 6 ≤ sc.1) (hc : c0 + 2 ≤ 600000) (hz : s0 + 12 ≤ 7300000) (k : ∀ c1 s1 v5 v6 h', c1 ≤ c0 + 2 → s1 ≤ s0 + 12 → INV9b h' → X sc 309 (d + 60) Q c1 s1 1404 [55340232221128654849, x_r 0, x_r 75, x_r 97, iv_c (2147483648 + j), v5, v6] [] h') : X sc 309 (d + 60) Q c0 s0 699 [55340232221128654849, x_r 0, x_r 75, x_r 97, iv_c (2147483648 + j), w5, w6] [] h := by
  obtain ⟨⟨hJ, hE, w76, w77, hB, hG⟩, hY, hS, hD, hG9⟩ := hI
  have h384 := hs.1
  have hS1 : tv h 1 = h 76 1 := by
    have z := hS.2.1 1 (by decide)
    rw [wx_0 (by decide)] at z
    exact z
  have hS3 := hS.2.2.1
  refine x_aload (np := 700) (x := 1) (by decide +kernel) rfl (x_nc_le (by decide)) ?_
  refine x_aloadS (np := 701) (x := 0) (by decide +kernel) rfl ?_
  refine x_iload (np := 703) (x := 4) (by decide +kernel) rfl (by omega) ?_
  refine x_const (np := 704) (x := 9223372043297226753) (a := 2147483649) (by decide +kernel) (by decide) (by decide) ?_
  refine x_iadd (np := 705) (x := 0) (v := (2147483648 + (j + 1))) (by decide +kernel) (by omega) (by decide) (by omega) (by omega) ?_
  refine x_scr (j := (j + 1)) hs (np := 706) (x := 0) (by decide +kernel) rfl (by omega) (by omega) ?_
  refine x_aloadS (np := 707) (x := 0) (by decide +kernel) rfl ?_
  refine x_iload (np := 709) (x := 4) (by decide +kernel) rfl (by omega) ?_
  refine x_const (np := 710) (x := 9223372047592194050) (a := 2147483650) (by decide +kernel) (by decide) (by decide) ?_
  refine x_iadd (np := 711) (x := 0) (v := (2147483648 + (j + 2))) (by decide +kernel) (by omega) (by decide) (by omega) (by omega) ?_
  refine x_scr (j := (j + 2)) hs (np := 712) (x := 0) (by decide +kernel) rfl (by omega) (by omega) ?_
  refine x_ifz (k := 0) (tg := 719) (np := 715) (by decide +kernel) (by decide) sv_lt (fun q1 => ?_) (fun q1 => ?_)
  · skip
    have q1 : (sv sc (j + 2)) = 2147483648 := q1
    refine x_const (np := 720) (x := 9223372039002259456) (a := 2147483648) (by decide +kernel) (by decide) (by decide) ?_
    refine x_aload (np := 721) (x := 3) (by decide +kernel) rfl (x_nc_le (by decide)) ?_
    have b2 : (sv sc (j + 1)) < 4294967296 := sv_lt
    refine x_cIc (t := 0) (mj := 292) (n := 4) (rc := 0) (ml := 5) (cc := 1) (ss := 6) (nr := 0) (np := 724) (as := [x_r 0, iv_c (sv sc (j + 1)), iv_c 2147483648, x_r 97]) (rest := []) (lo1 := [x_r 0, iv_c (sv sc (j + 1)), iv_c 2147483648, x_r 97, 147573952589676412928]) (by decide +kernel) (by decide) (x_cbV (by decide +kernel) (by show _ ≤ 600000; omega) (by show _ ≤ 7300000; omega)) (Or.inl rfl) rfl rfl (x_wr (by decide) (x_wi sv_lt (x_wi (by decide) (x_wr (by decide) x_wn)))) x_wn (by decide) rfl (c292_0_97 hJ (by omega) (by omega)) (fun r5 h3 l6 q4 => ?_)
    obtain ⟨j7, f8, g9⟩ := q4
    have q10 : h3 1 1 = h 1 1 := f8 1 1 (by decide +kernel)
    have q11 : h3 75 6 = h 75 6 := f8 75 6 (by decide +kernel)
    have q12 : h3 76 1 = h 76 1 := f8 76 1 (by decide +kernel)
    have q13 : h3 0 10 = h 0 10 := f8 0 10 (by decide +kernel)
    have q14 : h3 75 4 = h 75 4 := f8 75 4 (by decide +kernel)
    have m15 := WT.fr w76 hJ f8 (by decide)
    have m16 := WT.fr7 w77 hJ f8 (by decide)
    have m17 : h3 75 4 = 2147483649 → 2147483650 ≤ h3 77 0 := by
      rw [f8 75 4 (by decide +kernel), f8 77 0 (by decide +kernel)]
      exact hB
    have e19 := Se.fr hG9 f8 hJ (by decide) (by decide) (by decide) (by decide) (by decide) (by decide)
    have d20 := Sd.fr hD f8 hJ (by decide) (by decide) (by decide) (by decide) (by decide) (by decide) (by decide)
    have s21 := St.fr hS f8 hJ (by decide) (by decide) (by decide) (by decide) (by decide) (by decide)
    have t18 := Ty.fr hY f8 (by decide) (by decide)
    refine x_istore (np := 726) (x := 5) (lo' := [55340232221128654849, x_r 0, x_r 75, x_r 97, iv_c (2147483648 + j), iv_c r5, w6]) (by decide +kernel) l6 (Nat.le_of_ble_eq_true rfl) rfl ?_
    refine x_aload (np := 727) (x := 2) (by decide +kernel) rfl (x_nc_le (by decide)) ?_
    refine x_aloadS (np := 728) (x := 0) (by decide +kernel) rfl ?_
    refine x_iload (np := 730) (x := 4) (by decide +kernel) rfl (by omega) ?_
    refine x_const (np := 731) (x := 9223372043297226753) (a := 2147483649) (by decide +kernel) (by decide) (by decide) ?_
    refine x_iadd (np := 732) (x := 0) (v := (2147483648 + (j + 1))) (by decide +kernel) (by omega) (by decide) (by omega) (by omega) ?_
    refine x_scr (j := (j + 1)) hs (np := 733) (x := 0) (by decide +kernel) rfl (by omega) (by omega) ?_
    refine x_aloadS (np := 734) (x := 0) (by decide +kernel) rfl ?_
    refine x_iload (np := 736) (x := 4) (by decide +kernel) rfl (by omega) ?_
    refine x_const (np := 737) (x := 9223372047592194050) (a := 2147483650) (by decide +kernel) (by decide) (by decide) ?_
    refine x_iadd (np := 738) (x := 0) (v := (2147483648 + (j + 2))) (by decide +kernel) (by omega) (by decide) (by omega) (by omega) ?_
    refine x_scr (j := (j + 2)) hs (np := 739) (x := 0) (by decide +kernel) rfl (by omega) (by omega) ?_
    refine x_ifz (k := 0) (tg := 746) (np := 742) (by decide +kernel) (by decide) sv_lt (fun q22 => ?_) (fun q22 => ?_)
    · skip
      have q22 : (sv sc (j + 2)) = 2147483648 := q22
      refine x_const (np := 747) (x := 9223372039002259456) (a := 2147483648) (by decide +kernel) (by decide) (by decide) ?_
      have b23 : (sv sc (j + 1)) < 4294967296 := sv_lt
      refine x_cIc (t := 6) (mj := 224) (n := 3) (rc := 12) (ml := 5) (cc := 0) (ss := 0) (nr := 0) (np := 750) (as := [x_r 75, iv_c (sv sc (j + 1)), iv_c 2147483648]) (rest := []) (lo1 := [x_r 75, iv_c (sv sc (j + 1)), iv_c 2147483648, 147573952589676412928, 147573952589676412928]) (by decide +kernel) (by decide) (x_cbV (by decide +kernel) (by show _ ≤ 600000; omega) (by show _ ≤ 7300000; omega)) (x_rb_of (by decide +kernel)) rfl rfl (x_wr (by decide) (x_wi sv_lt (x_wi (by decide) x_wn))) x_wn (by decide) rfl (c224_75 j7 (by omega) (by omega) m15) (fun r26 h24 l27 q25 => ?_)
      obtain ⟨j28, f29, g30⟩ := q25
      have q31 : h24 1 1 = h3 1 1 := f29 1 1 (by decide +kernel)
      have q32 : h24 75 6 = h3 75 6 := f29 75 6 (by decide +kernel)
      have q33 : h24 76 1 = h3 76 1 := f29 76 1 (by decide +kernel)
      have q34 : h24 0 10 = h3 0 10 := f29 0 10 (by decide +kernel)
      have q35 : h24 75 4 = h3 75 4 := f29 75 4 (by decide +kernel)
      have m36 := WT.fr m15 j7 f29 (by decide)
      have m37 := WT.fr7 m16 j7 f29 (by decide)
      have m38 : h24 75 4 = 2147483649 → 2147483650 ≤ h24 77 0 := by
        rw [f29 75 4 (by decide +kernel), f29 77 0 (by decide +kernel)]
        exact m17
      have e40 := Se.fr e19 f29 j7 (by decide) (by decide) (by decide) (by decide) (by decide) (by decide)
      have d41 := Sd.fr d20 f29 j7 (by decide) (by decide) (by decide) (by decide) (by decide) (by decide) (by decide)
      have s42 := St.fr s21 f29 j7 (by decide) (by decide) (by decide) (by decide) (by decide) (by decide)
      have t39 := Ty.fr t18 f29 (by decide) (by decide)
      refine x_istore (np := 752) (x := 6) (lo' := [55340232221128654849, x_r 0, x_r 75, x_r 97, iv_c (2147483648 + j), iv_c r5, iv_c r26]) (by decide +kernel) l27 (Nat.le_of_ble_eq_true rfl) rfl ?_
      refine x_goto (np := 755) (x := 1404) (by decide +kernel) ?_
      exact k (c0 + 1) (s0 + 6) (iv_c r5) (iv_c r26) h24 (by omega) (by omega) ⟨⟨j28, by omega, m36, m37, m38, by omega⟩, t39, s42, d41, e40⟩
    have q22 : ¬ ((sv sc (j + 2)) = 2147483648) := q22
    refine x_const (np := 743) (x := 9223372043297226753) (a := 2147483649) (by decide +kernel) (by decide) (by decide) ?_
    refine x_goto (np := 746) (x := 747) (by decide +kernel) ?_
    have b43 : (sv sc (j + 1)) < 4294967296 := sv_lt
    refine x_cIc (t := 6) (mj := 224) (n := 3) (rc := 12) (ml := 5) (cc := 0) (ss := 0) (nr := 0) (np := 750) (as := [x_r 75, iv_c (sv sc (j + 1)), iv_c 2147483649]) (rest := []) (lo1 := [x_r 75, iv_c (sv sc (j + 1)), iv_c 2147483649, 147573952589676412928, 147573952589676412928]) (by decide +kernel) (by decide) (x_cbV (by decide +kernel) (by show _ ≤ 600000; omega) (by show _ ≤ 7300000; omega)) (x_rb_of (by decide +kernel)) rfl rfl (x_wr (by decide) (x_wi sv_lt (x_wi (by decide) x_wn))) x_wn (by decide) rfl (c224_75 j7 (by omega) (by omega) m15) (fun r46 h44 l47 q45 => ?_)
    obtain ⟨j48, f49, g50⟩ := q45
    have q51 : h44 1 1 = h3 1 1 := f49 1 1 (by decide +kernel)
    have q52 : h44 75 6 = h3 75 6 := f49 75 6 (by decide +kernel)
    have q53 : h44 76 1 = h3 76 1 := f49 76 1 (by decide +kernel)
    have q54 : h44 0 10 = h3 0 10 := f49 0 10 (by decide +kernel)
    have q55 : h44 75 4 = h3 75 4 := f49 75 4 (by decide +kernel)
    have m56 := WT.fr m15 j7 f49 (by decide)
    have m57 := WT.fr7 m16 j7 f49 (by decide)
    have m58 : h44 75 4 = 2147483649 → 2147483650 ≤ h44 77 0 := by
      rw [f49 75 4 (by decide +kernel), f49 77 0 (by decide +kernel)]
      exact m17
    have e60 := Se.fr e19 f49 j7 (by decide) (by decide) (by decide) (by decide) (by decide) (by decide)
    have d61 := Sd.fr d20 f49 j7 (by decide) (by decide) (by decide) (by decide) (by decide) (by decide) (by decide)
    have s62 := St.fr s21 f49 j7 (by decide) (by decide) (by decide) (by decide) (by decide) (by decide)
    have t59 := Ty.fr t18 f49 (by decide) (by decide)
    refine x_istore (np := 752) (x := 6) (lo' := [55340232221128654849, x_r 0, x_r 75, x_r 97, iv_c (2147483648 + j), iv_c r5, iv_c r46]) (by decide +kernel) l47 (Nat.le_of_ble_eq_true rfl) rfl ?_
    refine x_goto (np := 755) (x := 1404) (by decide +kernel) ?_
    exact k (c0 + 1) (s0 + 6) (iv_c r5) (iv_c r46) h44 (by omega) (by omega) ⟨⟨j48, by omega, m56, m57, m58, by omega⟩, t59, s62, d61, e60⟩
  have q1 : ¬ ((sv sc (j + 2)) = 2147483648) := q1
  refine x_const (np := 716) (x := 9223372043297226753) (a := 2147483649) (by decide +kernel) (by decide) (by decide) ?_
  refine x_goto (np := 719) (x := 720) (by decide +kernel) ?_
  refine x_aload (np := 721) (x := 3) (by decide +kernel) rfl (x_nc_le (by decide)) ?_
  have b63 : (sv sc (j + 1)) < 4294967296 := sv_lt
  refine x_cIc (t := 0) (mj := 292) (n := 4) (rc := 0) (ml := 5) (cc := 1) (ss := 6) (nr := 0) (np := 724) (as := [x_r 0, iv_c (sv sc (j + 1)), iv_c 2147483649, x_r 97]) (rest := []) (lo1 := [x_r 0, iv_c (sv sc (j + 1)), iv_c 2147483649, x_r 97, 147573952589676412928]) (by decide +kernel) (by decide) (x_cbV (by decide +kernel) (by show _ ≤ 600000; omega) (by show _ ≤ 7300000; omega)) (Or.inl rfl) rfl rfl (x_wr (by decide) (x_wi sv_lt (x_wi (by decide) (x_wr (by decide) x_wn)))) x_wn (by decide) rfl (c292_0_97 hJ (by omega) (by omega)) (fun r66 h64 l67 q65 => ?_)
  obtain ⟨j68, f69, g70⟩ := q65
  have q71 : h64 1 1 = h 1 1 := f69 1 1 (by decide +kernel)
  have q72 : h64 75 6 = h 75 6 := f69 75 6 (by decide +kernel)
  have q73 : h64 76 1 = h 76 1 := f69 76 1 (by decide +kernel)
  have q74 : h64 0 10 = h 0 10 := f69 0 10 (by decide +kernel)
  have q75 : h64 75 4 = h 75 4 := f69 75 4 (by decide +kernel)
  have m76 := WT.fr w76 hJ f69 (by decide)
  have m77 := WT.fr7 w77 hJ f69 (by decide)
  have m78 : h64 75 4 = 2147483649 → 2147483650 ≤ h64 77 0 := by
    rw [f69 75 4 (by decide +kernel), f69 77 0 (by decide +kernel)]
    exact hB
  have e80 := Se.fr hG9 f69 hJ (by decide) (by decide) (by decide) (by decide) (by decide) (by decide)
  have d81 := Sd.fr hD f69 hJ (by decide) (by decide) (by decide) (by decide) (by decide) (by decide) (by decide)
  have s82 := St.fr hS f69 hJ (by decide) (by decide) (by decide) (by decide) (by decide) (by decide)
  have t79 := Ty.fr hY f69 (by decide) (by decide)
  refine x_istore (np := 726) (x := 5) (lo' := [55340232221128654849, x_r 0, x_r 75, x_r 97, iv_c (2147483648 + j), iv_c r66, w6]) (by decide +kernel) l67 (Nat.le_of_ble_eq_true rfl) rfl ?_
  refine x_aload (np := 727) (x := 2) (by decide +kernel) rfl (x_nc_le (by decide)) ?_
  refine x_aloadS (np := 728) (x := 0) (by decide +kernel) rfl ?_
  refine x_iload (np := 730) (x := 4) (by decide +kernel) rfl (by omega) ?_
  refine x_const (np := 731) (x := 9223372043297226753) (a := 2147483649) (by decide +kernel) (by decide) (by decide) ?_
  refine x_iadd (np := 732) (x := 0) (v := (2147483648 + (j + 1))) (by decide +kernel) (by omega) (by decide) (by omega) (by omega) ?_
  refine x_scr (j := (j + 1)) hs (np := 733) (x := 0) (by decide +kernel) rfl (by omega) (by omega) ?_
  refine x_aloadS (np := 734) (x := 0) (by decide +kernel) rfl ?_
  refine x_iload (np := 736) (x := 4) (by decide +kernel) rfl (by omega) ?_
  refine x_const (np := 737) (x := 9223372047592194050) (a := 2147483650) (by decide +kernel) (by decide) (by decide) ?_
  refine x_iadd (np := 738) (x := 0) (v := (2147483648 + (j + 2))) (by decide +kernel) (by omega) (by decide) (by omega) (by omega) ?_
  refine x_scr (j := (j + 2)) hs (np := 739) (x := 0) (by decide +kernel) rfl (by omega) (by omega) ?_
  refine x_ifz (k := 0) (tg := 746) (np := 742) (by decide +kernel) (by decide) sv_lt (fun q83 => ?_) (fun q83 => ?_)
  · skip
    have q83 : (sv sc (j + 2)) = 2147483648 := q83
    refine x_const (np := 747) (x := 9223372039002259456) (a := 2147483648) (by decide +kernel) (by decide) (by decide) ?_
    have b84 : (sv sc (j + 1)) < 4294967296 := sv_lt
    refine x_cIc (t := 6) (mj := 224) (n := 3) (rc := 12) (ml := 5) (cc := 0) (ss := 0) (nr := 0) (np := 750) (as := [x_r 75, iv_c (sv sc (j + 1)), iv_c 2147483648]) (rest := []) (lo1 := [x_r 75, iv_c (sv sc (j + 1)), iv_c 2147483648, 147573952589676412928, 147573952589676412928]) (by decide +kernel) (by decide) (x_cbV (by decide +kernel) (by show _ ≤ 600000; omega) (by show _ ≤ 7300000; omega)) (x_rb_of (by decide +kernel)) rfl rfl (x_wr (by decide) (x_wi sv_lt (x_wi (by decide) x_wn))) x_wn (by decide) rfl (c224_75 j68 (by omega) (by omega) m76) (fun r87 h85 l88 q86 => ?_)
    obtain ⟨j89, f90, g91⟩ := q86
    have q92 : h85 1 1 = h64 1 1 := f90 1 1 (by decide +kernel)
    have q93 : h85 75 6 = h64 75 6 := f90 75 6 (by decide +kernel)
    have q94 : h85 76 1 = h64 76 1 := f90 76 1 (by decide +kernel)
    have q95 : h85 0 10 = h64 0 10 := f90 0 10 (by decide +kernel)
    have q96 : h85 75 4 = h64 75 4 := f90 75 4 (by decide +kernel)
    have m97 := WT.fr m76 j68 f90 (by decide)
    have m98 := WT.fr7 m77 j68 f90 (by decide)
    have m99 : h85 75 4 = 2147483649 → 2147483650 ≤ h85 77 0 := by
      rw [f90 75 4 (by decide +kernel), f90 77 0 (by decide +kernel)]
      exact m78
    have e101 := Se.fr e80 f90 j68 (by decide) (by decide) (by decide) (by decide) (by decide) (by decide)
    have d102 := Sd.fr d81 f90 j68 (by decide) (by decide) (by decide) (by decide) (by decide) (by decide) (by decide)
    have s103 := St.fr s82 f90 j68 (by decide) (by decide) (by decide) (by decide) (by decide) (by decide)
    have t100 := Ty.fr t79 f90 (by decide) (by decide)
    refine x_istore (np := 752) (x := 6) (lo' := [55340232221128654849, x_r 0, x_r 75, x_r 97, iv_c (2147483648 + j), iv_c r66, iv_c r87]) (by decide +kernel) l88 (Nat.le_of_ble_eq_true rfl) rfl ?_
    refine x_goto (np := 755) (x := 1404) (by decide +kernel) ?_
    exact k (c0 + 1) (s0 + 6) (iv_c r66) (iv_c r87) h85 (by omega) (by omega) ⟨⟨j89, by omega, m97, m98, m99, by omega⟩, t100, s103, d102, e101⟩
  have q83 : ¬ ((sv sc (j + 2)) = 2147483648) := q83
  refine x_const (np := 743) (x := 9223372043297226753) (a := 2147483649) (by decide +kernel) (by decide) (by decide) ?_
  refine x_goto (np := 746) (x := 747) (by decide +kernel) ?_
  have b104 : (sv sc (j + 1)) < 4294967296 := sv_lt
  refine x_cIc (t := 6) (mj := 224) (n := 3) (rc := 12) (ml := 5) (cc := 0) (ss := 0) (nr := 0) (np := 750) (as := [x_r 75, iv_c (sv sc (j + 1)), iv_c 2147483649]) (rest := []) (lo1 := [x_r 75, iv_c (sv sc (j + 1)), iv_c 2147483649, 147573952589676412928, 147573952589676412928]) (by decide +kernel) (by decide) (x_cbV (by decide +kernel) (by show _ ≤ 600000; omega) (by show _ ≤ 7300000; omega)) (x_rb_of (by decide +kernel)) rfl rfl (x_wr (by decide) (x_wi sv_lt (x_wi (by decide) x_wn))) x_wn (by decide) rfl (c224_75 j68 (by omega) (by omega) m76) (fun r107 h105 l108 q106 => ?_)
  obtain ⟨j109, f110, g111⟩ := q106
  have q112 : h105 1 1 = h64 1 1 := f110 1 1 (by decide +kernel)
  have q113 : h105 75 6 = h64 75 6 := f110 75 6 (by decide +kernel)
  have q114 : h105 76 1 = h64 76 1 := f110 76 1 (by decide +kernel)
  have q115 : h105 0 10 = h64 0 10 := f110 0 10 (by decide +kernel)
  have q116 : h105 75 4 = h64 75 4 := f110 75 4 (by decide +kernel)
  have m117 := WT.fr m76 j68 f110 (by decide)
  have m118 := WT.fr7 m77 j68 f110 (by decide)
  have m119 : h105 75 4 = 2147483649 → 2147483650 ≤ h105 77 0 := by
    rw [f110 75 4 (by decide +kernel), f110 77 0 (by decide +kernel)]
    exact m78
  have e121 := Se.fr e80 f110 j68 (by decide) (by decide) (by decide) (by decide) (by decide) (by decide)
  have d122 := Sd.fr d81 f110 j68 (by decide) (by decide) (by decide) (by decide) (by decide) (by decide) (by decide)
  have s123 := St.fr s82 f110 j68 (by decide) (by decide) (by decide) (by decide) (by decide) (by decide)
  have t120 := Ty.fr t79 f110 (by decide) (by decide)
  refine x_istore (np := 752) (x := 6) (lo' := [55340232221128654849, x_r 0, x_r 75, x_r 97, iv_c (2147483648 + j), iv_c r66, iv_c r107]) (by decide +kernel) l108 (Nat.le_of_ble_eq_true rfl) rfl ?_
  refine x_goto (np := 755) (x := 1404) (by decide +kernel) ?_
  exact k (c0 + 1) (s0 + 6) (iv_c r66) (iv_c r107) h105 (by omega) (by omega) ⟨⟨j109, by omega, m117, m118, m119, by omega⟩, t120, s123, d122, e121⟩
set_option maxHeartbeats 0 in
theorem lc_14 {sc : Nat × Nat} {d j c0 s0 w5 w6 : Nat} {h : xh} {Q : Nat → xh → Prop} (hs : scOK sc) (hI : INV9b h) (hj : j + 6 ≤ sc.1) (hc : c0 + 2 ≤ 600000) (hz : s0 + 12 ≤ 7300000) (k : ∀ c1 s1 v5 v6 h', c1 ≤ c0 + 2 → s1 ≤ s0 + 12 → INV9b h' → X sc 309 (d + 60) Q c1 s1 1404 [55340232221128654849, x_r 0, x_r 75, x_r 97, iv_c (2147483648 + j), v5, v6] [] h') : X sc 309 (d + 60) Q c0 s0 755 [55340232221128654849, x_r 0, x_r 75, x_r 97, iv_c (2147483648 + j), w5, w6] [] h := by
  obtain ⟨⟨hJ, hE, w76, w77, hB, hG⟩, hY, hS, hD, hG9⟩ := hI
  have h384 := hs.1
  have hS1 : tv h 1 = h 76 1 := by
    have z := hS.2.1 1 (by decide)
    rw [wx_0 (by decide)] at z
    exact z
  have hS3 := hS.2.2.1
  refine x_aload (np := 756) (x := 1) (by decide +kernel) rfl (x_nc_le (by decide)) ?_
  refine x_aloadS (np := 757) (x := 0) (by decide +kernel) rfl ?_
  refine x_iload (np := 759) (x := 4) (by decide +kernel) rfl (by omega) ?_
  refine x_const (np := 760) (x := 9223372043297226753) (a := 2147483649) (by decide +kernel) (by decide) (by decide) ?_
  refine x_iadd (np := 761) (x := 0) (v := (2147483648 + (j + 1))) (by decide +kernel) (by omega) (by decide) (by omega) (by omega) ?_
  refine x_scr (j := (j + 1)) hs (np := 762) (x := 0) (by decide +kernel) rfl (by omega) (by omega) ?_
  refine x_aloadS (np := 763) (x := 0) (by decide +kernel) rfl ?_
  refine x_iload (np := 765) (x := 4) (by decide +kernel) rfl (by omega) ?_
  refine x_const (np := 766) (x := 9223372047592194050) (a := 2147483650) (by decide +kernel) (by decide) (by decide) ?_
  refine x_iadd (np := 767) (x := 0) (v := (2147483648 + (j + 2))) (by decide +kernel) (by omega) (by decide) (by omega) (by omega) ?_
  refine x_scr (j := (j + 2)) hs (np := 768) (x := 0) (by decide +kernel) rfl (by omega) (by omega) ?_
  refine x_aload (np := 769) (x := 3) (by decide +kernel) rfl (x_nc_le (by decide)) ?_
  have b1 : (sv sc (j + 1)) < 4294967296 := sv_lt
  have b2 : (sv sc (j + 2)) < 4294967296 := sv_lt
  refine x_cIc (t := 0) (mj := 293) (n := 4) (rc := 0) (ml := 5) (cc := 2) (ss := 12) (nr := 0) (np := 772) (as := [x_r 0, iv_c (sv sc (j + 1)), iv_c (sv sc (j + 2)), x_r 97]) (rest := []) (lo1 := [x_r 0, iv_c (sv sc (j + 1)), iv_c (sv sc (j + 2)), x_r 97, 147573952589676412928]) (by decide +kernel) (by decide) (x_cbV (by decide +kernel) (by show _ ≤ 600000; omega) (by show _ ≤ 7300000; omega)) (Or.inl rfl) rfl rfl (x_wr (by decide) (x_wi sv_lt (x_wi sv_lt (x_wr (by decide) x_wn)))) x_wn (by decide) rfl (c293_0_97 hJ (by omega) (by omega)) (fun r5 h3 l6 q4 => ?_)
  obtain ⟨j7, f8, g9⟩ := q4
  have q10 : h3 1 1 = h 1 1 := f8 1 1 (by decide +kernel)
  have q11 : h3 75 6 = h 75 6 := f8 75 6 (by decide +kernel)
  have q12 : h3 76 1 = h 76 1 := f8 76 1 (by decide +kernel)
  have q13 : h3 0 10 = h 0 10 := f8 0 10 (by decide +kernel)
  have q14 : h3 75 4 = h 75 4 := f8 75 4 (by decide +kernel)
  have m15 := WT.fr w76 hJ f8 (by decide)
  have m16 := WT.fr7 w77 hJ f8 (by decide)
  have m17 : h3 75 4 = 2147483649 → 2147483650 ≤ h3 77 0 := by
    rw [f8 75 4 (by decide +kernel), f8 77 0 (by decide +kernel)]
    exact hB
  have e19 := Se.fr hG9 f8 hJ (by decide) (by decide) (by decide) (by decide) (by decide) (by decide)
  have d20 := Sd.fr hD f8 hJ (by decide) (by decide) (by decide) (by decide) (by decide) (by decide) (by decide)
  have s21 := St.fr hS f8 hJ (by decide) (by decide) (by decide) (by decide) (by decide) (by decide)
  have t18 := Ty.fr hY f8 (by decide) (by decide)
  refine x_istore (np := 774) (x := 5) (lo' := [55340232221128654849, x_r 0, x_r 75, x_r 97, iv_c (2147483648 + j), iv_c r5, w6]) (by decide +kernel) l6 (Nat.le_of_ble_eq_true rfl) rfl ?_
  refine x_aload (np := 775) (x := 2) (by decide +kernel) rfl (x_nc_le (by decide)) ?_
  refine x_aloadS (np := 776) (x := 0) (by decide +kernel) rfl ?_
  refine x_iload (np := 778) (x := 4) (by decide +kernel) rfl (by omega) ?_
  refine x_const (np := 779) (x := 9223372043297226753) (a := 2147483649) (by decide +kernel) (by decide) (by decide) ?_
  refine x_iadd (np := 780) (x := 0) (v := (2147483648 + (j + 1))) (by decide +kernel) (by omega) (by decide) (by omega) (by omega) ?_
  refine x_scr (j := (j + 1)) hs (np := 781) (x := 0) (by decide +kernel) rfl (by omega) (by omega) ?_
  refine x_aloadS (np := 782) (x := 0) (by decide +kernel) rfl ?_
  refine x_iload (np := 784) (x := 4) (by decide +kernel) rfl (by omega) ?_
  refine x_const (np := 785) (x := 9223372047592194050) (a := 2147483650) (by decide +kernel) (by decide) (by decide) ?_
  refine x_iadd (np := 786) (x := 0) (v := (2147483648 + (j + 2))) (by decide +kernel) (by omega) (by decide) (by omega) (by omega) ?_
  refine x_scr (j := (j + 2)) hs (np := 787) (x := 0) (by decide +kernel) rfl (by omega) (by omega) ?_
  have b22 : (sv sc (j + 1)) < 4294967296 := sv_lt
  have b23 : (sv sc (j + 2)) < 4294967296 := sv_lt
  refine x_cIc (t := 6) (mj := 226) (n := 3) (rc := 12) (ml := 5) (cc := 0) (ss := 0) (nr := 0) (np := 790) (as := [x_r 75, iv_c (sv sc (j + 1)), iv_c (sv sc (j + 2))]) (rest := []) (lo1 := [x_r 75, iv_c (sv sc (j + 1)), iv_c (sv sc (j + 2)), 147573952589676412928, 147573952589676412928]) (by decide +kernel) (by decide) (x_cbV (by decide +kernel) (by show _ ≤ 600000; omega) (by show _ ≤ 7300000; omega)) (x_rb_of (by decide +kernel)) rfl rfl (x_wr (by decide) (x_wi sv_lt (x_wi sv_lt x_wn))) x_wn (by decide) rfl (c226_75 j7 (by omega) (by omega) m15) (fun r26 h24 l27 q25 => ?_)
  obtain ⟨j28, f29, g30⟩ := q25
  have q31 : h24 1 1 = h3 1 1 := f29 1 1 (by decide +kernel)
  have q32 : h24 75 6 = h3 75 6 := f29 75 6 (by decide +kernel)
  have q33 : h24 76 1 = h3 76 1 := f29 76 1 (by decide +kernel)
  have q34 : h24 0 10 = h3 0 10 := f29 0 10 (by decide +kernel)
  have q35 : h24 75 4 = h3 75 4 := f29 75 4 (by decide +kernel)
  have m36 := WT.fr m15 j7 f29 (by decide)
  have m37 := WT.fr7 m16 j7 f29 (by decide)
  have m38 : h24 75 4 = 2147483649 → 2147483650 ≤ h24 77 0 := by
    rw [f29 75 4 (by decide +kernel), f29 77 0 (by decide +kernel)]
    exact m17
  have e40 := Se.fr e19 f29 j7 (by decide) (by decide) (by decide) (by decide) (by decide) (by decide)
  have d41 := Sd.fr d20 f29 j7 (by decide) (by decide) (by decide) (by decide) (by decide) (by decide) (by decide)
  have s42 := St.fr s21 f29 j7 (by decide) (by decide) (by decide) (by decide) (by decide) (by decide)
  have t39 := Ty.fr t18 f29 (by decide) (by decide)
  refine x_istore (np := 792) (x := 6) (lo' := [55340232221128654849, x_r 0, x_r 75, x_r 97, iv_c (2147483648 + j), iv_c r5, iv_c r26]) (by decide +kernel) l27 (Nat.le_of_ble_eq_true rfl) rfl ?_
  refine x_goto (np := 795) (x := 1404) (by decide +kernel) ?_
  exact k (c0 + 2) (s0 + 12) (iv_c r5) (iv_c r26) h24 (by omega) (by omega) ⟨⟨j28, by omega, m36, m37, m38, by omega⟩, t39, s42, d41, e40⟩
set_option maxHeartbeats 0 in
theorem lc_15 {sc : Nat × Nat} {d j c0 s0 w5 w6 : Nat} {h : xh} {Q : Nat → xh → Prop} (hs : scOK sc) (hI : INV9b h) (hj : j + 6 ≤ sc.1) (hc : c0 + 2 ≤ 600000) (hz : s0 + 12 ≤ 7300000) (k : ∀ c1 s1 v5 v6 h', c1 ≤ c0 + 2 → s1 ≤ s0 + 12 → INV9b h' → X sc 309 (d + 60) Q c1 s1 1404 [55340232221128654849, x_r 0, x_r 75, x_r 97, iv_c (2147483648 + j), v5, v6] [] h') : X sc 309 (d + 60) Q c0 s0 795 [55340232221128654849, x_r 0, x_r 75, x_r 97, iv_c (2147483648 + j), w5, w6] [] h := by
  obtain ⟨⟨hJ, hE, w76, w77, hB, hG⟩, hY, hS, hD, hG9⟩ := hI
  have h384 := hs.1
  have hS1 : tv h 1 = h 76 1 := by
    have z := hS.2.1 1 (by decide)
    rw [wx_0 (by decide)] at z
    exact z
  have hS3 := hS.2.2.1
  refine x_aload (np := 796) (x := 1) (by decide +kernel) rfl (x_nc_le (by decide)) ?_
  refine x_aloadS (np := 797) (x := 0) (by decide +kernel) rfl ?_
  refine x_iload (np := 799) (x := 4) (by decide +kernel) rfl (by omega) ?_
  refine x_const (np := 800) (x := 9223372043297226753) (a := 2147483649) (by decide +kernel) (by decide) (by decide) ?_
  refine x_iadd (np := 801) (x := 0) (v := (2147483648 + (j + 1))) (by decide +kernel) (by omega) (by decide) (by omega) (by omega) ?_
  refine x_scr (j := (j + 1)) hs (np := 802) (x := 0) (by decide +kernel) rfl (by omega) (by omega) ?_
  refine x_aload (np := 803) (x := 3) (by decide +kernel) rfl (x_nc_le (by decide)) ?_
  have b1 : (sv sc (j + 1)) < 4294967296 := sv_lt
  refine x_cIc (t := 0) (mj := 294) (n := 3) (rc := 0) (ml := 4) (cc := 1) (ss := 6) (nr := 0) (np := 806) (as := [x_r 0, iv_c (sv sc (j + 1)), x_r 97]) (rest := []) (lo1 := [x_r 0, iv_c (sv sc (j + 1)), x_r 97, 147573952589676412928]) (by decide +kernel) (by decide) (x_cbV (by decide +kernel) (by show _ ≤ 600000; omega) (by show _ ≤ 7300000; omega)) (Or.inl rfl) rfl rfl (x_wr (by decide) (x_wi sv_lt (x_wr (by decide) x_wn))) x_wn (by decide) rfl (c294_0_97 hJ (by omega)) (fun r4 h2 l5 q3 => ?_)
  obtain ⟨j6, f7, g8⟩ := q3
  have q9 : h2 1 1 = h 1 1 := f7 1 1 (by decide +kernel)
  have q10 : h2 75 6 = h 75 6 := f7 75 6 (by decide +kernel)
  have q11 : h2 76 1 = h 76 1 := f7 76 1 (by decide +kernel)
  have q12 : h2 0 10 = h 0 10 := f7 0 10 (by decide +kernel)
  have q13 : h2 75 4 = h 75 4 := f7 75 4 (by decide +kernel)
  have m14 := WT.fr w76 hJ f7 (by decide)
  have m15 := WT.fr7 w77 hJ f7 (by decide)
  have m16 : h2 75 4 = 2147483649 → 2147483650 ≤ h2 77 0 := by
    rw [f7 75 4 (by decide +kernel), f7 77 0 (by decide +kernel)]
    exact hB
  have e18 := Se.fr hG9 f7 hJ (by decide) (by decide) (by decide) (by decide) (by decide) (by decide)
  have d19 := Sd.fr hD f7 hJ (by decide) (by decide) (by decide) (by decide) (by decide) (by decide) (by decide)
  have s20 := St.fr hS f7 hJ (by decide) (by decide) (by decide) (by decide) (by decide) (by decide)
  have t17 := Ty.fr hY f7 (by decide) (by decide)
  refine x_istore (np := 808) (x := 5) (lo' := [55340232221128654849, x_r 0, x_r 75, x_r 97, iv_c (2147483648 + j), iv_c r4, w6]) (by decide +kernel) l5 (Nat.le_of_ble_eq_true rfl) rfl ?_
  refine x_aload (np := 809) (x := 2) (by decide +kernel) rfl (x_nc_le (by decide)) ?_
  refine x_aloadS (np := 810) (x := 0) (by decide +kernel) rfl ?_
  refine x_iload (np := 812) (x := 4) (by decide +kernel) rfl (by omega) ?_
  refine x_const (np := 813) (x := 9223372043297226753) (a := 2147483649) (by decide +kernel) (by decide) (by decide) ?_
  refine x_iadd (np := 814) (x := 0) (v := (2147483648 + (j + 1))) (by decide +kernel) (by omega) (by decide) (by omega) (by omega) ?_
  refine x_scr (j := (j + 1)) hs (np := 815) (x := 0) (by decide +kernel) rfl (by omega) (by omega) ?_
  have b21 : (sv sc (j + 1)) < 4294967296 := sv_lt
  refine x_cIc (t := 6) (mj := 229) (n := 2) (rc := 12) (ml := 2) (cc := 0) (ss := 0) (nr := 0) (np := 818) (as := [x_r 75, iv_c (sv sc (j + 1))]) (rest := []) (lo1 := [x_r 75, iv_c (sv sc (j + 1))]) (by decide +kernel) (by decide) (x_cbV (by decide +kernel) (by show _ ≤ 600000; omega) (by show _ ≤ 7300000; omega)) (x_rb_of (by decide +kernel)) rfl rfl (x_wr (by decide) (x_wi sv_lt x_wn)) x_wn (by decide) rfl (c229_75 j6 (by omega) m14) (fun r24 h22 l25 q23 => ?_)
  obtain ⟨j26, f27, g28⟩ := q23
  have q29 : h22 1 1 = h2 1 1 := f27 1 1 (by decide +kernel)
  have q30 : h22 75 6 = h2 75 6 := f27 75 6 (by decide +kernel)
  have q31 : h22 76 1 = h2 76 1 := f27 76 1 (by decide +kernel)
  have q32 : h22 0 10 = h2 0 10 := f27 0 10 (by decide +kernel)
  have q33 : h22 75 4 = h2 75 4 := f27 75 4 (by decide +kernel)
  have m34 := WT.fr m14 j6 f27 (by decide)
  have m35 := WT.fr7 m15 j6 f27 (by decide)
  have m36 : h22 75 4 = 2147483649 → 2147483650 ≤ h22 77 0 := by
    rw [f27 75 4 (by decide +kernel), f27 77 0 (by decide +kernel)]
    exact m16
  have e38 := Se.fr e18 f27 j6 (by decide) (by decide) (by decide) (by decide) (by decide) (by decide)
  have d39 := Sd.fr d19 f27 j6 (by decide) (by decide) (by decide) (by decide) (by decide) (by decide) (by decide)
  have s40 := St.fr s20 f27 j6 (by decide) (by decide) (by decide) (by decide) (by decide) (by decide)
  have t37 := Ty.fr t17 f27 (by decide) (by decide)
  refine x_istore (np := 820) (x := 6) (lo' := [55340232221128654849, x_r 0, x_r 75, x_r 97, iv_c (2147483648 + j), iv_c r4, iv_c r24]) (by decide +kernel) l25 (Nat.le_of_ble_eq_true rfl) rfl ?_
  refine x_goto (np := 823) (x := 1404) (by decide +kernel) ?_
  exact k (c0 + 1) (s0 + 6) (iv_c r4) (iv_c r24) h22 (by omega) (by omega) ⟨⟨j26, by omega, m34, m35, m36, by omega⟩, t37, s40, d39, e38⟩
set_option maxHeartbeats 0 in
theorem lc_16 {sc : Nat × Nat} {d j c0 s0 w5 w6 : Nat} {h : xh} {Q : Nat → xh → Prop} (hs : scOK sc) (hI : INV9b h) (hj : j + 6 ≤ sc.1) (hc : c0 + 2 ≤ 600000) (hz : s0 + 12 ≤ 7300000) (k : ∀ c1 s1 v5 v6 h', c1 ≤ c0 + 2 → s1 ≤ s0 + 12 → INV9b h' → X sc 309 (d + 60) Q c1 s1 1404 [55340232221128654849, x_r 0, x_r 75, x_r 97, iv_c (2147483648 + j), v5, v6] [] h') : X sc 309 (d + 60) Q c0 s0 823 [55340232221128654849, x_r 0, x_r 75, x_r 97, iv_c (2147483648 + j), w5, w6] [] h := by
  obtain ⟨⟨hJ, hE, w76, w77, hB, hG⟩, hY, hS, hD, hG9⟩ := hI
  have h384 := hs.1
  have hS1 : tv h 1 = h 76 1 := by
    have z := hS.2.1 1 (by decide)
    rw [wx_0 (by decide)] at z
    exact z
  have hS3 := hS.2.2.1
  refine x_aload (np := 824) (x := 1) (by decide +kernel) rfl (x_nc_le (by decide)) ?_
  refine x_aloadS (np := 825) (x := 0) (by decide +kernel) rfl ?_
  refine x_iload (np := 827) (x := 4) (by decide +kernel) rfl (by omega) ?_
  refine x_const (np := 828) (x := 9223372043297226753) (a := 2147483649) (by decide +kernel) (by decide) (by decide) ?_
  refine x_iadd (np := 829) (x := 0) (v := (2147483648 + (j + 1))) (by decide +kernel) (by omega) (by decide) (by omega) (by omega) ?_
  refine x_scr (j := (j + 1)) hs (np := 830) (x := 0) (by decide +kernel) rfl (by omega) (by omega) ?_
  refine x_aload (np := 831) (x := 3) (by decide +kernel) rfl (x_nc_le (by decide)) ?_
  have b1 : (sv sc (j + 1)) < 4294967296 := sv_lt
  refine x_cIc (t := 0) (mj := 295) (n := 3) (rc := 0) (ml := 4) (cc := 1) (ss := 6) (nr := 0) (np := 834) (as := [x_r 0, iv_c (sv sc (j + 1)), x_r 97]) (rest := []) (lo1 := [x_r 0, iv_c (sv sc (j + 1)), x_r 97, 147573952589676412928]) (by decide +kernel) (by decide) (x_cbV (by decide +kernel) (by show _ ≤ 600000; omega) (by show _ ≤ 7300000; omega)) (Or.inl rfl) rfl rfl (x_wr (by decide) (x_wi sv_lt (x_wr (by decide) x_wn))) x_wn (by decide) rfl (c295_0_97 hJ (by omega)) (fun r4 h2 l5 q3 => ?_)
  obtain ⟨j6, f7, g8⟩ := q3
  have q9 : h2 1 1 = h 1 1 := f7 1 1 (by decide +kernel)
  have q10 : h2 75 6 = h 75 6 := f7 75 6 (by decide +kernel)
  have q11 : h2 76 1 = h 76 1 := f7 76 1 (by decide +kernel)
  have q12 : h2 0 10 = h 0 10 := f7 0 10 (by decide +kernel)
  have q13 : h2 75 4 = h 75 4 := f7 75 4 (by decide +kernel)
  have m14 := WT.fr w76 hJ f7 (by decide)
  have m15 := WT.fr7 w77 hJ f7 (by decide)
  have m16 : h2 75 4 = 2147483649 → 2147483650 ≤ h2 77 0 := by
    rw [f7 75 4 (by decide +kernel), f7 77 0 (by decide +kernel)]
    exact hB
  have e18 := Se.fr hG9 f7 hJ (by decide) (by decide) (by decide) (by decide) (by decide) (by decide)
  have d19 := Sd.fr hD f7 hJ (by decide) (by decide) (by decide) (by decide) (by decide) (by decide) (by decide)
  have s20 := St.fr hS f7 hJ (by decide) (by decide) (by decide) (by decide) (by decide) (by decide)
  have t17 := Ty.fr hY f7 (by decide) (by decide)
  refine x_istore (np := 836) (x := 5) (lo' := [55340232221128654849, x_r 0, x_r 75, x_r 97, iv_c (2147483648 + j), iv_c r4, w6]) (by decide +kernel) l5 (Nat.le_of_ble_eq_true rfl) rfl ?_
  refine x_aload (np := 837) (x := 2) (by decide +kernel) rfl (x_nc_le (by decide)) ?_
  refine x_aloadS (np := 838) (x := 0) (by decide +kernel) rfl ?_
  refine x_iload (np := 840) (x := 4) (by decide +kernel) rfl (by omega) ?_
  refine x_const (np := 841) (x := 9223372043297226753) (a := 2147483649) (by decide +kernel) (by decide) (by decide) ?_
  refine x_iadd (np := 842) (x := 0) (v := (2147483648 + (j + 1))) (by decide +kernel) (by omega) (by decide) (by omega) (by omega) ?_
  refine x_scr (j := (j + 1)) hs (np := 843) (x := 0) (by decide +kernel) rfl (by omega) (by omega) ?_
  have b21 : (sv sc (j + 1)) < 4294967296 := sv_lt
  refine x_cIc (t := 6) (mj := 230) (n := 2) (rc := 12) (ml := 4) (cc := 0) (ss := 0) (nr := 0) (np := 846) (as := [x_r 75, iv_c (sv sc (j + 1))]) (rest := []) (lo1 := [x_r 75, iv_c (sv sc (j + 1)), 147573952589676412928, 147573952589676412928]) (by decide +kernel) (by decide) (x_cbV (by decide +kernel) (by show _ ≤ 600000; omega) (by show _ ≤ 7300000; omega)) (x_rb_of (by decide +kernel)) rfl rfl (x_wr (by decide) (x_wi sv_lt x_wn)) x_wn (by decide) rfl (c230_75 j6 (by omega) m14) (fun r24 h22 l25 q23 => ?_)
  obtain ⟨j26, f27, g28⟩ := q23
  have q29 : h22 1 1 = h2 1 1 := f27 1 1 (by decide +kernel)
  have q30 : h22 75 6 = h2 75 6 := f27 75 6 (by decide +kernel)
  have q31 : h22 76 1 = h2 76 1 := f27 76 1 (by decide +kernel)
  have q32 : h22 0 10 = h2 0 10 := f27 0 10 (by decide +kernel)
  have q33 : h22 75 4 = h2 75 4 := f27 75 4 (by decide +kernel)
  have m34 := WT.fr m14 j6 f27 (by decide)
  have m35 := WT.fr7 m15 j6 f27 (by decide)
  have m36 : h22 75 4 = 2147483649 → 2147483650 ≤ h22 77 0 := by
    rw [f27 75 4 (by decide +kernel), f27 77 0 (by decide +kernel)]
    exact m16
  have e38 := Se.fr e18 f27 j6 (by decide) (by decide) (by decide) (by decide) (by decide) (by decide)
  have d39 := Sd.fr d19 f27 j6 (by decide) (by decide) (by decide) (by decide) (by decide) (by decide) (by decide)
  have s40 := St.fr s20 f27 j6 (by decide) (by decide) (by decide) (by decide) (by decide) (by decide)
  have t37 := Ty.fr t17 f27 (by decide) (by decide)
  refine x_istore (np := 848) (x := 6) (lo' := [55340232221128654849, x_r 0, x_r 75, x_r 97, iv_c (2147483648 + j), iv_c r4, iv_c r24]) (by decide +kernel) l25 (Nat.le_of_ble_eq_true rfl) rfl ?_
  refine x_goto (np := 851) (x := 1404) (by decide +kernel) ?_
  exact k (c0 + 1) (s0 + 6) (iv_c r4) (iv_c r24) h22 (by omega) (by omega) ⟨⟨j26, by omega, m34, m35, m36, by omega⟩, t37, s40, d39, e38⟩
set_option maxHeartbeats 0 in
theorem lc_17 {sc : Nat × Nat} {d j c0 s0 w5 w6 : Nat} {h : xh} {Q : Nat → xh → Prop} (hs : scOK sc) (hI : INV9b h) (hj : j + 6 ≤ sc.1) (hc : c0 + 2 ≤ 600000) (hz : s0 + 12 ≤ 7300000) (k : ∀ c1 s1 v5 v6 h', c1 ≤ c0 + 2 → s1 ≤ s0 + 12 → INV9b h' → X sc 309 (d + 60) Q c1 s1 1404 [55340232221128654849, x_r 0, x_r 75, x_r 97, iv_c (2147483648 + j), v5, v6] [] h') : X sc 309 (d + 60) Q c0 s0 851 [55340232221128654849, x_r 0, x_r 75, x_r 97, iv_c (2147483648 + j), w5, w6] [] h := by
  obtain ⟨⟨hJ, hE, w76, w77, hB, hG⟩, hY, hS, hD, hG9⟩ := hI
  have h384 := hs.1
  have hS1 : tv h 1 = h 76 1 := by
    have z := hS.2.1 1 (by decide)
    rw [wx_0 (by decide)] at z
    exact z
  have hS3 := hS.2.2.1
  refine x_aload (np := 852) (x := 1) (by decide +kernel) rfl (x_nc_le (by decide)) ?_
  refine x_aload (np := 853) (x := 3) (by decide +kernel) rfl (x_nc_le (by decide)) ?_
  refine x_cIc (t := 0) (mj := 296) (n := 2) (rc := 0) (ml := 3) (cc := 1) (ss := 6) (nr := 0) (np := 856) (as := [x_r 0, x_r 97]) (rest := []) (lo1 := [x_r 0, x_r 97, 147573952589676412928]) (by decide +kernel) (by decide) (x_cbV (by decide +kernel) (by show _ ≤ 600000; omega) (by show _ ≤ 7300000; omega)) (Or.inl rfl) rfl rfl (x_wr (by decide) (x_wr (by decide) x_wn)) x_wn (by decide) rfl (c296_0_97 hJ (Ty.tp (h := h)) hS.1) (fun r3 h1 l4 q2 => ?_)
  obtain ⟨j5, f6, g7, g8, g9, g10, g11, g12⟩ := q2
  have q13 : h1 75 6 = h 75 6 := f6 75 6 (by decide +kernel)
  have q14 : h1 76 1 = h 76 1 := f6 76 1 (by decide +kernel)
  have q15 : h1 0 10 = h 0 10 := f6 0 10 (by decide +kernel)
  have q16 : h1 75 4 = h 75 4 := f6 75 4 (by decide +kernel)
  have m17 := WT.fr w76 hJ f6 (by decide)
  have m18 := WT.fr7 w77 hJ f6 (by decide)
  have m19 : h1 75 4 = 2147483649 → 2147483650 ≤ h1 77 0 := by
    rw [f6 75 4 (by decide +kernel), f6 77 0 (by decide +kernel)]
    exact hB
  have t20 := Ty.fr hY f6 (by decide) (by decide)
  refine x_istore (np := 858) (x := 5) (lo' := [55340232221128654849, x_r 0, x_r 75, x_r 97, iv_c (2147483648 + j), iv_c r3, w6]) (by decide +kernel) l4 (Nat.le_of_ble_eq_true rfl) rfl ?_
  refine x_aload (np := 859) (x := 2) (by decide +kernel) rfl (x_nc_le (by decide)) ?_
  refine x_cIc (t := 6) (mj := 196) (n := 1) (rc := 12) (ml := 3) (cc := 0) (ss := 0) (nr := 0) (np := 862) (as := [x_r 75]) (rest := []) (lo1 := [x_r 75, 147573952589676412928, 147573952589676412928]) (by decide +kernel) (by decide) (x_cbV (by decide +kernel) (by show _ ≤ 600000; omega) (by show _ ≤ 7300000; omega)) (x_rb_of (by decide +kernel)) rfl rfl (x_wr (by decide) x_wn) x_wn (by decide) rfl (c196_75 j5 m17 (Ty.tr (n := h 1 1) hY f6 (by decide) (by omega))) (fun r26 h24 l27 q25 => ?_)
  obtain ⟨j28, f29, g30, g31, g32, g33⟩ := q25
  have q34 : h24 1 1 = h1 1 1 := f29 1 1 (by decide +kernel)
  have q35 : h24 76 1 = h1 76 1 := f29 76 1 (by decide +kernel)
  have q36 : h24 0 10 = h1 0 10 := f29 0 10 (by decide +kernel)
  have q37 : h24 75 4 = h1 75 4 := f29 75 4 (by decide +kernel)
  have m39 := WT.fr7 m18 j5 f29 (by decide)
  have m40 : h24 75 4 = 2147483649 → 2147483650 ≤ h24 77 0 := by
    rw [f29 75 4 (by decide +kernel), f29 77 0 (by decide +kernel)]
    exact m19
  obtain ⟨al8, al9⟩ := cu_alike g9 g33
  have q42 : h24 97 0 = h1 97 0 := f29 97 0 (by decide +kernel)
  have e43 := Se.gen hG9 (fun b _ => g10 (28 + b)) (ab_gr f29 (by decide)) j5 f6 (by decide) (by decide) (by decide) (by decide) f29 (by decide) (by decide) (by decide) (by decide) (by decide)
  have d44 := Sd.gen hD (fun b _ => g10 (12 + b)) (fun b hb => xw_gr f29 (by decide) b hb) g12 j5 f6 (by decide) (by decide) (by decide) (by decide) f29 (by decide) (by decide) (by decide) (by decide) (by decide) (by decide)
  have s45 := St.custom hS g10 g11 j5 f6 (by decide) (by decide) (by decide) (by decide) f29 (by decide) (by decide) (by decide) (by decide) (by decide) (by decide)
  have t41 := Ty.fr t20 f29 (by decide) (by decide)
  refine x_istore (np := 864) (x := 6) (lo' := [55340232221128654849, x_r 0, x_r 75, x_r 97, iv_c (2147483648 + j), iv_c r3, iv_c r26]) (by decide +kernel) l27 (Nat.le_of_ble_eq_true rfl) rfl ?_
  refine x_goto (np := 867) (x := 1404) (by decide +kernel) ?_
  exact k (c0 + 1) (s0 + 6) (iv_c r3) (iv_c r26) h24 (by omega) (by omega) ⟨⟨j28, by omega, g32, m39, m40, by omega⟩, t41, s45, d44, e43⟩
set_option maxHeartbeats 0 in
theorem lc_18 {sc : Nat × Nat} {d j c0 s0 w5 w6 : Nat} {h : xh} {Q : Nat → xh → Prop} (hs : scOK sc) (hI : INV9b h) (hj : j + 6 ≤ sc.1) (hc : c0 + 2 ≤ 600000) (hz : s0 + 12 ≤ 7300000) (k : ∀ c1 s1 v5 v6 h', c1 ≤ c0 + 2 → s1 ≤ s0 + 12 → INV9b h' → X sc 309 (d + 60) Q c1 s1 1404 [55340232221128654849, x_r 0, x_r 75, x_r 97, iv_c (2147483648 + j), v5, v6] [] h') : X sc 309 (d + 60) Q c0 s0 867 [55340232221128654849, x_r 0, x_r 75, x_r 97, iv_c (2147483648 + j), w5, w6] [] h := by
  obtain ⟨⟨hJ, hE, w76, w77, hB, hG⟩, hY, hS, hD, hG9⟩ := hI
  have h384 := hs.1
  have hS1 : tv h 1 = h 76 1 := by
    have z := hS.2.1 1 (by decide)
    rw [wx_0 (by decide)] at z
    exact z
  have hS3 := hS.2.2.1
  refine x_aload (np := 868) (x := 1) (by decide +kernel) rfl (x_nc_le (by decide)) ?_
  refine x_aloadS (np := 869) (x := 0) (by decide +kernel) rfl ?_
  refine x_iload (np := 871) (x := 4) (by decide +kernel) rfl (by omega) ?_
  refine x_const (np := 872) (x := 9223372043297226753) (a := 2147483649) (by decide +kernel) (by decide) (by decide) ?_
  refine x_iadd (np := 873) (x := 0) (v := (2147483648 + (j + 1))) (by decide +kernel) (by omega) (by decide) (by omega) (by omega) ?_
  refine x_scr (j := (j + 1)) hs (np := 874) (x := 0) (by decide +kernel) rfl (by omega) (by omega) ?_
  refine x_aloadS (np := 875) (x := 0) (by decide +kernel) rfl ?_
  refine x_iload (np := 877) (x := 4) (by decide +kernel) rfl (by omega) ?_
  refine x_const (np := 878) (x := 9223372047592194050) (a := 2147483650) (by decide +kernel) (by decide) (by decide) ?_
  refine x_iadd (np := 879) (x := 0) (v := (2147483648 + (j + 2))) (by decide +kernel) (by omega) (by decide) (by omega) (by omega) ?_
  refine x_scr (j := (j + 2)) hs (np := 880) (x := 0) (by decide +kernel) rfl (by omega) (by omega) ?_
  refine x_aload (np := 881) (x := 3) (by decide +kernel) rfl (x_nc_le (by decide)) ?_
  have b1 : (sv sc (j + 1)) < 4294967296 := sv_lt
  have b2 : (sv sc (j + 2)) < 4294967296 := sv_lt
  refine x_cIc (t := 0) (mj := 297) (n := 4) (rc := 0) (ml := 5) (cc := 2) (ss := 12) (nr := 0) (np := 884) (as := [x_r 0, iv_c (sv sc (j + 1)), iv_c (sv sc (j + 2)), x_r 97]) (rest := []) (lo1 := [x_r 0, iv_c (sv sc (j + 1)), iv_c (sv sc (j + 2)), x_r 97, 147573952589676412928]) (by decide +kernel) (by decide) (x_cbV (by decide +kernel) (by show _ ≤ 600000; omega) (by show _ ≤ 7300000; omega)) (Or.inl rfl) rfl rfl (x_wr (by decide) (x_wi sv_lt (x_wi sv_lt (x_wr (by decide) x_wn)))) x_wn (by decide) rfl (c297_0_97 hJ (by omega) (by omega)) (fun r5 h3 l6 q4 => ?_)
  obtain ⟨j7, f8, g9, g10⟩ := q4
  have q11 : h3 1 1 = h 1 1 := f8 1 1 (by decide +kernel)
  have q12 : h3 75 6 = h 75 6 := f8 75 6 (by decide +kernel)
  have q13 : h3 76 1 = h 76 1 := f8 76 1 (by decide +kernel)
  have q14 : h3 0 10 = h 0 10 := f8 0 10 (by decide +kernel)
  have q15 : h3 75 4 = h 75 4 := f8 75 4 (by decide +kernel)
  have m16 := WT.fr w76 hJ f8 (by decide)
  have m17 := WT.fr7 w77 hJ f8 (by decide)
  have m18 : h3 75 4 = 2147483649 → 2147483650 ≤ h3 77 0 := by
    rw [f8 75 4 (by decide +kernel), f8 77 0 (by decide +kernel)]
    exact hB
  have t19 := Ty.fr hY f8 (by decide) (by decide)
  refine x_istore (np := 886) (x := 5) (lo' := [55340232221128654849, x_r 0, x_r 75, x_r 97, iv_c (2147483648 + j), iv_c r5, w6]) (by decide +kernel) l6 (Nat.le_of_ble_eq_true rfl) rfl ?_
  refine x_aload (np := 887) (x := 2) (by decide +kernel) rfl (x_nc_le (by decide)) ?_
  refine x_aloadS (np := 888) (x := 0) (by decide +kernel) rfl ?_
  refine x_iload (np := 890) (x := 4) (by decide +kernel) rfl (by omega) ?_
  refine x_const (np := 891) (x := 9223372043297226753) (a := 2147483649) (by decide +kernel) (by decide) (by decide) ?_
  refine x_iadd (np := 892) (x := 0) (v := (2147483648 + (j + 1))) (by decide +kernel) (by omega) (by decide) (by omega) (by omega) ?_
  refine x_scr (j := (j + 1)) hs (np := 893) (x := 0) (by decide +kernel) rfl (by omega) (by omega) ?_
  refine x_aloadS (np := 894) (x := 0) (by decide +kernel) rfl ?_
  refine x_iload (np := 896) (x := 4) (by decide +kernel) rfl (by omega) ?_
  refine x_const (np := 897) (x := 9223372047592194050) (a := 2147483650) (by decide +kernel) (by decide) (by decide) ?_
  refine x_iadd (np := 898) (x := 0) (v := (2147483648 + (j + 2))) (by decide +kernel) (by omega) (by decide) (by omega) (by omega) ?_
  refine x_scr (j := (j + 2)) hs (np := 899) (x := 0) (by decide +kernel) rfl (by omega) (by omega) ?_
  have b23 : (sv sc (j + 1)) < 4294967296 := sv_lt
  have b24 : (sv sc (j + 2)) < 4294967296 := sv_lt
  refine x_cIc (t := 6) (mj := 231) (n := 3) (rc := 12) (ml := 4) (cc := 0) (ss := 0) (nr := 0) (np := 902) (as := [x_r 75, iv_c (sv sc (j + 1)), iv_c (sv sc (j + 2))]) (rest := []) (lo1 := [x_r 75, iv_c (sv sc (j + 1)), iv_c (sv sc (j + 2)), 147573952589676412928]) (by decide +kernel) (by decide) (x_cbV (by decide +kernel) (by show _ ≤ 600000; omega) (by show _ ≤ 7300000; omega)) (x_rb_of (by decide +kernel)) rfl rfl (x_wr (by decide) (x_wi sv_lt (x_wi sv_lt x_wn))) x_wn (by decide) rfl (c231_75 j7 (by omega) (by omega) m16) (fun r27 h25 l28 q26 => ?_)
  obtain ⟨j29, f30, g31, g32, g33⟩ := q26
  have q34 : h25 1 1 = h3 1 1 := f30 1 1 (by decide +kernel)
  have q35 : h25 75 6 = h3 75 6 := f30 75 6 (by decide +kernel)
  have q36 : h25 76 1 = h3 76 1 := f30 76 1 (by decide +kernel)
  have q37 : h25 0 10 = h3 0 10 := f30 0 10 (by decide +kernel)
  have q38 : h25 75 4 = h3 75 4 := f30 75 4 (by decide +kernel)
  have m39 := WT.fr m16 j7 f30 (by decide)
  have m40 := WT.fr7 m17 j7 f30 (by decide)
  have m41 : h25 75 4 = 2147483649 → 2147483650 ≤ h25 77 0 := by
    rw [f30 75 4 (by decide +kernel), f30 77 0 (by decide +kernel)]
    exact m18
  have e43 := Se.purse hG9 g10 g33 j7 f8 (by decide) (by decide) (by decide) (by decide) f30 (by decide) (by decide) (by decide) (by decide) (by decide)
  have d44 := Sd.purse hD g10 g33 j7 f8 (by decide) (by decide) (by decide) (by decide) (by decide) f30 (by decide) (by decide) (by decide) (by decide) (by decide) (by decide)
  have q46 : h25 97 0 = h3 97 0 := f30 97 0 (by decide +kernel)
  obtain ⟨⟨al1, al2⟩, s45⟩ := St.purse hS g10 g33 j7 f8 (by decide) (by decide) (by decide) (by decide) f30 (by decide) (by decide) (by decide) (by decide) (by decide) q46
  have t42 := Ty.fr t19 f30 (by decide) (by decide)
  refine x_istore (np := 904) (x := 6) (lo' := [55340232221128654849, x_r 0, x_r 75, x_r 97, iv_c (2147483648 + j), iv_c r5, iv_c r27]) (by decide +kernel) l28 (Nat.le_of_ble_eq_true rfl) rfl ?_
  refine x_goto (np := 907) (x := 1404) (by decide +kernel) ?_
  exact k (c0 + 2) (s0 + 12) (iv_c r5) (iv_c r27) h25 (by omega) (by omega) ⟨⟨j29, by omega, m39, m40, m41, by omega⟩, t42, s45, d44, e43⟩
set_option maxHeartbeats 0 in
theorem lc_19 {sc : Nat × Nat} {d j c0 s0 w5 w6 : Nat} {h : xh} {Q : Nat → xh → Prop} (hs : scOK sc) (hI : INV9b h) (hj : j + 6 ≤ sc.1) (hc : c0 + 2 ≤ 600000) (hz : s0 + 12 ≤ 7300000) (k : ∀ c1 s1 v5 v6 h', c1 ≤ c0 + 2 → s1 ≤ s0 + 12 → INV9b h' → X sc 309 (d + 60) Q c1 s1 1404 [55340232221128654849, x_r 0, x_r 75, x_r 97, iv_c (2147483648 + j), v5, v6] [] h') : X sc 309 (d + 60) Q c0 s0 907 [55340232221128654849, x_r 0, x_r 75, x_r 97, iv_c (2147483648 + j), w5, w6] [] h := by
  obtain ⟨⟨hJ, hE, w76, w77, hB, hG⟩, hY, hS, hD, hG9⟩ := hI
  have h384 := hs.1
  have hS1 : tv h 1 = h 76 1 := by
    have z := hS.2.1 1 (by decide)
    rw [wx_0 (by decide)] at z
    exact z
  have hS3 := hS.2.2.1
  refine x_aload (np := 908) (x := 1) (by decide +kernel) rfl (x_nc_le (by decide)) ?_
  refine x_aloadS (np := 909) (x := 0) (by decide +kernel) rfl ?_
  refine x_iload (np := 911) (x := 4) (by decide +kernel) rfl (by omega) ?_
  refine x_const (np := 912) (x := 9223372043297226753) (a := 2147483649) (by decide +kernel) (by decide) (by decide) ?_
  refine x_iadd (np := 913) (x := 0) (v := (2147483648 + (j + 1))) (by decide +kernel) (by omega) (by decide) (by omega) (by omega) ?_
  refine x_scr (j := (j + 1)) hs (np := 914) (x := 0) (by decide +kernel) rfl (by omega) (by omega) ?_
  refine x_aload (np := 915) (x := 3) (by decide +kernel) rfl (x_nc_le (by decide)) ?_
  have b1 : (sv sc (j + 1)) < 4294967296 := sv_lt
  refine x_cIc (t := 0) (mj := 298) (n := 3) (rc := 0) (ml := 4) (cc := 1) (ss := 6) (nr := 0) (np := 918) (as := [x_r 0, iv_c (sv sc (j + 1)), x_r 97]) (rest := []) (lo1 := [x_r 0, iv_c (sv sc (j + 1)), x_r 97, 147573952589676412928]) (by decide +kernel) (by decide) (x_cbV (by decide +kernel) (by show _ ≤ 600000; omega) (by show _ ≤ 7300000; omega)) (Or.inl rfl) rfl rfl (x_wr (by decide) (x_wi sv_lt (x_wr (by decide) x_wn))) x_wn (by decide) rfl (c298_0_97 hJ (by omega)) (fun r4 h2 l5 q3 => ?_)
  obtain ⟨j6, f7, g8⟩ := q3
  have q9 : h2 1 1 = h 1 1 := f7 1 1 (by decide +kernel)
  have q10 : h2 75 6 = h 75 6 := f7 75 6 (by decide +kernel)
  have q11 : h2 76 1 = h 76 1 := f7 76 1 (by decide +kernel)
  have q12 : h2 0 10 = h 0 10 := f7 0 10 (by decide +kernel)
  have q13 : h2 75 4 = h 75 4 := f7 75 4 (by decide +kernel)
  have m14 := WT.fr w76 hJ f7 (by decide)
  have m15 := WT.fr7 w77 hJ f7 (by decide)
  have m16 : h2 75 4 = 2147483649 → 2147483650 ≤ h2 77 0 := by
    rw [f7 75 4 (by decide +kernel), f7 77 0 (by decide +kernel)]
    exact hB
  have e18 := Se.fr hG9 f7 hJ (by decide) (by decide) (by decide) (by decide) (by decide) (by decide)
  have d19 := Sd.fr hD f7 hJ (by decide) (by decide) (by decide) (by decide) (by decide) (by decide) (by decide)
  have s20 := St.fr hS f7 hJ (by decide) (by decide) (by decide) (by decide) (by decide) (by decide)
  have t17 := Ty.fr hY f7 (by decide) (by decide)
  refine x_istore (np := 920) (x := 5) (lo' := [55340232221128654849, x_r 0, x_r 75, x_r 97, iv_c (2147483648 + j), iv_c r4, w6]) (by decide +kernel) l5 (Nat.le_of_ble_eq_true rfl) rfl ?_
  refine x_aload (np := 921) (x := 2) (by decide +kernel) rfl (x_nc_le (by decide)) ?_
  refine x_aloadS (np := 922) (x := 0) (by decide +kernel) rfl ?_
  refine x_iload (np := 924) (x := 4) (by decide +kernel) rfl (by omega) ?_
  refine x_const (np := 925) (x := 9223372043297226753) (a := 2147483649) (by decide +kernel) (by decide) (by decide) ?_
  refine x_iadd (np := 926) (x := 0) (v := (2147483648 + (j + 1))) (by decide +kernel) (by omega) (by decide) (by omega) (by omega) ?_
  refine x_scr (j := (j + 1)) hs (np := 927) (x := 0) (by decide +kernel) rfl (by omega) (by omega) ?_
  have b21 : (sv sc (j + 1)) < 4294967296 := sv_lt
  refine x_cIc (t := 6) (mj := 233) (n := 2) (rc := 12) (ml := 2) (cc := 0) (ss := 0) (nr := 0) (np := 930) (as := [x_r 75, iv_c (sv sc (j + 1))]) (rest := []) (lo1 := [x_r 75, iv_c (sv sc (j + 1))]) (by decide +kernel) (by decide) (x_cbV (by decide +kernel) (by show _ ≤ 600000; omega) (by show _ ≤ 7300000; omega)) (x_rb_of (by decide +kernel)) rfl rfl (x_wr (by decide) (x_wi sv_lt x_wn)) x_wn (by decide) rfl (c233_75 j6 (by omega) m14) (fun r24 h22 l25 q23 => ?_)
  obtain ⟨j26, f27, g28⟩ := q23
  have q29 : h22 1 1 = h2 1 1 := f27 1 1 (by decide +kernel)
  have q30 : h22 75 6 = h2 75 6 := f27 75 6 (by decide +kernel)
  have q31 : h22 76 1 = h2 76 1 := f27 76 1 (by decide +kernel)
  have q32 : h22 0 10 = h2 0 10 := f27 0 10 (by decide +kernel)
  have q33 : h22 75 4 = h2 75 4 := f27 75 4 (by decide +kernel)
  have m34 := WT.fr m14 j6 f27 (by decide)
  have m35 := WT.fr7 m15 j6 f27 (by decide)
  have m36 : h22 75 4 = 2147483649 → 2147483650 ≤ h22 77 0 := by
    rw [f27 75 4 (by decide +kernel), f27 77 0 (by decide +kernel)]
    exact m16
  have e38 := Se.fr e18 f27 j6 (by decide) (by decide) (by decide) (by decide) (by decide) (by decide)
  have d39 := Sd.fr d19 f27 j6 (by decide) (by decide) (by decide) (by decide) (by decide) (by decide) (by decide)
  have s40 := St.fr s20 f27 j6 (by decide) (by decide) (by decide) (by decide) (by decide) (by decide)
  have t37 := Ty.fr t17 f27 (by decide) (by decide)
  refine x_istore (np := 932) (x := 6) (lo' := [55340232221128654849, x_r 0, x_r 75, x_r 97, iv_c (2147483648 + j), iv_c r4, iv_c r24]) (by decide +kernel) l25 (Nat.le_of_ble_eq_true rfl) rfl ?_
  refine x_goto (np := 935) (x := 1404) (by decide +kernel) ?_
  exact k (c0 + 1) (s0 + 6) (iv_c r4) (iv_c r24) h22 (by omega) (by omega) ⟨⟨j26, by omega, m34, m35, m36, by omega⟩, t37, s40, d39, e38⟩
set_option maxHeartbeats 0 in
theorem lc_20 {sc : Nat × Nat} {d j c0 s0 w5 w6 : Nat} {h : xh} {Q : Nat → xh → Prop} (hs : scOK sc) (hI : INV9b h) (hj : j + 6 ≤ sc.1) (hc : c0 + 2 ≤ 600000) (hz : s0 + 12 ≤ 7300000) (k : ∀ c1 s1 v5 v6 h', c1 ≤ c0 + 2 → s1 ≤ s0 + 12 → INV9b h' → X sc 309 (d + 60) Q c1 s1 1404 [55340232221128654849, x_r 0, x_r 75, x_r 97, iv_c (2147483648 + j), v5, v6] [] h') : X sc 309 (d + 60) Q c0 s0 935 [55340232221128654849, x_r 0, x_r 75, x_r 97, iv_c (2147483648 + j), w5, w6] [] h := by
  obtain ⟨⟨hJ, hE, w76, w77, hB, hG⟩, hY, hS, hD, hG9⟩ := hI
  have h384 := hs.1
  have hS1 : tv h 1 = h 76 1 := by
    have z := hS.2.1 1 (by decide)
    rw [wx_0 (by decide)] at z
    exact z
  have hS3 := hS.2.2.1
  refine x_aload (np := 936) (x := 1) (by decide +kernel) rfl (x_nc_le (by decide)) ?_
  refine x_cIc (t := 6) (mj := 132) (n := 1) (rc := 11) (ml := 1) (cc := 0) (ss := 0) (nr := 0) (np := 939) (as := [x_r 0]) (rest := []) (lo1 := [x_r 0]) (by decide +kernel) (by decide) (x_cbV (by decide +kernel) (by show _ ≤ 600000; omega) (by show _ ≤ 7300000; omega)) (x_rb_of (by decide +kernel)) rfl rfl (x_wr (by decide) x_wn) x_wn (by decide) rfl (c132_0 hJ) (fun r3 h1 l4 q2 => ?_)
  obtain ⟨j5, f6, g7⟩ := q2
  have q8 : h1 1 1 = h 1 1 := f6 1 1 (by decide +kernel)
  have q9 : h1 75 6 = h 75 6 := f6 75 6 (by decide +kernel)
  have q10 : h1 76 1 = h 76 1 := f6 76 1 (by decide +kernel)
  have q11 : h1 0 10 = h 0 10 := f6 0 10 (by decide +kernel)
  have q12 : h1 75 4 = h 75 4 := f6 75 4 (by decide +kernel)
  have m13 := WT.fr w76 hJ f6 (by decide)
  have m14 := WT.fr7 w77 hJ f6 (by decide)
  have m15 : h1 75 4 = 2147483649 → 2147483650 ≤ h1 77 0 := by
    rw [f6 75 4 (by decide +kernel), f6 77 0 (by decide +kernel)]
    exact hB
  have e17 := Se.fr hG9 f6 hJ (by decide) (by decide) (by decide) (by decide) (by decide) (by decide)
  have d18 := Sd.fr hD f6 hJ (by decide) (by decide) (by decide) (by decide) (by decide) (by decide) (by decide)
  have s19 := St.fr hS f6 hJ (by decide) (by decide) (by decide) (by decide) (by decide) (by decide)
  have t16 := Ty.fr hY f6 (by decide) (by decide)
  refine x_pop (by decide +kernel) l4 ?_
  refine x_aload (np := 941) (x := 2) (by decide +kernel) rfl (x_nc_le (by decide)) ?_
  refine x_cIc (t := 6) (mj := 234) (n := 1) (rc := 12) (ml := 1) (cc := 0) (ss := 0) (nr := 0) (np := 944) (as := [x_r 75]) (rest := []) (lo1 := [x_r 75]) (by decide +kernel) (by decide) (x_cbV (by decide +kernel) (by show _ ≤ 600000; omega) (by show _ ≤ 7300000; omega)) (x_rb_of (by decide +kernel)) rfl rfl (x_wr (by decide) x_wn) x_wn (by decide) rfl (c234_75 j5 m13) (fun r22 h20 l23 q21 => ?_)
  obtain ⟨j24, f25, g26⟩ := q21
  have q27 : h20 1 1 = h1 1 1 := f25 1 1 (by decide +kernel)
  have q28 : h20 75 6 = h1 75 6 := f25 75 6 (by decide +kernel)
  have q29 : h20 76 1 = h1 76 1 := f25 76 1 (by decide +kernel)
  have q30 : h20 0 10 = h1 0 10 := f25 0 10 (by decide +kernel)
  have q31 : h20 75 4 = h1 75 4 := f25 75 4 (by decide +kernel)
  have m32 := WT.fr m13 j5 f25 (by decide)
  have m33 := WT.fr7 m14 j5 f25 (by decide)
  have m34 : h20 75 4 = 2147483649 → 2147483650 ≤ h20 77 0 := by
    rw [f25 75 4 (by decide +kernel), f25 77 0 (by decide +kernel)]
    exact m15
  have e36 := Se.fr e17 f25 j5 (by decide) (by decide) (by decide) (by decide) (by decide) (by decide)
  have d37 := Sd.fr d18 f25 j5 (by decide) (by decide) (by decide) (by decide) (by decide) (by decide) (by decide)
  have s38 := St.fr s19 f25 j5 (by decide) (by decide) (by decide) (by decide) (by decide) (by decide)
  have t35 := Ty.fr t16 f25 (by decide) (by decide)
  refine x_pop (by decide +kernel) l23 ?_
  refine x_goto (np := 948) (x := 1404) (by decide +kernel) ?_
  exact k c0 s0 w5 w6 h20 (by omega) (by omega) ⟨⟨j24, by omega, m32, m33, m34, by omega⟩, t35, s38, d37, e36⟩
set_option maxHeartbeats 0 in
theorem lc_21 {sc : Nat × Nat} {d j c0 s0 w5 w6 : Nat} {h : xh} {Q : Nat → xh → Prop} (hs : scOK sc) (hI : INV9b h) (hj : j + 6 ≤ sc.1) (hc : c0 + 2 ≤ 600000) (hz : s0 + 12 ≤ 7300000) (k : ∀ c1 s1 v5 v6 h', c1 ≤ c0 + 2 → s1 ≤ s0 + 12 → INV9b h' → X sc 309 (d + 60) Q c1 s1 1404 [55340232221128654849, x_r 0, x_r 75, x_r 97, iv_c (2147483648 + j), v5, v6] [] h') : X sc 309 (d + 60) Q c0 s0 948 [55340232221128654849, x_r 0, x_r 75, x_r 97, iv_c (2147483648 + j), w5, w6] [] h := by
  obtain ⟨⟨hJ, hE, w76, w77, hB, hG⟩, hY, hS, hD, hG9⟩ := hI
  have h384 := hs.1
  have hS1 : tv h 1 = h 76 1 := by
    have z := hS.2.1 1 (by decide)
    rw [wx_0 (by decide)] at z
    exact z
  have hS3 := hS.2.2.1
  refine x_aload (np := 949) (x := 1) (by decide +kernel) rfl (x_nc_le (by decide)) ?_
  refine x_aloadS (np := 950) (x := 0) (by decide +kernel) rfl ?_
  refine x_iload (np := 952) (x := 4) (by decide +kernel) rfl (by omega) ?_
  refine x_const (np := 953) (x := 9223372043297226753) (a := 2147483649) (by decide +kernel) (by decide) (by decide) ?_
  refine x_iadd (np := 954) (x := 0) (v := (2147483648 + (j + 1))) (by decide +kernel) (by omega) (by decide) (by omega) (by omega) ?_
  refine x_scr (j := (j + 1)) hs (np := 955) (x := 0) (by decide +kernel) rfl (by omega) (by omega) ?_
  refine x_aload (np := 956) (x := 3) (by decide +kernel) rfl (x_nc_le (by decide)) ?_
  have b1 : (sv sc (j + 1)) < 4294967296 := sv_lt
  refine x_cIc (t := 0) (mj := 299) (n := 3) (rc := 0) (ml := 4) (cc := 1) (ss := 6) (nr := 0) (np := 959) (as := [x_r 0, iv_c (sv sc (j + 1)), x_r 97]) (rest := []) (lo1 := [x_r 0, iv_c (sv sc (j + 1)), x_r 97, 147573952589676412928]) (by decide +kernel) (by decide) (x_cbV (by decide +kernel) (by show _ ≤ 600000; omega) (by show _ ≤ 7300000; omega)) (Or.inl rfl) rfl rfl (x_wr (by decide) (x_wi sv_lt (x_wr (by decide) x_wn))) x_wn (by decide) rfl (c299_0_97 hJ (by omega)) (fun r4 h2 l5 q3 => ?_)
  obtain ⟨j6, f7, g8⟩ := q3
  have q9 : h2 1 1 = h 1 1 := f7 1 1 (by decide +kernel)
  have q10 : h2 75 6 = h 75 6 := f7 75 6 (by decide +kernel)
  have q11 : h2 76 1 = h 76 1 := f7 76 1 (by decide +kernel)
  have q12 : h2 0 10 = h 0 10 := f7 0 10 (by decide +kernel)
  have q13 : h2 75 4 = h 75 4 := f7 75 4 (by decide +kernel)
  have m14 := WT.fr w76 hJ f7 (by decide)
  have m15 := WT.fr7 w77 hJ f7 (by decide)
  have m16 : h2 75 4 = 2147483649 → 2147483650 ≤ h2 77 0 := by
    rw [f7 75 4 (by decide +kernel), f7 77 0 (by decide +kernel)]
    exact hB
  have e18 := Se.fr hG9 f7 hJ (by decide) (by decide) (by decide) (by decide) (by decide) (by decide)
  have d19 := Sd.fr hD f7 hJ (by decide) (by decide) (by decide) (by decide) (by decide) (by decide) (by decide)
  have s20 := St.fr hS f7 hJ (by decide) (by decide) (by decide) (by decide) (by decide) (by decide)
  have t17 := Ty.fr hY f7 (by decide) (by decide)
  refine x_istore (np := 961) (x := 5) (lo' := [55340232221128654849, x_r 0, x_r 75, x_r 97, iv_c (2147483648 + j), iv_c r4, w6]) (by decide +kernel) l5 (Nat.le_of_ble_eq_true rfl) rfl ?_
  refine x_aload (np := 962) (x := 2) (by decide +kernel) rfl (x_nc_le (by decide)) ?_
  refine x_aloadS (np := 963) (x := 0) (by decide +kernel) rfl ?_
  refine x_iload (np := 965) (x := 4) (by decide +kernel) rfl (by omega) ?_
  refine x_const (np := 966) (x := 9223372043297226753) (a := 2147483649) (by decide +kernel) (by decide) (by decide) ?_
  refine x_iadd (np := 967) (x := 0) (v := (2147483648 + (j + 1))) (by decide +kernel) (by omega) (by decide) (by omega) (by omega) ?_
  refine x_scr (j := (j + 1)) hs (np := 968) (x := 0) (by decide +kernel) rfl (by omega) (by omega) ?_
  have b21 : (sv sc (j + 1)) < 4294967296 := sv_lt
  refine x_cIc (t := 6) (mj := 235) (n := 2) (rc := 12) (ml := 4) (cc := 0) (ss := 0) (nr := 0) (np := 971) (as := [x_r 75, iv_c (sv sc (j + 1))]) (rest := []) (lo1 := [x_r 75, iv_c (sv sc (j + 1)), 147573952589676412928, 147573952589676412928]) (by decide +kernel) (by decide) (x_cbV (by decide +kernel) (by show _ ≤ 600000; omega) (by show _ ≤ 7300000; omega)) (x_rb_of (by decide +kernel)) rfl rfl (x_wr (by decide) (x_wi sv_lt x_wn)) x_wn (by decide) rfl (c235_75 j6 (by omega) m14) (fun r24 h22 l25 q23 => ?_)
  obtain ⟨j26, f27, g28⟩ := q23
  have q29 : h22 1 1 = h2 1 1 := f27 1 1 (by decide +kernel)
  have q30 : h22 75 6 = h2 75 6 := f27 75 6 (by decide +kernel)
  have q31 : h22 76 1 = h2 76 1 := f27 76 1 (by decide +kernel)
  have q32 : h22 0 10 = h2 0 10 := f27 0 10 (by decide +kernel)
  have q33 : h22 75 4 = h2 75 4 := f27 75 4 (by decide +kernel)
  have m34 := WT.fr m14 j6 f27 (by decide)
  have m35 := WT.fr7 m15 j6 f27 (by decide)
  have m36 : h22 75 4 = 2147483649 → 2147483650 ≤ h22 77 0 := by
    rw [f27 75 4 (by decide +kernel), f27 77 0 (by decide +kernel)]
    exact m16
  have e38 := Se.fr e18 f27 j6 (by decide) (by decide) (by decide) (by decide) (by decide) (by decide)
  have d39 := Sd.fr d19 f27 j6 (by decide) (by decide) (by decide) (by decide) (by decide) (by decide) (by decide)
  have s40 := St.fr s20 f27 j6 (by decide) (by decide) (by decide) (by decide) (by decide) (by decide)
  have t37 := Ty.fr t17 f27 (by decide) (by decide)
  refine x_istore (np := 973) (x := 6) (lo' := [55340232221128654849, x_r 0, x_r 75, x_r 97, iv_c (2147483648 + j), iv_c r4, iv_c r24]) (by decide +kernel) l25 (Nat.le_of_ble_eq_true rfl) rfl ?_
  refine x_goto (np := 976) (x := 1404) (by decide +kernel) ?_
  exact k (c0 + 1) (s0 + 6) (iv_c r4) (iv_c r24) h22 (by omega) (by omega) ⟨⟨j26, by omega, m34, m35, m36, by omega⟩, t37, s40, d39, e38⟩
set_option maxHeartbeats 0 in
theorem lc_22 {sc : Nat × Nat} {d j c0 s0 w5 w6 : Nat} {h : xh} {Q : Nat → xh → Prop} (hs : scOK sc) (hI : INV9b h) (hj : j + 6 ≤ sc.1) (hc : c0 + 2 ≤ 600000) (hz : s0 + 12 ≤ 7300000) (k : ∀ c1 s1 v5 v6 h', c1 ≤ c0 + 2 → s1 ≤ s0 + 12 → INV9b h' → X sc 309 (d + 60) Q c1 s1 1404 [55340232221128654849, x_r 0, x_r 75, x_r 97, iv_c (2147483648 + j), v5, v6] [] h') : X sc 309 (d + 60) Q c0 s0 976 [55340232221128654849, x_r 0, x_r 75, x_r 97, iv_c (2147483648 + j), w5, w6] [] h := by
  obtain ⟨⟨hJ, hE, w76, w77, hB, hG⟩, hY, hS, hD, hG9⟩ := hI
  have h384 := hs.1
  have hS1 : tv h 1 = h 76 1 := by
    have z := hS.2.1 1 (by decide)
    rw [wx_0 (by decide)] at z
    exact z
  have hS3 := hS.2.2.1
  refine x_aload (np := 977) (x := 1) (by decide +kernel) rfl (x_nc_le (by decide)) ?_
  refine x_aloadS (np := 978) (x := 0) (by decide +kernel) rfl ?_
  refine x_iload (np := 980) (x := 4) (by decide +kernel) rfl (by omega) ?_
  refine x_const (np := 981) (x := 9223372043297226753) (a := 2147483649) (by decide +kernel) (by decide) (by decide) ?_
  refine x_iadd (np := 982) (x := 0) (v := (2147483648 + (j + 1))) (by decide +kernel) (by omega) (by decide) (by omega) (by omega) ?_
  refine x_scr (j := (j + 1)) hs (np := 983) (x := 0) (by decide +kernel) rfl (by omega) (by omega) ?_
  refine x_aloadS (np := 984) (x := 0) (by decide +kernel) rfl ?_
  refine x_iload (np := 986) (x := 4) (by decide +kernel) rfl (by omega) ?_
  refine x_const (np := 987) (x := 9223372047592194050) (a := 2147483650) (by decide +kernel) (by decide) (by decide) ?_
  refine x_iadd (np := 988) (x := 0) (v := (2147483648 + (j + 2))) (by decide +kernel) (by omega) (by decide) (by omega) (by omega) ?_
  refine x_scr (j := (j + 2)) hs (np := 989) (x := 0) (by decide +kernel) rfl (by omega) (by omega) ?_
  refine x_ifz (k := 0) (tg := 996) (np := 992) (by decide +kernel) (by decide) sv_lt (fun q1 => ?_) (fun q1 => ?_)
  · skip
    have q1 : (sv sc (j + 2)) = 2147483648 := q1
    refine x_const (np := 997) (x := 9223372039002259456) (a := 2147483648) (by decide +kernel) (by decide) (by decide) ?_
    refine x_aload (np := 998) (x := 3) (by decide +kernel) rfl (x_nc_le (by decide)) ?_
    have b2 : (sv sc (j + 1)) < 4294967296 := sv_lt
    refine x_cIc (t := 0) (mj := 300) (n := 4) (rc := 0) (ml := 5) (cc := 1) (ss := 6) (nr := 0) (np := 1001) (as := [x_r 0, iv_c (sv sc (j + 1)), iv_c 2147483648, x_r 97]) (rest := []) (lo1 := [x_r 0, iv_c (sv sc (j + 1)), iv_c 2147483648, x_r 97, 147573952589676412928]) (by decide +kernel) (by decide) (x_cbV (by decide +kernel) (by show _ ≤ 600000; omega) (by show _ ≤ 7300000; omega)) (Or.inl rfl) rfl rfl (x_wr (by decide) (x_wi sv_lt (x_wi (by decide) (x_wr (by decide) x_wn)))) x_wn (by decide) rfl (c300_0_97 hJ (by omega) (by omega)) (fun r5 h3 l6 q4 => ?_)
    obtain ⟨j7, f8, g9⟩ := q4
    have q10 : h3 1 1 = h 1 1 := f8 1 1 (by decide +kernel)
    have q11 : h3 75 6 = h 75 6 := f8 75 6 (by decide +kernel)
    have q12 : h3 76 1 = h 76 1 := f8 76 1 (by decide +kernel)
    have q13 : h3 0 10 = h 0 10 := f8 0 10 (by decide +kernel)
    have q14 : h3 75 4 = h 75 4 := f8 75 4 (by decide +kernel)
    have m15 := WT.fr w76 hJ f8 (by decide)
    have m16 := WT.fr7 w77 hJ f8 (by decide)
    have m17 : h3 75 4 = 2147483649 → 2147483650 ≤ h3 77 0 := by
      rw [f8 75 4 (by decide +kernel), f8 77 0 (by decide +kernel)]
      exact hB
    have e19 := Se.fr hG9 f8 hJ (by decide) (by decide) (by decide) (by decide) (by decide) (by decide)
    have d20 := Sd.fr hD f8 hJ (by decide) (by decide) (by decide) (by decide) (by decide) (by decide) (by decide)
    have s21 := St.fr hS f8 hJ (by decide) (by decide) (by decide) (by decide) (by decide) (by decide)
    have t18 := Ty.fr hY f8 (by decide) (by decide)
    refine x_istore (np := 1003) (x := 5) (lo' := [55340232221128654849, x_r 0, x_r 75, x_r 97, iv_c (2147483648 + j), iv_c r5, w6]) (by decide +kernel) l6 (Nat.le_of_ble_eq_true rfl) rfl ?_
    refine x_aload (np := 1004) (x := 2) (by decide +kernel) rfl (x_nc_le (by decide)) ?_
    refine x_aloadS (np := 1005) (x := 0) (by decide +kernel) rfl ?_
    refine x_iload (np := 1007) (x := 4) (by decide +kernel) rfl (by omega) ?_
    refine x_const (np := 1008) (x := 9223372043297226753) (a := 2147483649) (by decide +kernel) (by decide) (by decide) ?_
    refine x_iadd (np := 1009) (x := 0) (v := (2147483648 + (j + 1))) (by decide +kernel) (by omega) (by decide) (by omega) (by omega) ?_
    refine x_scr (j := (j + 1)) hs (np := 1010) (x := 0) (by decide +kernel) rfl (by omega) (by omega) ?_
    refine x_aloadS (np := 1011) (x := 0) (by decide +kernel) rfl ?_
    refine x_iload (np := 1013) (x := 4) (by decide +kernel) rfl (by omega) ?_
    refine x_const (np := 1014) (x := 9223372047592194050) (a := 2147483650) (by decide +kernel) (by decide) (by decide) ?_
    refine x_iadd (np := 1015) (x := 0) (v := (2147483648 + (j + 2))) (by decide +kernel) (by omega) (by decide) (by omega) (by omega) ?_
    refine x_scr (j := (j + 2)) hs (np := 1016) (x := 0) (by decide +kernel) rfl (by omega) (by omega) ?_
    refine x_ifz (k := 0) (tg := 1023) (np := 1019) (by decide +kernel) (by decide) sv_lt (fun q22 => ?_) (fun q22 => ?_)
    · skip
      have q22 : (sv sc (j + 2)) = 2147483648 := q22
      refine x_const (np := 1024) (x := 9223372039002259456) (a := 2147483648) (by decide +kernel) (by decide) (by decide) ?_
      have b23 : (sv sc (j + 1)) < 4294967296 := sv_lt
      refine x_cIc (t := 6) (mj := 237) (n := 3) (rc := 12) (ml := 5) (cc := 0) (ss := 0) (nr := 0) (np := 1027) (as := [x_r 75, iv_c (sv sc (j + 1)), iv_c 2147483648]) (rest := []) (lo1 := [x_r 75, iv_c (sv sc (j + 1)), iv_c 2147483648, 147573952589676412928, 147573952589676412928]) (by decide +kernel) (by decide) (x_cbV (by decide +kernel) (by show _ ≤ 600000; omega) (by show _ ≤ 7300000; omega)) (x_rb_of (by decide +kernel)) rfl rfl (x_wr (by decide) (x_wi sv_lt (x_wi (by decide) x_wn))) x_wn (by decide) rfl (c237_75 j7 (by omega) (by omega) m15) (fun r26 h24 l27 q25 => ?_)
      obtain ⟨j28, f29, g30⟩ := q25
      have q31 : h24 1 1 = h3 1 1 := f29 1 1 (by decide +kernel)
      have q32 : h24 75 6 = h3 75 6 := f29 75 6 (by decide +kernel)
      have q33 : h24 76 1 = h3 76 1 := f29 76 1 (by decide +kernel)
      have q34 : h24 0 10 = h3 0 10 := f29 0 10 (by decide +kernel)
      have q35 : h24 75 4 = h3 75 4 := f29 75 4 (by decide +kernel)
      have m36 := WT.fr m15 j7 f29 (by decide)
      have m37 := WT.fr7 m16 j7 f29 (by decide)
      have m38 : h24 75 4 = 2147483649 → 2147483650 ≤ h24 77 0 := by
        rw [f29 75 4 (by decide +kernel), f29 77 0 (by decide +kernel)]
        exact m17
      have e40 := Se.fr e19 f29 j7 (by decide) (by decide) (by decide) (by decide) (by decide) (by decide)
      have d41 := Sd.fr d20 f29 j7 (by decide) (by decide) (by decide) (by decide) (by decide) (by decide) (by decide)
      have s42 := St.fr s21 f29 j7 (by decide) (by decide) (by decide) (by decide) (by decide) (by decide)
      have t39 := Ty.fr t18 f29 (by decide) (by decide)
      refine x_istore (np := 1029) (x := 6) (lo' := [55340232221128654849, x_r 0, x_r 75, x_r 97, iv_c (2147483648 + j), iv_c r5, iv_c r26]) (by decide +kernel) l27 (Nat.le_of_ble_eq_true rfl) rfl ?_
      refine x_goto (np := 1032) (x := 1404) (by decide +kernel) ?_
      exact k (c0 + 1) (s0 + 6) (iv_c r5) (iv_c r26) h24 (by omega) (by omega) ⟨⟨j28, by omega, m36, m37, m38, by omega⟩, t39, s42, d41, e40⟩
    have q22 : ¬ ((sv sc (j + 2)) = 2147483648) := q22
    refine x_const (np := 1020) (x := 9223372043297226753) (a := 2147483649) (by decide +kernel) (by decide) (by decide) ?_
    refine x_goto (np := 1023) (x := 1024) (by decide +kernel) ?_
    have b43 : (sv sc (j + 1)) < 4294967296 := sv_lt
    refine x_cIc (t := 6) (mj := 237) (n := 3) (rc := 12) (ml := 5) (cc := 0) (ss := 0) (nr := 0) (np := 1027) (as := [x_r 75, iv_c (sv sc (j + 1)), iv_c 2147483649]) (rest := []) (lo1 := [x_r 75, iv_c (sv sc (j + 1)), iv_c 2147483649, 147573952589676412928, 147573952589676412928]) (by decide +kernel) (by decide) (x_cbV (by decide +kernel) (by show _ ≤ 600000; omega) (by show _ ≤ 7300000; omega)) (x_rb_of (by decide +kernel)) rfl rfl (x_wr (by decide) (x_wi sv_lt (x_wi (by decide) x_wn))) x_wn (by decide) rfl (c237_75 j7 (by omega) (by omega) m15) (fun r46 h44 l47 q45 => ?_)
    obtain ⟨j48, f49, g50⟩ := q45
    have q51 : h44 1 1 = h3 1 1 := f49 1 1 (by decide +kernel)
    have q52 : h44 75 6 = h3 75 6 := f49 75 6 (by decide +kernel)
    have q53 : h44 76 1 = h3 76 1 := f49 76 1 (by decide +kernel)
    have q54 : h44 0 10 = h3 0 10 := f49 0 10 (by decide +kernel)
    have q55 : h44 75 4 = h3 75 4 := f49 75 4 (by decide +kernel)
    have m56 := WT.fr m15 j7 f49 (by decide)
    have m57 := WT.fr7 m16 j7 f49 (by decide)
    have m58 : h44 75 4 = 2147483649 → 2147483650 ≤ h44 77 0 := by
      rw [f49 75 4 (by decide +kernel), f49 77 0 (by decide +kernel)]
      exact m17
    have e60 := Se.fr e19 f49 j7 (by decide) (by decide) (by decide) (by decide) (by decide) (by decide)
    have d61 := Sd.fr d20 f49 j7 (by decide) (by decide) (by decide) (by decide) (by decide) (by decide) (by decide)
    have s62 := St.fr s21 f49 j7 (by decide) (by decide) (by decide) (by decide) (by decide) (by decide)
    have t59 := Ty.fr t18 f49 (by decide) (by decide)
    refine x_istore (np := 1029) (x := 6) (lo' := [55340232221128654849, x_r 0, x_r 75, x_r 97, iv_c (2147483648 + j), iv_c r5, iv_c r46]) (by decide +kernel) l47 (Nat.le_of_ble_eq_true rfl) rfl ?_
    refine x_goto (np := 1032) (x := 1404) (by decide +kernel) ?_
    exact k (c0 + 1) (s0 + 6) (iv_c r5) (iv_c r46) h44 (by omega) (by omega) ⟨⟨j48, by omega, m56, m57, m58, by omega⟩, t59, s62, d61, e60⟩
  have q1 : ¬ ((sv sc (j + 2)) = 2147483648) := q1
  refine x_const (np := 993) (x := 9223372043297226753) (a := 2147483649) (by decide +kernel) (by decide) (by decide) ?_
  refine x_goto (np := 996) (x := 997) (by decide +kernel) ?_
  refine x_aload (np := 998) (x := 3) (by decide +kernel) rfl (x_nc_le (by decide)) ?_
  have b63 : (sv sc (j + 1)) < 4294967296 := sv_lt
  refine x_cIc (t := 0) (mj := 300) (n := 4) (rc := 0) (ml := 5) (cc := 1) (ss := 6) (nr := 0) (np := 1001) (as := [x_r 0, iv_c (sv sc (j + 1)), iv_c 2147483649, x_r 97]) (rest := []) (lo1 := [x_r 0, iv_c (sv sc (j + 1)), iv_c 2147483649, x_r 97, 147573952589676412928]) (by decide +kernel) (by decide) (x_cbV (by decide +kernel) (by show _ ≤ 600000; omega) (by show _ ≤ 7300000; omega)) (Or.inl rfl) rfl rfl (x_wr (by decide) (x_wi sv_lt (x_wi (by decide) (x_wr (by decide) x_wn)))) x_wn (by decide) rfl (c300_0_97 hJ (by omega) (by omega)) (fun r66 h64 l67 q65 => ?_)
  obtain ⟨j68, f69, g70⟩ := q65
  have q71 : h64 1 1 = h 1 1 := f69 1 1 (by decide +kernel)
  have q72 : h64 75 6 = h 75 6 := f69 75 6 (by decide +kernel)
  have q73 : h64 76 1 = h 76 1 := f69 76 1 (by decide +kernel)
  have q74 : h64 0 10 = h 0 10 := f69 0 10 (by decide +kernel)
  have q75 : h64 75 4 = h 75 4 := f69 75 4 (by decide +kernel)
  have m76 := WT.fr w76 hJ f69 (by decide)
  have m77 := WT.fr7 w77 hJ f69 (by decide)
  have m78 : h64 75 4 = 2147483649 → 2147483650 ≤ h64 77 0 := by
    rw [f69 75 4 (by decide +kernel), f69 77 0 (by decide +kernel)]
    exact hB
  have e80 := Se.fr hG9 f69 hJ (by decide) (by decide) (by decide) (by decide) (by decide) (by decide)
  have d81 := Sd.fr hD f69 hJ (by decide) (by decide) (by decide) (by decide) (by decide) (by decide) (by decide)
  have s82 := St.fr hS f69 hJ (by decide) (by decide) (by decide) (by decide) (by decide) (by decide)
  have t79 := Ty.fr hY f69 (by decide) (by decide)
  refine x_istore (np := 1003) (x := 5) (lo' := [55340232221128654849, x_r 0, x_r 75, x_r 97, iv_c (2147483648 + j), iv_c r66, w6]) (by decide +kernel) l67 (Nat.le_of_ble_eq_true rfl) rfl ?_
  refine x_aload (np := 1004) (x := 2) (by decide +kernel) rfl (x_nc_le (by decide)) ?_
  refine x_aloadS (np := 1005) (x := 0) (by decide +kernel) rfl ?_
  refine x_iload (np := 1007) (x := 4) (by decide +kernel) rfl (by omega) ?_
  refine x_const (np := 1008) (x := 9223372043297226753) (a := 2147483649) (by decide +kernel) (by decide) (by decide) ?_
  refine x_iadd (np := 1009) (x := 0) (v := (2147483648 + (j + 1))) (by decide +kernel) (by omega) (by decide) (by omega) (by omega) ?_
  refine x_scr (j := (j + 1)) hs (np := 1010) (x := 0) (by decide +kernel) rfl (by omega) (by omega) ?_
  refine x_aloadS (np := 1011) (x := 0) (by decide +kernel) rfl ?_
  refine x_iload (np := 1013) (x := 4) (by decide +kernel) rfl (by omega) ?_
  refine x_const (np := 1014) (x := 9223372047592194050) (a := 2147483650) (by decide +kernel) (by decide) (by decide) ?_
  refine x_iadd (np := 1015) (x := 0) (v := (2147483648 + (j + 2))) (by decide +kernel) (by omega) (by decide) (by omega) (by omega) ?_
  refine x_scr (j := (j + 2)) hs (np := 1016) (x := 0) (by decide +kernel) rfl (by omega) (by omega) ?_
  refine x_ifz (k := 0) (tg := 1023) (np := 1019) (by decide +kernel) (by decide) sv_lt (fun q83 => ?_) (fun q83 => ?_)
  · skip
    have q83 : (sv sc (j + 2)) = 2147483648 := q83
    refine x_const (np := 1024) (x := 9223372039002259456) (a := 2147483648) (by decide +kernel) (by decide) (by decide) ?_
    have b84 : (sv sc (j + 1)) < 4294967296 := sv_lt
    refine x_cIc (t := 6) (mj := 237) (n := 3) (rc := 12) (ml := 5) (cc := 0) (ss := 0) (nr := 0) (np := 1027) (as := [x_r 75, iv_c (sv sc (j + 1)), iv_c 2147483648]) (rest := []) (lo1 := [x_r 75, iv_c (sv sc (j + 1)), iv_c 2147483648, 147573952589676412928, 147573952589676412928]) (by decide +kernel) (by decide) (x_cbV (by decide +kernel) (by show _ ≤ 600000; omega) (by show _ ≤ 7300000; omega)) (x_rb_of (by decide +kernel)) rfl rfl (x_wr (by decide) (x_wi sv_lt (x_wi (by decide) x_wn))) x_wn (by decide) rfl (c237_75 j68 (by omega) (by omega) m76) (fun r87 h85 l88 q86 => ?_)
    obtain ⟨j89, f90, g91⟩ := q86
    have q92 : h85 1 1 = h64 1 1 := f90 1 1 (by decide +kernel)
    have q93 : h85 75 6 = h64 75 6 := f90 75 6 (by decide +kernel)
    have q94 : h85 76 1 = h64 76 1 := f90 76 1 (by decide +kernel)
    have q95 : h85 0 10 = h64 0 10 := f90 0 10 (by decide +kernel)
    have q96 : h85 75 4 = h64 75 4 := f90 75 4 (by decide +kernel)
    have m97 := WT.fr m76 j68 f90 (by decide)
    have m98 := WT.fr7 m77 j68 f90 (by decide)
    have m99 : h85 75 4 = 2147483649 → 2147483650 ≤ h85 77 0 := by
      rw [f90 75 4 (by decide +kernel), f90 77 0 (by decide +kernel)]
      exact m78
    have e101 := Se.fr e80 f90 j68 (by decide) (by decide) (by decide) (by decide) (by decide) (by decide)
    have d102 := Sd.fr d81 f90 j68 (by decide) (by decide) (by decide) (by decide) (by decide) (by decide) (by decide)
    have s103 := St.fr s82 f90 j68 (by decide) (by decide) (by decide) (by decide) (by decide) (by decide)
    have t100 := Ty.fr t79 f90 (by decide) (by decide)
    refine x_istore (np := 1029) (x := 6) (lo' := [55340232221128654849, x_r 0, x_r 75, x_r 97, iv_c (2147483648 + j), iv_c r66, iv_c r87]) (by decide +kernel) l88 (Nat.le_of_ble_eq_true rfl) rfl ?_
    refine x_goto (np := 1032) (x := 1404) (by decide +kernel) ?_
    exact k (c0 + 1) (s0 + 6) (iv_c r66) (iv_c r87) h85 (by omega) (by omega) ⟨⟨j89, by omega, m97, m98, m99, by omega⟩, t100, s103, d102, e101⟩
  have q83 : ¬ ((sv sc (j + 2)) = 2147483648) := q83
  refine x_const (np := 1020) (x := 9223372043297226753) (a := 2147483649) (by decide +kernel) (by decide) (by decide) ?_
  refine x_goto (np := 1023) (x := 1024) (by decide +kernel) ?_
  have b104 : (sv sc (j + 1)) < 4294967296 := sv_lt
  refine x_cIc (t := 6) (mj := 237) (n := 3) (rc := 12) (ml := 5) (cc := 0) (ss := 0) (nr := 0) (np := 1027) (as := [x_r 75, iv_c (sv sc (j + 1)), iv_c 2147483649]) (rest := []) (lo1 := [x_r 75, iv_c (sv sc (j + 1)), iv_c 2147483649, 147573952589676412928, 147573952589676412928]) (by decide +kernel) (by decide) (x_cbV (by decide +kernel) (by show _ ≤ 600000; omega) (by show _ ≤ 7300000; omega)) (x_rb_of (by decide +kernel)) rfl rfl (x_wr (by decide) (x_wi sv_lt (x_wi (by decide) x_wn))) x_wn (by decide) rfl (c237_75 j68 (by omega) (by omega) m76) (fun r107 h105 l108 q106 => ?_)
  obtain ⟨j109, f110, g111⟩ := q106
  have q112 : h105 1 1 = h64 1 1 := f110 1 1 (by decide +kernel)
  have q113 : h105 75 6 = h64 75 6 := f110 75 6 (by decide +kernel)
  have q114 : h105 76 1 = h64 76 1 := f110 76 1 (by decide +kernel)
  have q115 : h105 0 10 = h64 0 10 := f110 0 10 (by decide +kernel)
  have q116 : h105 75 4 = h64 75 4 := f110 75 4 (by decide +kernel)
  have m117 := WT.fr m76 j68 f110 (by decide)
  have m118 := WT.fr7 m77 j68 f110 (by decide)
  have m119 : h105 75 4 = 2147483649 → 2147483650 ≤ h105 77 0 := by
    rw [f110 75 4 (by decide +kernel), f110 77 0 (by decide +kernel)]
    exact m78
  have e121 := Se.fr e80 f110 j68 (by decide) (by decide) (by decide) (by decide) (by decide) (by decide)
  have d122 := Sd.fr d81 f110 j68 (by decide) (by decide) (by decide) (by decide) (by decide) (by decide) (by decide)
  have s123 := St.fr s82 f110 j68 (by decide) (by decide) (by decide) (by decide) (by decide) (by decide)
  have t120 := Ty.fr t79 f110 (by decide) (by decide)
  refine x_istore (np := 1029) (x := 6) (lo' := [55340232221128654849, x_r 0, x_r 75, x_r 97, iv_c (2147483648 + j), iv_c r66, iv_c r107]) (by decide +kernel) l108 (Nat.le_of_ble_eq_true rfl) rfl ?_
  refine x_goto (np := 1032) (x := 1404) (by decide +kernel) ?_
  exact k (c0 + 1) (s0 + 6) (iv_c r66) (iv_c r107) h105 (by omega) (by omega) ⟨⟨j109, by omega, m117, m118, m119, by omega⟩, t120, s123, d122, e121⟩
set_option maxHeartbeats 0 in
theorem lc_23 {sc : Nat × Nat} {d j c0 s0 w5 w6 : Nat} {h : xh} {Q : Nat → xh → Prop} (hs : scOK sc) (hI : INV9b h) (hj : j + 6 ≤ sc.1) (hc : c0 + 2 ≤ 600000) (hz : s0 + 12 ≤ 7300000) (k : ∀ c1 s1 v5 v6 h', c1 ≤ c0 + 2 → s1 ≤ s0 + 12 → INV9b h' → X sc 309 (d + 60) Q c1 s1 1404 [55340232221128654849, x_r 0, x_r 75, x_r 97, iv_c (2147483648 + j), v5, v6] [] h') : X sc 309 (d + 60) Q c0 s0 1032 [55340232221128654849, x_r 0, x_r 75, x_r 97, iv_c (2147483648 + j), w5, w6] [] h := by
  obtain ⟨⟨hJ, hE, w76, w77, hB, hG⟩, hY, hS, hD, hG9⟩ := hI
  have h384 := hs.1
  have hS1 : tv h 1 = h 76 1 := by
    have z := hS.2.1 1 (by decide)
    rw [wx_0 (by decide)] at z
    exact z
  have hS3 := hS.2.2.1
  refine x_aload (np := 1033) (x := 1) (by decide +kernel) rfl (x_nc_le (by decide)) ?_
  refine x_cIc (t := 6) (mj := 121) (n := 1) (rc := 11) (ml := 3) (cc := 0) (ss := 0) (nr := 0) (np := 1036) (as := [x_r 0]) (rest := []) (lo1 := [x_r 0, 147573952589676412928, 147573952589676412928]) (by decide +kernel) (by decide) (x_cbV (by decide +kernel) (by show _ ≤ 600000; omega) (by show _ ≤ 7300000; omega)) (x_rb_of (by decide +kernel)) rfl rfl (x_wr (by decide) x_wn) x_wn (by decide) rfl (c121_0 hJ) (fun r3 h1 l4 q2 => ?_)
  obtain ⟨q5, b6⟩ := q2
  rw [q5]
  refine x_pop (by decide +kernel) l4 ?_
  refine x_aload (np := 1038) (x := 2) (by decide +kernel) rfl (x_nc_le (by decide)) ?_
  refine x_cIc (t := 6) (mj := 238) (n := 1) (rc := 12) (ml := 3) (cc := 0) (ss := 0) (nr := 0) (np := 1041) (as := [x_r 75]) (rest := []) (lo1 := [x_r 75, 147573952589676412928, 147573952589676412928]) (by decide +kernel) (by decide) (x_cbV (by decide +kernel) (by show _ ≤ 600000; omega) (by show _ ≤ 7300000; omega)) (x_rb_of (by decide +kernel)) rfl rfl (x_wr (by decide) x_wn) x_wn (by decide) rfl (c238_75 hJ w76) (fun r9 h7 l10 q8 => ?_)
  obtain ⟨j11, f12, g13⟩ := q8
  have q14 : h7 1 1 = h 1 1 := f12 1 1 (by decide +kernel)
  have q15 : h7 75 6 = h 75 6 := f12 75 6 (by decide +kernel)
  have q16 : h7 76 1 = h 76 1 := f12 76 1 (by decide +kernel)
  have q17 : h7 0 10 = h 0 10 := f12 0 10 (by decide +kernel)
  have q18 : h7 75 4 = h 75 4 := f12 75 4 (by decide +kernel)
  have m19 := WT.fr w76 hJ f12 (by decide)
  have m20 := WT.fr7 w77 hJ f12 (by decide)
  have m21 : h7 75 4 = 2147483649 → 2147483650 ≤ h7 77 0 := by
    rw [f12 75 4 (by decide +kernel), f12 77 0 (by decide +kernel)]
    exact hB
  have e23 := Se.fr hG9 f12 hJ (by decide) (by decide) (by decide) (by decide) (by decide) (by decide)
  have d24 := Sd.fr hD f12 hJ (by decide) (by decide) (by decide) (by decide) (by decide) (by decide) (by decide)
  have s25 := St.fr hS f12 hJ (by decide) (by decide) (by decide) (by decide) (by decide) (by decide)
  have t22 := Ty.fr hY f12 (by decide) (by decide)
  refine x_pop (by decide +kernel) l10 ?_
  refine x_goto (np := 1045) (x := 1404) (by decide +kernel) ?_
  exact k c0 s0 w5 w6 h7 (by omega) (by omega) ⟨⟨j11, by omega, m19, m20, m21, by omega⟩, t22, s25, d24, e23⟩
set_option maxHeartbeats 0 in
theorem lc_24 {sc : Nat × Nat} {d j c0 s0 w5 w6 : Nat} {h : xh} {Q : Nat → xh → Prop} (hs : scOK sc) (hI : INV9b h) (hj : j + 6 ≤ sc.1) (hc : c0 + 2 ≤ 600000) (hz : s0 + 12 ≤ 7300000) (k : ∀ c1 s1 v5 v6 h', c1 ≤ c0 + 2 → s1 ≤ s0 + 12 → INV9b h' → X sc 309 (d + 60) Q c1 s1 1404 [55340232221128654849, x_r 0, x_r 75, x_r 97, iv_c (2147483648 + j), v5, v6] [] h') : X sc 309 (d + 60) Q c0 s0 1045 [55340232221128654849, x_r 0, x_r 75, x_r 97, iv_c (2147483648 + j), w5, w6] [] h := by
  obtain ⟨⟨hJ, hE, w76, w77, hB, hG⟩, hY, hS, hD, hG9⟩ := hI
  have h384 := hs.1
  have hS1 : tv h 1 = h 76 1 := by
    have z := hS.2.1 1 (by decide)
    rw [wx_0 (by decide)] at z
    exact z
  have hS3 := hS.2.2.1
  refine x_aload (np := 1046) (x := 1) (by decide +kernel) rfl (x_nc_le (by decide)) ?_
  refine x_aloadS (np := 1047) (x := 0) (by decide +kernel) rfl ?_
  refine x_iload (np := 1049) (x := 4) (by decide +kernel) rfl (by omega) ?_
  refine x_const (np := 1050) (x := 9223372043297226753) (a := 2147483649) (by decide +kernel) (by decide) (by decide) ?_
  refine x_iadd (np := 1051) (x := 0) (v := (2147483648 + (j + 1))) (by decide +kernel) (by omega) (by decide) (by omega) (by omega) ?_
  refine x_scr (j := (j + 1)) hs (np := 1052) (x := 0) (by decide +kernel) rfl (by omega) (by omega) ?_
  refine x_aloadS (np := 1053) (x := 0) (by decide +kernel) rfl ?_
  refine x_iload (np := 1055) (x := 4) (by decide +kernel) rfl (by omega) ?_
  refine x_const (np := 1056) (x := 9223372047592194050) (a := 2147483650) (by decide +kernel) (by decide) (by decide) ?_
  refine x_iadd (np := 1057) (x := 0) (v := (2147483648 + (j + 2))) (by decide +kernel) (by omega) (by decide) (by omega) (by omega) ?_
  refine x_scr (j := (j + 2)) hs (np := 1058) (x := 0) (by decide +kernel) rfl (by omega) (by omega) ?_
  refine x_aload (np := 1059) (x := 3) (by decide +kernel) rfl (x_nc_le (by decide)) ?_
  have b1 : (sv sc (j + 1)) < 4294967296 := sv_lt
  have b2 : (sv sc (j + 2)) < 4294967296 := sv_lt
  refine x_cIc (t := 0) (mj := 301) (n := 4) (rc := 0) (ml := 5) (cc := 2) (ss := 12) (nr := 0) (np := 1062) (as := [x_r 0, iv_c (sv sc (j + 1)), iv_c (sv sc (j + 2)), x_r 97]) (rest := []) (lo1 := [x_r 0, iv_c (sv sc (j + 1)), iv_c (sv sc (j + 2)), x_r 97, 147573952589676412928]) (by decide +kernel) (by decide) (x_cbV (by decide +kernel) (by show _ ≤ 600000; omega) (by show _ ≤ 7300000; omega)) (Or.inl rfl) rfl rfl (x_wr (by decide) (x_wi sv_lt (x_wi sv_lt (x_wr (by decide) x_wn)))) x_wn (by decide) rfl (c301_0_97 hJ (by omega) (by omega)) (fun r5 h3 l6 q4 => ?_)
  obtain ⟨j7, f8, g9, g10⟩ := q4
  have q11 : h3 1 1 = h 1 1 := f8 1 1 (by decide +kernel)
  have q12 : h3 75 6 = h 75 6 := f8 75 6 (by decide +kernel)
  have q13 : h3 76 1 = h 76 1 := f8 76 1 (by decide +kernel)
  have q14 : h3 0 10 = h 0 10 := f8 0 10 (by decide +kernel)
  have q15 : h3 75 4 = h 75 4 := f8 75 4 (by decide +kernel)
  have m16 := WT.fr w76 hJ f8 (by decide)
  have m17 := WT.fr7 w77 hJ f8 (by decide)
  have m18 : h3 75 4 = 2147483649 → 2147483650 ≤ h3 77 0 := by
    rw [f8 75 4 (by decide +kernel), f8 77 0 (by decide +kernel)]
    exact hB
  have t19 := Ty.fr hY f8 (by decide) (by decide)
  refine x_istore (np := 1064) (x := 5) (lo' := [55340232221128654849, x_r 0, x_r 75, x_r 97, iv_c (2147483648 + j), iv_c r5, w6]) (by decide +kernel) l6 (Nat.le_of_ble_eq_true rfl) rfl ?_
  refine x_aload (np := 1065) (x := 2) (by decide +kernel) rfl (x_nc_le (by decide)) ?_
  refine x_aloadS (np := 1066) (x := 0) (by decide +kernel) rfl ?_
  refine x_iload (np := 1068) (x := 4) (by decide +kernel) rfl (by omega) ?_
  refine x_const (np := 1069) (x := 9223372043297226753) (a := 2147483649) (by decide +kernel) (by decide) (by decide) ?_
  refine x_iadd (np := 1070) (x := 0) (v := (2147483648 + (j + 1))) (by decide +kernel) (by omega) (by decide) (by omega) (by omega) ?_
  refine x_scr (j := (j + 1)) hs (np := 1071) (x := 0) (by decide +kernel) rfl (by omega) (by omega) ?_
  refine x_aloadS (np := 1072) (x := 0) (by decide +kernel) rfl ?_
  refine x_iload (np := 1074) (x := 4) (by decide +kernel) rfl (by omega) ?_
  refine x_const (np := 1075) (x := 9223372047592194050) (a := 2147483650) (by decide +kernel) (by decide) (by decide) ?_
  refine x_iadd (np := 1076) (x := 0) (v := (2147483648 + (j + 2))) (by decide +kernel) (by omega) (by decide) (by omega) (by omega) ?_
  refine x_scr (j := (j + 2)) hs (np := 1077) (x := 0) (by decide +kernel) rfl (by omega) (by omega) ?_
  have b23 : (sv sc (j + 1)) < 4294967296 := sv_lt
  have b24 : (sv sc (j + 2)) < 4294967296 := sv_lt
  refine x_cIc (t := 6) (mj := 261) (n := 3) (rc := 12) (ml := 4) (cc := 0) (ss := 0) (nr := 0) (np := 1080) (as := [x_r 75, iv_c (sv sc (j + 1)), iv_c (sv sc (j + 2))]) (rest := []) (lo1 := [x_r 75, iv_c (sv sc (j + 1)), iv_c (sv sc (j + 2)), 147573952589676412928]) (by decide +kernel) (by decide) (x_cbV (by decide +kernel) (by show _ ≤ 600000; omega) (by show _ ≤ 7300000; omega)) (x_rb_of (by decide +kernel)) rfl rfl (x_wr (by decide) (x_wi sv_lt (x_wi sv_lt x_wn))) x_wn (by decide) rfl (c261_75 j7 (by omega) (by omega) m16) (fun r27 h25 l28 q26 => ?_)
  obtain ⟨j29, f30, g31, g32, g33⟩ := q26
  have q34 : h25 1 1 = h3 1 1 := f30 1 1 (by decide +kernel)
  have q35 : h25 75 6 = h3 75 6 := f30 75 6 (by decide +kernel)
  have q36 : h25 76 1 = h3 76 1 := f30 76 1 (by decide +kernel)
  have q37 : h25 0 10 = h3 0 10 := f30 0 10 (by decide +kernel)
  have q38 : h25 75 4 = h3 75 4 := f30 75 4 (by decide +kernel)
  have m39 := WT.fr m16 j7 f30 (by decide)
  have m40 := WT.fr7 m17 j7 f30 (by decide)
  have m41 : h25 75 4 = 2147483649 → 2147483650 ≤ h25 77 0 := by
    rw [f30 75 4 (by decide +kernel), f30 77 0 (by decide +kernel)]
    exact m18
  have e43 := Se.wish hG9 g10 g33 j7 f8 (by decide) (by decide) (by decide) (by decide) f30 (by decide) (by decide) (by decide) (by decide) (by decide)
  have d44 := Sd.wish hD g10 g33 j7 f8 (by decide) (by decide) (by decide) (by decide) (by decide) f30 (by decide) (by decide) (by decide) (by decide) (by decide) (by decide)
  have q46 : h25 97 0 = h3 97 0 := f30 97 0 (by decide +kernel)
  obtain ⟨⟨al1, al2⟩, s45⟩ := St.wish hS g10 g33 j7 f8 (by decide) (by decide) (by decide) (by decide) f30 (by decide) (by decide) (by decide) (by decide) (by decide) q46
  have t42 := Ty.fr t19 f30 (by decide) (by decide)
  refine x_istore (np := 1082) (x := 6) (lo' := [55340232221128654849, x_r 0, x_r 75, x_r 97, iv_c (2147483648 + j), iv_c r5, iv_c r27]) (by decide +kernel) l28 (Nat.le_of_ble_eq_true rfl) rfl ?_
  refine x_goto (np := 1085) (x := 1404) (by decide +kernel) ?_
  exact k (c0 + 2) (s0 + 12) (iv_c r5) (iv_c r27) h25 (by omega) (by omega) ⟨⟨j29, by omega, m39, m40, m41, by omega⟩, t42, s45, d44, e43⟩
set_option maxHeartbeats 0 in
theorem lc_25 {sc : Nat × Nat} {d j c0 s0 w5 w6 : Nat} {h : xh} {Q : Nat → xh → Prop} (hs : scOK sc) (hI : INV9b h) (hj : j + 6 ≤ sc.1) (hc : c0 + 2 ≤ 600000) (hz : s0 + 12 ≤ 7300000) (k : ∀ c1 s1 v5 v6 h', c1 ≤ c0 + 2 → s1 ≤ s0 + 12 → INV9b h' → X sc 309 (d + 60) Q c1 s1 1404 [55340232221128654849, x_r 0, x_r 75, x_r 97, iv_c (2147483648 + j), v5, v6] [] h') : X sc 309 (d + 60) Q c0 s0 1085 [55340232221128654849, x_r 0, x_r 75, x_r 97, iv_c (2147483648 + j), w5, w6] [] h := by
  obtain ⟨⟨hJ, hE, w76, w77, hB, hG⟩, hY, hS, hD, hG9⟩ := hI
  have h384 := hs.1
  have hS1 : tv h 1 = h 76 1 := by
    have z := hS.2.1 1 (by decide)
    rw [wx_0 (by decide)] at z
    exact z
  have hS3 := hS.2.2.1
  refine x_aload (np := 1086) (x := 1) (by decide +kernel) rfl (x_nc_le (by decide)) ?_
  refine x_cIc (t := 6) (mj := 126) (n := 1) (rc := 11) (ml := 6) (cc := 0) (ss := 0) (nr := 0) (np := 1089) (as := [x_r 0]) (rest := []) (lo1 := [x_r 0, 147573952589676412928, 147573952589676412928, 147573952589676412928, 147573952589676412928, 147573952589676412928]) (by decide +kernel) (by decide) (x_cbV (by decide +kernel) (by show _ ≤ 600000; omega) (by show _ ≤ 7300000; omega)) (x_rb_of (by decide +kernel)) rfl rfl (x_wr (by decide) x_wn) x_wn (by decide) rfl (c126_0 hJ) (fun r3 h1 l4 q2 => ?_)
  obtain ⟨q5, b6⟩ := q2
  rw [q5]
  refine x_pop (by decide +kernel) l4 ?_
  refine x_aload (np := 1091) (x := 2) (by decide +kernel) rfl (x_nc_le (by decide)) ?_
  refine x_cIc (t := 6) (mj := 262) (n := 1) (rc := 12) (ml := 3) (cc := 0) (ss := 0) (nr := 0) (np := 1094) (as := [x_r 75]) (rest := []) (lo1 := [x_r 75, 147573952589676412928, 147573952589676412928]) (by decide +kernel) (by decide) (x_cbV (by decide +kernel) (by show _ ≤ 600000; omega) (by show _ ≤ 7300000; omega)) (x_rb_of (by decide +kernel)) rfl rfl (x_wr (by decide) x_wn) x_wn (by decide) rfl (c262_75 hJ w76) (fun r9 h7 l10 q8 => ?_)
  obtain ⟨j11, f12, g13⟩ := q8
  have q14 : h7 1 1 = h 1 1 := f12 1 1 (by decide +kernel)
  have q15 : h7 75 6 = h 75 6 := f12 75 6 (by decide +kernel)
  have q16 : h7 76 1 = h 76 1 := f12 76 1 (by decide +kernel)
  have q17 : h7 0 10 = h 0 10 := f12 0 10 (by decide +kernel)
  have q18 : h7 75 4 = h 75 4 := f12 75 4 (by decide +kernel)
  have m19 := WT.fr w76 hJ f12 (by decide)
  have m20 := WT.fr7 w77 hJ f12 (by decide)
  have m21 : h7 75 4 = 2147483649 → 2147483650 ≤ h7 77 0 := by
    rw [f12 75 4 (by decide +kernel), f12 77 0 (by decide +kernel)]
    exact hB
  have e23 := Se.fr hG9 f12 hJ (by decide) (by decide) (by decide) (by decide) (by decide) (by decide)
  have d24 := Sd.fr hD f12 hJ (by decide) (by decide) (by decide) (by decide) (by decide) (by decide) (by decide)
  have s25 := St.fr hS f12 hJ (by decide) (by decide) (by decide) (by decide) (by decide) (by decide)
  have t22 := Ty.fr hY f12 (by decide) (by decide)
  refine x_pop (by decide +kernel) l10 ?_
  refine x_goto (np := 1098) (x := 1404) (by decide +kernel) ?_
  exact k c0 s0 w5 w6 h7 (by omega) (by omega) ⟨⟨j11, by omega, m19, m20, m21, by omega⟩, t22, s25, d24, e23⟩
set_option maxHeartbeats 0 in
theorem lc_26 {sc : Nat × Nat} {d j c0 s0 w5 w6 : Nat} {h : xh} {Q : Nat → xh → Prop} (hs : scOK sc) (hI : INV9b h) (hj : j + 6 ≤ sc.1) (hc : c0 + 2 ≤ 600000) (hz : s0 + 12 ≤ 7300000) (k : ∀ c1 s1 v5 v6 h', c1 ≤ c0 + 2 → s1 ≤ s0 + 12 → INV9b h' → X sc 309 (d + 60) Q c1 s1 1404 [55340232221128654849, x_r 0, x_r 75, x_r 97, iv_c (2147483648 + j), v5, v6] [] h') : X sc 309 (d + 60) Q c0 s0 1098 [55340232221128654849, x_r 0, x_r 75, x_r 97, iv_c (2147483648 + j), w5, w6] [] h := by
  obtain ⟨⟨hJ, hE, w76, w77, hB, hG⟩, hY, hS, hD, hG9⟩ := hI
  have h384 := hs.1
  have hS1 : tv h 1 = h 76 1 := by
    have z := hS.2.1 1 (by decide)
    rw [wx_0 (by decide)] at z
    exact z
  have hS3 := hS.2.2.1
  refine x_aload (np := 1099) (x := 1) (by decide +kernel) rfl (x_nc_le (by decide)) ?_
  refine x_aloadS (np := 1100) (x := 0) (by decide +kernel) rfl ?_
  refine x_iload (np := 1102) (x := 4) (by decide +kernel) rfl (by omega) ?_
  refine x_const (np := 1103) (x := 9223372043297226753) (a := 2147483649) (by decide +kernel) (by decide) (by decide) ?_
  refine x_iadd (np := 1104) (x := 0) (v := (2147483648 + (j + 1))) (by decide +kernel) (by omega) (by decide) (by omega) (by omega) ?_
  refine x_scr (j := (j + 1)) hs (np := 1105) (x := 0) (by decide +kernel) rfl (by omega) (by omega) ?_
  refine x_aloadS (np := 1106) (x := 0) (by decide +kernel) rfl ?_
  refine x_iload (np := 1108) (x := 4) (by decide +kernel) rfl (by omega) ?_
  refine x_const (np := 1109) (x := 9223372047592194050) (a := 2147483650) (by decide +kernel) (by decide) (by decide) ?_
  refine x_iadd (np := 1110) (x := 0) (v := (2147483648 + (j + 2))) (by decide +kernel) (by omega) (by decide) (by omega) (by omega) ?_
  refine x_scr (j := (j + 2)) hs (np := 1111) (x := 0) (by decide +kernel) rfl (by omega) (by omega) ?_
  refine x_aload (np := 1112) (x := 3) (by decide +kernel) rfl (x_nc_le (by decide)) ?_
  have b1 : (sv sc (j + 1)) < 4294967296 := sv_lt
  have b2 : (sv sc (j + 2)) < 4294967296 := sv_lt
  refine x_cIc (t := 0) (mj := 302) (n := 4) (rc := 0) (ml := 5) (cc := 1) (ss := 6) (nr := 0) (np := 1115) (as := [x_r 0, iv_c (sv sc (j + 1)), iv_c (sv sc (j + 2)), x_r 97]) (rest := []) (lo1 := [x_r 0, iv_c (sv sc (j + 1)), iv_c (sv sc (j + 2)), x_r 97, 147573952589676412928]) (by decide +kernel) (by decide) (x_cbV (by decide +kernel) (by show _ ≤ 600000; omega) (by show _ ≤ 7300000; omega)) (Or.inl rfl) rfl rfl (x_wr (by decide) (x_wi sv_lt (x_wi sv_lt (x_wr (by decide) x_wn)))) x_wn (by decide) rfl (c302_0_97 hJ (by omega) (by omega)) (fun r5 h3 l6 q4 => ?_)
  obtain ⟨j7, f8, g9⟩ := q4
  have q10 : h3 1 1 = h 1 1 := f8 1 1 (by decide +kernel)
  have q11 : h3 75 6 = h 75 6 := f8 75 6 (by decide +kernel)
  have q12 : h3 76 1 = h 76 1 := f8 76 1 (by decide +kernel)
  have q13 : h3 0 10 = h 0 10 := f8 0 10 (by decide +kernel)
  have q14 : h3 75 4 = h 75 4 := f8 75 4 (by decide +kernel)
  have m15 := WT.fr w76 hJ f8 (by decide)
  have m16 := WT.fr7 w77 hJ f8 (by decide)
  have m17 : h3 75 4 = 2147483649 → 2147483650 ≤ h3 77 0 := by
    rw [f8 75 4 (by decide +kernel), f8 77 0 (by decide +kernel)]
    exact hB
  have e19 := Se.fr hG9 f8 hJ (by decide) (by decide) (by decide) (by decide) (by decide) (by decide)
  have d20 := Sd.fr hD f8 hJ (by decide) (by decide) (by decide) (by decide) (by decide) (by decide) (by decide)
  have s21 := St.fr hS f8 hJ (by decide) (by decide) (by decide) (by decide) (by decide) (by decide)
  have t18 := Ty.fr hY f8 (by decide) (by decide)
  refine x_istore (np := 1117) (x := 5) (lo' := [55340232221128654849, x_r 0, x_r 75, x_r 97, iv_c (2147483648 + j), iv_c r5, w6]) (by decide +kernel) l6 (Nat.le_of_ble_eq_true rfl) rfl ?_
  refine x_aload (np := 1118) (x := 2) (by decide +kernel) rfl (x_nc_le (by decide)) ?_
  refine x_aloadS (np := 1119) (x := 0) (by decide +kernel) rfl ?_
  refine x_iload (np := 1121) (x := 4) (by decide +kernel) rfl (by omega) ?_
  refine x_const (np := 1122) (x := 9223372043297226753) (a := 2147483649) (by decide +kernel) (by decide) (by decide) ?_
  refine x_iadd (np := 1123) (x := 0) (v := (2147483648 + (j + 1))) (by decide +kernel) (by omega) (by decide) (by omega) (by omega) ?_
  refine x_scr (j := (j + 1)) hs (np := 1124) (x := 0) (by decide +kernel) rfl (by omega) (by omega) ?_
  refine x_aloadS (np := 1125) (x := 0) (by decide +kernel) rfl ?_
  refine x_iload (np := 1127) (x := 4) (by decide +kernel) rfl (by omega) ?_
  refine x_const (np := 1128) (x := 9223372047592194050) (a := 2147483650) (by decide +kernel) (by decide) (by decide) ?_
  refine x_iadd (np := 1129) (x := 0) (v := (2147483648 + (j + 2))) (by decide +kernel) (by omega) (by decide) (by omega) (by omega) ?_
  refine x_scr (j := (j + 2)) hs (np := 1130) (x := 0) (by decide +kernel) rfl (by omega) (by omega) ?_
  have b22 : (sv sc (j + 1)) < 4294967296 := sv_lt
  have b23 : (sv sc (j + 2)) < 4294967296 := sv_lt
  refine x_cIc (t := 6) (mj := 263) (n := 3) (rc := 12) (ml := 4) (cc := 0) (ss := 0) (nr := 0) (np := 1133) (as := [x_r 75, iv_c (sv sc (j + 1)), iv_c (sv sc (j + 2))]) (rest := []) (lo1 := [x_r 75, iv_c (sv sc (j + 1)), iv_c (sv sc (j + 2)), 147573952589676412928]) (by decide +kernel) (by decide) (x_cbV (by decide +kernel) (by show _ ≤ 600000; omega) (by show _ ≤ 7300000; omega)) (x_rb_of (by decide +kernel)) rfl rfl (x_wr (by decide) (x_wi sv_lt (x_wi sv_lt x_wn))) x_wn (by decide) rfl (c263_75 j7 (by omega) (by omega) m15) (fun r26 h24 l27 q25 => ?_)
  obtain ⟨j28, f29, g30⟩ := q25
  have q31 : h24 1 1 = h3 1 1 := f29 1 1 (by decide +kernel)
  have q32 : h24 75 6 = h3 75 6 := f29 75 6 (by decide +kernel)
  have q33 : h24 76 1 = h3 76 1 := f29 76 1 (by decide +kernel)
  have q34 : h24 0 10 = h3 0 10 := f29 0 10 (by decide +kernel)
  have q35 : h24 75 4 = h3 75 4 := f29 75 4 (by decide +kernel)
  have m36 := WT.fr m15 j7 f29 (by decide)
  have m37 := WT.fr7 m16 j7 f29 (by decide)
  have m38 : h24 75 4 = 2147483649 → 2147483650 ≤ h24 77 0 := by
    rw [f29 75 4 (by decide +kernel), f29 77 0 (by decide +kernel)]
    exact m17
  have e40 := Se.fr e19 f29 j7 (by decide) (by decide) (by decide) (by decide) (by decide) (by decide)
  have d41 := Sd.fr d20 f29 j7 (by decide) (by decide) (by decide) (by decide) (by decide) (by decide) (by decide)
  have s42 := St.fr s21 f29 j7 (by decide) (by decide) (by decide) (by decide) (by decide) (by decide)
  have t39 := Ty.fr t18 f29 (by decide) (by decide)
  refine x_istore (np := 1135) (x := 6) (lo' := [55340232221128654849, x_r 0, x_r 75, x_r 97, iv_c (2147483648 + j), iv_c r5, iv_c r26]) (by decide +kernel) l27 (Nat.le_of_ble_eq_true rfl) rfl ?_
  refine x_goto (np := 1138) (x := 1404) (by decide +kernel) ?_
  exact k (c0 + 1) (s0 + 6) (iv_c r5) (iv_c r26) h24 (by omega) (by omega) ⟨⟨j28, by omega, m36, m37, m38, by omega⟩, t39, s42, d41, e40⟩
set_option maxHeartbeats 0 in
theorem lc_27 {sc : Nat × Nat} {d j c0 s0 w5 w6 : Nat} {h : xh} {Q : Nat → xh → Prop} (hs : scOK sc) (hI : INV9b h) (hj : j + 6 ≤ sc.1) (hc : c0 + 2 ≤ 600000) (hz : s0 + 12 ≤ 7300000) (k : ∀ c1 s1 v5 v6 h', c1 ≤ c0 + 2 → s1 ≤ s0 + 12 → INV9b h' → X sc 309 (d + 60) Q c1 s1 1404 [55340232221128654849, x_r 0, x_r 75, x_r 97, iv_c (2147483648 + j), v5, v6] [] h') : X sc 309 (d + 60) Q c0 s0 1138 [55340232221128654849, x_r 0, x_r 75, x_r 97, iv_c (2147483648 + j), w5, w6] [] h := by
  obtain ⟨⟨hJ, hE, w76, w77, hB, hG⟩, hY, hS, hD, hG9⟩ := hI
  have h384 := hs.1
  have hS1 : tv h 1 = h 76 1 := by
    have z := hS.2.1 1 (by decide)
    rw [wx_0 (by decide)] at z
    exact z
  have hS3 := hS.2.2.1
  refine x_aload (np := 1139) (x := 1) (by decide +kernel) rfl (x_nc_le (by decide)) ?_
  refine x_cIc (t := 6) (mj := 134) (n := 1) (rc := 11) (ml := 3) (cc := 0) (ss := 0) (nr := 0) (np := 1142) (as := [x_r 0]) (rest := []) (lo1 := [x_r 0, 147573952589676412928, 147573952589676412928]) (by decide +kernel) (by decide) (x_cbV (by decide +kernel) (by show _ ≤ 600000; omega) (by show _ ≤ 7300000; omega)) (x_rb_of (by decide +kernel)) rfl rfl (x_wr (by decide) x_wn) x_wn (by decide) rfl (c134_0 hJ) (fun r3 h1 l4 q2 => ?_)
  obtain ⟨q5, b6⟩ := q2
  rw [q5]
  refine x_pop (by decide +kernel) l4 ?_
  refine x_aload (np := 1144) (x := 2) (by decide +kernel) rfl (x_nc_le (by decide)) ?_
  refine x_cIc (t := 6) (mj := 264) (n := 1) (rc := 12) (ml := 3) (cc := 0) (ss := 0) (nr := 0) (np := 1147) (as := [x_r 75]) (rest := []) (lo1 := [x_r 75, 147573952589676412928, 147573952589676412928]) (by decide +kernel) (by decide) (x_cbV (by decide +kernel) (by show _ ≤ 600000; omega) (by show _ ≤ 7300000; omega)) (x_rb_of (by decide +kernel)) rfl rfl (x_wr (by decide) x_wn) x_wn (by decide) rfl (c264_75 hJ w76) (fun r9 h7 l10 q8 => ?_)
  obtain ⟨j11, f12, g13⟩ := q8
  have q14 : h7 1 1 = h 1 1 := f12 1 1 (by decide +kernel)
  have q15 : h7 75 6 = h 75 6 := f12 75 6 (by decide +kernel)
  have q16 : h7 76 1 = h 76 1 := f12 76 1 (by decide +kernel)
  have q17 : h7 0 10 = h 0 10 := f12 0 10 (by decide +kernel)
  have q18 : h7 75 4 = h 75 4 := f12 75 4 (by decide +kernel)
  have m19 := WT.fr w76 hJ f12 (by decide)
  have m20 := WT.fr7 w77 hJ f12 (by decide)
  have m21 : h7 75 4 = 2147483649 → 2147483650 ≤ h7 77 0 := by
    rw [f12 75 4 (by decide +kernel), f12 77 0 (by decide +kernel)]
    exact hB
  have e23 := Se.fr hG9 f12 hJ (by decide) (by decide) (by decide) (by decide) (by decide) (by decide)
  have d24 := Sd.fr hD f12 hJ (by decide) (by decide) (by decide) (by decide) (by decide) (by decide) (by decide)
  have s25 := St.fr hS f12 hJ (by decide) (by decide) (by decide) (by decide) (by decide) (by decide)
  have t22 := Ty.fr hY f12 (by decide) (by decide)
  refine x_pop (by decide +kernel) l10 ?_
  refine x_goto (np := 1151) (x := 1404) (by decide +kernel) ?_
  exact k c0 s0 w5 w6 h7 (by omega) (by omega) ⟨⟨j11, by omega, m19, m20, m21, by omega⟩, t22, s25, d24, e23⟩
set_option maxHeartbeats 0 in
theorem lc_28 {sc : Nat × Nat} {d j c0 s0 w5 w6 : Nat} {h : xh} {Q : Nat → xh → Prop} (hs : scOK sc) (hI : INV9b h) (hj : j + 6 ≤ sc.1) (hc : c0 + 2 ≤ 600000) (hz : s0 + 12 ≤ 7300000) (k : ∀ c1 s1 v5 v6 h', c1 ≤ c0 + 2 → s1 ≤ s0 + 12 → INV9b h' → X sc 309 (d + 60) Q c1 s1 1404 [55340232221128654849, x_r 0, x_r 75, x_r 97, iv_c (2147483648 + j), v5, v6] [] h') : X sc 309 (d + 60) Q c0 s0 1151 [55340232221128654849, x_r 0, x_r 75, x_r 97, iv_c (2147483648 + j), w5, w6] [] h := by
  obtain ⟨⟨hJ, hE, w76, w77, hB, hG⟩, hY, hS, hD, hG9⟩ := hI
  have h384 := hs.1
  have hS1 : tv h 1 = h 76 1 := by
    have z := hS.2.1 1 (by decide)
    rw [wx_0 (by decide)] at z
    exact z
  have hS3 := hS.2.2.1
  refine x_aload (np := 1152) (x := 1) (by decide +kernel) rfl (x_nc_le (by decide)) ?_
  refine x_aloadS (np := 1153) (x := 0) (by decide +kernel) rfl ?_
  refine x_iload (np := 1155) (x := 4) (by decide +kernel) rfl (by omega) ?_
  refine x_const (np := 1156) (x := 9223372043297226753) (a := 2147483649) (by decide +kernel) (by decide) (by decide) ?_
  refine x_iadd (np := 1157) (x := 0) (v := (2147483648 + (j + 1))) (by decide +kernel) (by omega) (by decide) (by omega) (by omega) ?_
  refine x_scr (j := (j + 1)) hs (np := 1158) (x := 0) (by decide +kernel) rfl (by omega) (by omega) ?_
  refine x_aload (np := 1159) (x := 3) (by decide +kernel) rfl (x_nc_le (by decide)) ?_
  have b1 : (sv sc (j + 1)) < 4294967296 := sv_lt
  refine x_cIc (t := 0) (mj := 303) (n := 3) (rc := 0) (ml := 4) (cc := 1) (ss := 6) (nr := 0) (np := 1162) (as := [x_r 0, iv_c (sv sc (j + 1)), x_r 97]) (rest := []) (lo1 := [x_r 0, iv_c (sv sc (j + 1)), x_r 97, 147573952589676412928]) (by decide +kernel) (by decide) (x_cbV (by decide +kernel) (by show _ ≤ 600000; omega) (by show _ ≤ 7300000; omega)) (Or.inl rfl) rfl rfl (x_wr (by decide) (x_wi sv_lt (x_wr (by decide) x_wn))) x_wn (by decide) rfl (c303_0_97 hJ (by omega)) (fun r4 h2 l5 q3 => ?_)
  obtain ⟨j6, f7, g8, g9⟩ := q3
  have q10 : h2 1 1 = h 1 1 := f7 1 1 (by decide +kernel)
  have q11 : h2 75 6 = h 75 6 := f7 75 6 (by decide +kernel)
  have q12 : h2 76 1 = h 76 1 := f7 76 1 (by decide +kernel)
  have q13 : h2 0 10 = h 0 10 := f7 0 10 (by decide +kernel)
  have q14 : h2 75 4 = h 75 4 := f7 75 4 (by decide +kernel)
  have m15 := WT.fr w76 hJ f7 (by decide)
  have m16 := WT.fr7 w77 hJ f7 (by decide)
  have m17 : h2 75 4 = 2147483649 → 2147483650 ≤ h2 77 0 := by
    rw [f7 75 4 (by decide +kernel), f7 77 0 (by decide +kernel)]
    exact hB
  have e19 := Se.fr hG9 f7 hJ (by decide) (by decide) (by decide) (by decide) (by decide) (by decide)
  have d20 := Sd.fr hD f7 hJ (by decide) (by decide) (by decide) (by decide) (by decide) (by decide) (by decide)
  have s21 := St.fr hS f7 hJ (by decide) (by decide) (by decide) (by decide) (by decide) (by decide)
  have t18 := Ty.fr hY f7 (by decide) (by decide)
  refine x_istore (np := 1164) (x := 5) (lo' := [55340232221128654849, x_r 0, x_r 75, x_r 97, iv_c (2147483648 + j), iv_c r4, w6]) (by decide +kernel) l5 (Nat.le_of_ble_eq_true rfl) rfl ?_
  refine x_aload (np := 1165) (x := 2) (by decide +kernel) rfl (x_nc_le (by decide)) ?_
  refine x_aloadS (np := 1166) (x := 0) (by decide +kernel) rfl ?_
  refine x_iload (np := 1168) (x := 4) (by decide +kernel) rfl (by omega) ?_
  refine x_const (np := 1169) (x := 9223372043297226753) (a := 2147483649) (by decide +kernel) (by decide) (by decide) ?_
  refine x_iadd (np := 1170) (x := 0) (v := (2147483648 + (j + 1))) (by decide +kernel) (by omega) (by decide) (by omega) (by omega) ?_
  refine x_scr (j := (j + 1)) hs (np := 1171) (x := 0) (by decide +kernel) rfl (by omega) (by omega) ?_
  have b22 : (sv sc (j + 1)) < 4294967296 := sv_lt
  refine x_cIc (t := 6) (mj := 265) (n := 2) (rc := 12) (ml := 4) (cc := 0) (ss := 0) (nr := 0) (np := 1174) (as := [x_r 75, iv_c (sv sc (j + 1))]) (rest := []) (lo1 := [x_r 75, iv_c (sv sc (j + 1)), 147573952589676412928, 147573952589676412928]) (by decide +kernel) (by decide) (x_cbV (by decide +kernel) (by show _ ≤ 600000; omega) (by show _ ≤ 7300000; omega)) (x_rb_of (by decide +kernel)) rfl rfl (x_wr (by decide) (x_wi sv_lt x_wn)) x_wn (by decide) rfl (c265_75 j6 (by omega)) (fun r25 h23 l26 q24 => ?_)
  obtain ⟨j27, f28, g29, g30⟩ := q24
  have q31 : h23 1 1 = h2 1 1 := f28 1 1 (by decide +kernel)
  have q32 : h23 75 6 = h2 75 6 := f28 75 6 (by decide +kernel)
  have q33 : h23 76 1 = h2 76 1 := f28 76 1 (by decide +kernel)
  have q34 : h23 0 10 = h2 0 10 := f28 0 10 (by decide +kernel)
  have q35 : h23 75 4 = h2 75 4 := f28 75 4 (by decide +kernel)
  have m36 := WT.fr m15 j6 f28 (by decide)
  have m37 := WT.fr7 m16 j6 f28 (by decide)
  have m38 : h23 75 4 = 2147483649 → 2147483650 ≤ h23 77 0 := by
    rw [f28 75 4 (by decide +kernel), f28 77 0 (by decide +kernel)]
    exact m17
  have e40 := Se.fr e19 f28 j6 (by decide) (by decide) (by decide) (by decide) (by decide) (by decide)
  have d41 := Sd.fr d20 f28 j6 (by decide) (by decide) (by decide) (by decide) (by decide) (by decide) (by decide)
  have s42 := St.fr s21 f28 j6 (by decide) (by decide) (by decide) (by decide) (by decide) (by decide)
  have t39 := Ty.fr t18 f28 (by decide) (by decide)
  refine x_istore (np := 1176) (x := 6) (lo' := [55340232221128654849, x_r 0, x_r 75, x_r 97, iv_c (2147483648 + j), iv_c r4, iv_c r25]) (by decide +kernel) l26 (Nat.le_of_ble_eq_true rfl) rfl ?_
  refine x_goto (np := 1179) (x := 1404) (by decide +kernel) ?_
  exact k (c0 + 1) (s0 + 6) (iv_c r4) (iv_c r25) h23 (by omega) (by omega) ⟨⟨j27, by omega, m36, m37, m38, by omega⟩, t39, s42, d41, e40⟩
set_option maxHeartbeats 0 in
theorem lc_29 {sc : Nat × Nat} {d j c0 s0 w5 w6 : Nat} {h : xh} {Q : Nat → xh → Prop} (hs : scOK sc) (hI : INV9b h) (hj : j + 6 ≤ sc.1) (hc : c0 + 2 ≤ 600000) (hz : s0 + 12 ≤ 7300000) (k : ∀ c1 s1 v5 v6 h', c1 ≤ c0 + 2 → s1 ≤ s0 + 12 → INV9b h' → X sc 309 (d + 60) Q c1 s1 1404 [55340232221128654849, x_r 0, x_r 75, x_r 97, iv_c (2147483648 + j), v5, v6] [] h') : X sc 309 (d + 60) Q c0 s0 1179 [55340232221128654849, x_r 0, x_r 75, x_r 97, iv_c (2147483648 + j), w5, w6] [] h := by
  obtain ⟨⟨hJ, hE, w76, w77, hB, hG⟩, hY, hS, hD, hG9⟩ := hI
  have h384 := hs.1
  have hS1 : tv h 1 = h 76 1 := by
    have z := hS.2.1 1 (by decide)
    rw [wx_0 (by decide)] at z
    exact z
  have hS3 := hS.2.2.1
  refine x_aload (np := 1180) (x := 1) (by decide +kernel) rfl (x_nc_le (by decide)) ?_
  refine x_aloadS (np := 1181) (x := 0) (by decide +kernel) rfl ?_
  refine x_iload (np := 1183) (x := 4) (by decide +kernel) rfl (by omega) ?_
  refine x_const (np := 1184) (x := 9223372043297226753) (a := 2147483649) (by decide +kernel) (by decide) (by decide) ?_
  refine x_iadd (np := 1185) (x := 0) (v := (2147483648 + (j + 1))) (by decide +kernel) (by omega) (by decide) (by omega) (by omega) ?_
  refine x_scr (j := (j + 1)) hs (np := 1186) (x := 0) (by decide +kernel) rfl (by omega) (by omega) ?_
  refine x_aloadS (np := 1187) (x := 0) (by decide +kernel) rfl ?_
  refine x_iload (np := 1189) (x := 4) (by decide +kernel) rfl (by omega) ?_
  refine x_const (np := 1190) (x := 9223372047592194050) (a := 2147483650) (by decide +kernel) (by decide) (by decide) ?_
  refine x_iadd (np := 1191) (x := 0) (v := (2147483648 + (j + 2))) (by decide +kernel) (by omega) (by decide) (by omega) (by omega) ?_
  refine x_scr (j := (j + 2)) hs (np := 1192) (x := 0) (by decide +kernel) rfl (by omega) (by omega) ?_
  refine x_aload (np := 1193) (x := 3) (by decide +kernel) rfl (x_nc_le (by decide)) ?_
  have b1 : (sv sc (j + 1)) < 4294967296 := sv_lt
  have b2 : (sv sc (j + 2)) < 4294967296 := sv_lt
  refine x_cIc (t := 0) (mj := 304) (n := 4) (rc := 0) (ml := 5) (cc := 2) (ss := 12) (nr := 0) (np := 1196) (as := [x_r 0, iv_c (sv sc (j + 1)), iv_c (sv sc (j + 2)), x_r 97]) (rest := []) (lo1 := [x_r 0, iv_c (sv sc (j + 1)), iv_c (sv sc (j + 2)), x_r 97, 147573952589676412928]) (by decide +kernel) (by decide) (x_cbV (by decide +kernel) (by show _ ≤ 600000; omega) (by show _ ≤ 7300000; omega)) (Or.inl rfl) rfl rfl (x_wr (by decide) (x_wi sv_lt (x_wi sv_lt (x_wr (by decide) x_wn)))) x_wn (by decide) rfl (c304_0_97 hJ (by omega) (by omega)) (fun r5 h3 l6 q4 => ?_)
  obtain ⟨j7, f8, g9⟩ := q4
  have q10 : h3 1 1 = h 1 1 := f8 1 1 (by decide +kernel)
  have q11 : h3 75 6 = h 75 6 := f8 75 6 (by decide +kernel)
  have q12 : h3 76 1 = h 76 1 := f8 76 1 (by decide +kernel)
  have q13 : h3 0 10 = h 0 10 := f8 0 10 (by decide +kernel)
  have q14 : h3 75 4 = h 75 4 := f8 75 4 (by decide +kernel)
  have m15 := WT.fr w76 hJ f8 (by decide)
  have m16 := WT.fr7 w77 hJ f8 (by decide)
  have m17 : h3 75 4 = 2147483649 → 2147483650 ≤ h3 77 0 := by
    rw [f8 75 4 (by decide +kernel), f8 77 0 (by decide +kernel)]
    exact hB
  have e19 := Se.fr hG9 f8 hJ (by decide) (by decide) (by decide) (by decide) (by decide) (by decide)
  have d20 := Sd.fr hD f8 hJ (by decide) (by decide) (by decide) (by decide) (by decide) (by decide) (by decide)
  have s21 := St.fr hS f8 hJ (by decide) (by decide) (by decide) (by decide) (by decide) (by decide)
  have t18 := Ty.fr hY f8 (by decide) (by decide)
  refine x_istore (np := 1198) (x := 5) (lo' := [55340232221128654849, x_r 0, x_r 75, x_r 97, iv_c (2147483648 + j), iv_c r5, w6]) (by decide +kernel) l6 (Nat.le_of_ble_eq_true rfl) rfl ?_
  refine x_aload (np := 1199) (x := 2) (by decide +kernel) rfl (x_nc_le (by decide)) ?_
  refine x_aloadS (np := 1200) (x := 0) (by decide +kernel) rfl ?_
  refine x_iload (np := 1202) (x := 4) (by decide +kernel) rfl (by omega) ?_
  refine x_const (np := 1203) (x := 9223372043297226753) (a := 2147483649) (by decide +kernel) (by decide) (by decide) ?_
  refine x_iadd (np := 1204) (x := 0) (v := (2147483648 + (j + 1))) (by decide +kernel) (by omega) (by decide) (by omega) (by omega) ?_
  refine x_scr (j := (j + 1)) hs (np := 1205) (x := 0) (by decide +kernel) rfl (by omega) (by omega) ?_
  refine x_aloadS (np := 1206) (x := 0) (by decide +kernel) rfl ?_
  refine x_iload (np := 1208) (x := 4) (by decide +kernel) rfl (by omega) ?_
  refine x_const (np := 1209) (x := 9223372047592194050) (a := 2147483650) (by decide +kernel) (by decide) (by decide) ?_
  refine x_iadd (np := 1210) (x := 0) (v := (2147483648 + (j + 2))) (by decide +kernel) (by omega) (by decide) (by omega) (by omega) ?_
  refine x_scr (j := (j + 2)) hs (np := 1211) (x := 0) (by decide +kernel) rfl (by omega) (by omega) ?_
  have b22 : (sv sc (j + 1)) < 4294967296 := sv_lt
  have b23 : (sv sc (j + 2)) < 4294967296 := sv_lt
  refine x_cIc (t := 6) (mj := 266) (n := 3) (rc := 12) (ml := 4) (cc := 0) (ss := 0) (nr := 0) (np := 1214) (as := [x_r 75, iv_c (sv sc (j + 1)), iv_c (sv sc (j + 2))]) (rest := []) (lo1 := [x_r 75, iv_c (sv sc (j + 1)), iv_c (sv sc (j + 2)), 147573952589676412928]) (by decide +kernel) (by decide) (x_cbV (by decide +kernel) (by show _ ≤ 600000; omega) (by show _ ≤ 7300000; omega)) (x_rb_of (by decide +kernel)) rfl rfl (x_wr (by decide) (x_wi sv_lt (x_wi sv_lt x_wn))) x_wn (by decide) rfl (c266_75 j7 (by omega) (by omega) m15) (fun r26 h24 l27 q25 => ?_)
  obtain ⟨j28, f29, g30⟩ := q25
  have q31 : h24 1 1 = h3 1 1 := f29 1 1 (by decide +kernel)
  have q32 : h24 75 6 = h3 75 6 := f29 75 6 (by decide +kernel)
  have q33 : h24 76 1 = h3 76 1 := f29 76 1 (by decide +kernel)
  have q34 : h24 0 10 = h3 0 10 := f29 0 10 (by decide +kernel)
  have q35 : h24 75 4 = h3 75 4 := f29 75 4 (by decide +kernel)
  have m36 := WT.fr m15 j7 f29 (by decide)
  have m37 := WT.fr7 m16 j7 f29 (by decide)
  have m38 : h24 75 4 = 2147483649 → 2147483650 ≤ h24 77 0 := by
    rw [f29 75 4 (by decide +kernel), f29 77 0 (by decide +kernel)]
    exact m17
  have e40 := Se.fr e19 f29 j7 (by decide) (by decide) (by decide) (by decide) (by decide) (by decide)
  have d41 := Sd.fr d20 f29 j7 (by decide) (by decide) (by decide) (by decide) (by decide) (by decide) (by decide)
  have s42 := St.fr s21 f29 j7 (by decide) (by decide) (by decide) (by decide) (by decide) (by decide)
  have t39 := Ty.fr t18 f29 (by decide) (by decide)
  refine x_istore (np := 1216) (x := 6) (lo' := [55340232221128654849, x_r 0, x_r 75, x_r 97, iv_c (2147483648 + j), iv_c r5, iv_c r26]) (by decide +kernel) l27 (Nat.le_of_ble_eq_true rfl) rfl ?_
  refine x_goto (np := 1219) (x := 1404) (by decide +kernel) ?_
  exact k (c0 + 2) (s0 + 12) (iv_c r5) (iv_c r26) h24 (by omega) (by omega) ⟨⟨j28, by omega, m36, m37, m38, by omega⟩, t39, s42, d41, e40⟩
set_option maxHeartbeats 0 in
theorem lc_30 {sc : Nat × Nat} {d j c0 s0 w5 w6 : Nat} {h : xh} {Q : Nat → xh → Prop} (hs : scOK sc) (hI : INV9b h) (hj : j + 6 ≤ sc.1) (hc : c0 + 2 ≤ 600000) (hz : s0 + 12 ≤ 7300000) (k : ∀ c1 s1 v5 v6 h', c1 ≤ c0 + 2 → s1 ≤ s0 + 12 → INV9b h' → X sc 309 (d + 60) Q c1 s1 1404 [55340232221128654849, x_r 0, x_r 75, x_r 97, iv_c (2147483648 + j), v5, v6] [] h') : X sc 309 (d + 60) Q c0 s0 1219 [55340232221128654849, x_r 0, x_r 75, x_r 97, iv_c (2147483648 + j), w5, w6] [] h := by
  obtain ⟨⟨hJ, hE, w76, w77, hB, hG⟩, hY, hS, hD, hG9⟩ := hI
  have h384 := hs.1
  have hS1 : tv h 1 = h 76 1 := by
    have z := hS.2.1 1 (by decide)
    rw [wx_0 (by decide)] at z
    exact z
  have hS3 := hS.2.2.1
  refine x_aload (np := 1220) (x := 1) (by decide +kernel) rfl (x_nc_le (by decide)) ?_
  refine x_aloadS (np := 1221) (x := 0) (by decide +kernel) rfl ?_
  refine x_iload (np := 1223) (x := 4) (by decide +kernel) rfl (by omega) ?_
  refine x_const (np := 1224) (x := 9223372043297226753) (a := 2147483649) (by decide +kernel) (by decide) (by decide) ?_
  refine x_iadd (np := 1225) (x := 0) (v := (2147483648 + (j + 1))) (by decide +kernel) (by omega) (by decide) (by omega) (by omega) ?_
  refine x_scr (j := (j + 1)) hs (np := 1226) (x := 0) (by decide +kernel) rfl (by omega) (by omega) ?_
  refine x_aload (np := 1227) (x := 3) (by decide +kernel) rfl (x_nc_le (by decide)) ?_
  have b1 : (sv sc (j + 1)) < 4294967296 := sv_lt
  refine x_cIc (t := 0) (mj := 305) (n := 3) (rc := 0) (ml := 4) (cc := 1) (ss := 6) (nr := 0) (np := 1230) (as := [x_r 0, iv_c (sv sc (j + 1)), x_r 97]) (rest := []) (lo1 := [x_r 0, iv_c (sv sc (j + 1)), x_r 97, 147573952589676412928]) (by decide +kernel) (by decide) (x_cbV (by decide +kernel) (by show _ ≤ 600000; omega) (by show _ ≤ 7300000; omega)) (Or.inl rfl) rfl rfl (x_wr (by decide) (x_wi sv_lt (x_wr (by decide) x_wn))) x_wn (by decide) rfl (c305_0_97 hJ (by omega)) (fun r4 h2 l5 q3 => ?_)
  obtain ⟨j6, f7, g8⟩ := q3
  have q9 : h2 1 1 = h 1 1 := f7 1 1 (by decide +kernel)
  have q10 : h2 75 6 = h 75 6 := f7 75 6 (by decide +kernel)
  have q11 : h2 76 1 = h 76 1 := f7 76 1 (by decide +kernel)
  have q12 : h2 0 10 = h 0 10 := f7 0 10 (by decide +kernel)
  have q13 : h2 75 4 = h 75 4 := f7 75 4 (by decide +kernel)
  have m14 := WT.fr w76 hJ f7 (by decide)
  have m15 := WT.fr7 w77 hJ f7 (by decide)
  have m16 : h2 75 4 = 2147483649 → 2147483650 ≤ h2 77 0 := by
    rw [f7 75 4 (by decide +kernel), f7 77 0 (by decide +kernel)]
    exact hB
  have e18 := Se.fr hG9 f7 hJ (by decide) (by decide) (by decide) (by decide) (by decide) (by decide)
  have d19 := Sd.fr hD f7 hJ (by decide) (by decide) (by decide) (by decide) (by decide) (by decide) (by decide)
  have s20 := St.fr hS f7 hJ (by decide) (by decide) (by decide) (by decide) (by decide) (by decide)
  have t17 := Ty.fr hY f7 (by decide) (by decide)
  refine x_istore (np := 1232) (x := 5) (lo' := [55340232221128654849, x_r 0, x_r 75, x_r 97, iv_c (2147483648 + j), iv_c r4, w6]) (by decide +kernel) l5 (Nat.le_of_ble_eq_true rfl) rfl ?_
  refine x_aload (np := 1233) (x := 2) (by decide +kernel) rfl (x_nc_le (by decide)) ?_
  refine x_aloadS (np := 1234) (x := 0) (by decide +kernel) rfl ?_
  refine x_iload (np := 1236) (x := 4) (by decide +kernel) rfl (by omega) ?_
  refine x_const (np := 1237) (x := 9223372043297226753) (a := 2147483649) (by decide +kernel) (by decide) (by decide) ?_
  refine x_iadd (np := 1238) (x := 0) (v := (2147483648 + (j + 1))) (by decide +kernel) (by omega) (by decide) (by omega) (by omega) ?_
  refine x_scr (j := (j + 1)) hs (np := 1239) (x := 0) (by decide +kernel) rfl (by omega) (by omega) ?_
  have b21 : (sv sc (j + 1)) < 4294967296 := sv_lt
  refine x_cIc (t := 6) (mj := 267) (n := 2) (rc := 12) (ml := 6) (cc := 0) (ss := 0) (nr := 0) (np := 1242) (as := [x_r 75, iv_c (sv sc (j + 1))]) (rest := []) (lo1 := [x_r 75, iv_c (sv sc (j + 1)), 147573952589676412928, 147573952589676412928, 147573952589676412928, 147573952589676412928]) (by decide +kernel) (by decide) (x_cbV (by decide +kernel) (by show _ ≤ 600000; omega) (by show _ ≤ 7300000; omega)) (x_rb_of (by decide +kernel)) rfl rfl (x_wr (by decide) (x_wi sv_lt x_wn)) x_wn (by decide) rfl (c267_75 j6 (by omega) m14) (fun r24 h22 l25 q23 => ?_)
  obtain ⟨j26, f27, g28⟩ := q23
  have q29 : h22 1 1 = h2 1 1 := f27 1 1 (by decide +kernel)
  have q30 : h22 75 6 = h2 75 6 := f27 75 6 (by decide +kernel)
  have q31 : h22 76 1 = h2 76 1 := f27 76 1 (by decide +kernel)
  have q32 : h22 0 10 = h2 0 10 := f27 0 10 (by decide +kernel)
  have q33 : h22 75 4 = h2 75 4 := f27 75 4 (by decide +kernel)
  have m34 := WT.fr m14 j6 f27 (by decide)
  have m35 := WT.fr7 m15 j6 f27 (by decide)
  have m36 : h22 75 4 = 2147483649 → 2147483650 ≤ h22 77 0 := by
    rw [f27 75 4 (by decide +kernel), f27 77 0 (by decide +kernel)]
    exact m16
  have e38 := Se.fr e18 f27 j6 (by decide) (by decide) (by decide) (by decide) (by decide) (by decide)
  have d39 := Sd.fr d19 f27 j6 (by decide) (by decide) (by decide) (by decide) (by decide) (by decide) (by decide)
  have s40 := St.fr s20 f27 j6 (by decide) (by decide) (by decide) (by decide) (by decide) (by decide)
  have t37 := Ty.fr t17 f27 (by decide) (by decide)
  refine x_istore (np := 1244) (x := 6) (lo' := [55340232221128654849, x_r 0, x_r 75, x_r 97, iv_c (2147483648 + j), iv_c r4, iv_c r24]) (by decide +kernel) l25 (Nat.le_of_ble_eq_true rfl) rfl ?_
  refine x_goto (np := 1247) (x := 1404) (by decide +kernel) ?_
  exact k (c0 + 1) (s0 + 6) (iv_c r4) (iv_c r24) h22 (by omega) (by omega) ⟨⟨j26, by omega, m34, m35, m36, by omega⟩, t37, s40, d39, e38⟩
set_option maxHeartbeats 0 in
theorem lc_31 {sc : Nat × Nat} {d j c0 s0 w5 w6 : Nat} {h : xh} {Q : Nat → xh → Prop} (hs : scOK sc) (hI : INV9b h) (hj : j + 6 ≤ sc.1) (hc : c0 + 2 ≤ 600000) (hz : s0 + 12 ≤ 7300000) (k : ∀ c1 s1 v5 v6 h', c1 ≤ c0 + 2 → s1 ≤ s0 + 12 → INV9b h' → X sc 309 (d + 60) Q c1 s1 1404 [55340232221128654849, x_r 0, x_r 75, x_r 97, iv_c (2147483648 + j), v5, v6] [] h') : X sc 309 (d + 60) Q c0 s0 1247 [55340232221128654849, x_r 0, x_r 75, x_r 97, iv_c (2147483648 + j), w5, w6] [] h := by
  obtain ⟨⟨hJ, hE, w76, w77, hB, hG⟩, hY, hS, hD, hG9⟩ := hI
  have h384 := hs.1
  have hS1 : tv h 1 = h 76 1 := by
    have z := hS.2.1 1 (by decide)
    rw [wx_0 (by decide)] at z
    exact z
  have hS3 := hS.2.2.1
  refine x_aload (np := 1248) (x := 1) (by decide +kernel) rfl (x_nc_le (by decide)) ?_
  refine x_aloadS (np := 1249) (x := 0) (by decide +kernel) rfl ?_
  refine x_iload (np := 1251) (x := 4) (by decide +kernel) rfl (by omega) ?_
  refine x_const (np := 1252) (x := 9223372043297226753) (a := 2147483649) (by decide +kernel) (by decide) (by decide) ?_
  refine x_iadd (np := 1253) (x := 0) (v := (2147483648 + (j + 1))) (by decide +kernel) (by omega) (by decide) (by omega) (by omega) ?_
  refine x_scr (j := (j + 1)) hs (np := 1254) (x := 0) (by decide +kernel) rfl (by omega) (by omega) ?_
  refine x_aload (np := 1255) (x := 3) (by decide +kernel) rfl (x_nc_le (by decide)) ?_
  have b1 : (sv sc (j + 1)) < 4294967296 := sv_lt
  refine x_cIc (t := 0) (mj := 306) (n := 3) (rc := 0) (ml := 4) (cc := 1) (ss := 6) (nr := 0) (np := 1258) (as := [x_r 0, iv_c (sv sc (j + 1)), x_r 97]) (rest := []) (lo1 := [x_r 0, iv_c (sv sc (j + 1)), x_r 97, 147573952589676412928]) (by decide +kernel) (by decide) (x_cbV (by decide +kernel) (by show _ ≤ 600000; omega) (by show _ ≤ 7300000; omega)) (Or.inl rfl) rfl rfl (x_wr (by decide) (x_wi sv_lt (x_wr (by decide) x_wn))) x_wn (by decide) rfl (c306_0_97 hJ (by omega)) (fun r4 h2 l5 q3 => ?_)
  obtain ⟨j6, f7, g8⟩ := q3
  have q9 : h2 1 1 = h 1 1 := f7 1 1 (by decide +kernel)
  have q10 : h2 75 6 = h 75 6 := f7 75 6 (by decide +kernel)
  have q11 : h2 76 1 = h 76 1 := f7 76 1 (by decide +kernel)
  have q12 : h2 0 10 = h 0 10 := f7 0 10 (by decide +kernel)
  have q13 : h2 75 4 = h 75 4 := f7 75 4 (by decide +kernel)
  have m14 := WT.fr w76 hJ f7 (by decide)
  have m15 := WT.fr7 w77 hJ f7 (by decide)
  have m16 : h2 75 4 = 2147483649 → 2147483650 ≤ h2 77 0 := by
    rw [f7 75 4 (by decide +kernel), f7 77 0 (by decide +kernel)]
    exact hB
  have e18 := Se.fr hG9 f7 hJ (by decide) (by decide) (by decide) (by decide) (by decide) (by decide)
  have d19 := Sd.fr hD f7 hJ (by decide) (by decide) (by decide) (by decide) (by decide) (by decide) (by decide)
  have s20 := St.fr hS f7 hJ (by decide) (by decide) (by decide) (by decide) (by decide) (by decide)
  have t17 := Ty.fr hY f7 (by decide) (by decide)
  refine x_istore (np := 1260) (x := 5) (lo' := [55340232221128654849, x_r 0, x_r 75, x_r 97, iv_c (2147483648 + j), iv_c r4, w6]) (by decide +kernel) l5 (Nat.le_of_ble_eq_true rfl) rfl ?_
  refine x_aload (np := 1261) (x := 2) (by decide +kernel) rfl (x_nc_le (by decide)) ?_
  refine x_aloadS (np := 1262) (x := 0) (by decide +kernel) rfl ?_
  refine x_iload (np := 1264) (x := 4) (by decide +kernel) rfl (by omega) ?_
  refine x_const (np := 1265) (x := 9223372043297226753) (a := 2147483649) (by decide +kernel) (by decide) (by decide) ?_
  refine x_iadd (np := 1266) (x := 0) (v := (2147483648 + (j + 1))) (by decide +kernel) (by omega) (by decide) (by omega) (by omega) ?_
  refine x_scr (j := (j + 1)) hs (np := 1267) (x := 0) (by decide +kernel) rfl (by omega) (by omega) ?_
  have b21 : (sv sc (j + 1)) < 4294967296 := sv_lt
  refine x_cIc (t := 6) (mj := 239) (n := 2) (rc := 12) (ml := 4) (cc := 0) (ss := 0) (nr := 0) (np := 1270) (as := [x_r 75, iv_c (sv sc (j + 1))]) (rest := []) (lo1 := [x_r 75, iv_c (sv sc (j + 1)), 147573952589676412928, 147573952589676412928]) (by decide +kernel) (by decide) (x_cbV (by decide +kernel) (by show _ ≤ 600000; omega) (by show _ ≤ 7300000; omega)) (x_rb_of (by decide +kernel)) rfl rfl (x_wr (by decide) (x_wi sv_lt x_wn)) x_wn (by decide) rfl (c239_75 j6 (by omega) m14) (fun r24 h22 l25 q23 => ?_)
  obtain ⟨j26, f27, g28⟩ := q23
  have q29 : h22 1 1 = h2 1 1 := f27 1 1 (by decide +kernel)
  have q30 : h22 75 6 = h2 75 6 := f27 75 6 (by decide +kernel)
  have q31 : h22 76 1 = h2 76 1 := f27 76 1 (by decide +kernel)
  have q32 : h22 0 10 = h2 0 10 := f27 0 10 (by decide +kernel)
  have q33 : h22 75 4 = h2 75 4 := f27 75 4 (by decide +kernel)
  have m34 := WT.fr m14 j6 f27 (by decide)
  have m35 := WT.fr7 m15 j6 f27 (by decide)
  have m36 : h22 75 4 = 2147483649 → 2147483650 ≤ h22 77 0 := by
    rw [f27 75 4 (by decide +kernel), f27 77 0 (by decide +kernel)]
    exact m16
  have e38 := Se.fr e18 f27 j6 (by decide) (by decide) (by decide) (by decide) (by decide) (by decide)
  have d39 := Sd.fr d19 f27 j6 (by decide) (by decide) (by decide) (by decide) (by decide) (by decide) (by decide)
  have s40 := St.fr s20 f27 j6 (by decide) (by decide) (by decide) (by decide) (by decide) (by decide)
  have t37 := Ty.fr t17 f27 (by decide) (by decide)
  refine x_istore (np := 1272) (x := 6) (lo' := [55340232221128654849, x_r 0, x_r 75, x_r 97, iv_c (2147483648 + j), iv_c r4, iv_c r24]) (by decide +kernel) l25 (Nat.le_of_ble_eq_true rfl) rfl ?_
  refine x_goto (np := 1275) (x := 1404) (by decide +kernel) ?_
  exact k (c0 + 1) (s0 + 6) (iv_c r4) (iv_c r24) h22 (by omega) (by omega) ⟨⟨j26, by omega, m34, m35, m36, by omega⟩, t37, s40, d39, e38⟩
set_option maxHeartbeats 0 in
theorem lc_32 {sc : Nat × Nat} {d j c0 s0 w5 w6 : Nat} {h : xh} {Q : Nat → xh → Prop} (hs : scOK sc) (hI : INV9b h) (hj : j + 6 ≤ sc.1) (hc : c0 + 2 ≤ 600000) (hz : s0 + 12 ≤ 7300000) (k : ∀ c1 s1 v5 v6 h', c1 ≤ c0 + 2 → s1 ≤ s0 + 12 → INV9b h' → X sc 309 (d + 60) Q c1 s1 1404 [55340232221128654849, x_r 0, x_r 75, x_r 97, iv_c (2147483648 + j), v5, v6] [] h') : X sc 309 (d + 60) Q c0 s0 1275 [55340232221128654849, x_r 0, x_r 75, x_r 97, iv_c (2147483648 + j), w5, w6] [] h := by
  obtain ⟨⟨hJ, hE, w76, w77, hB, hG⟩, hY, hS, hD, hG9⟩ := hI
  have h384 := hs.1
  have hS1 : tv h 1 = h 76 1 := by
    have z := hS.2.1 1 (by decide)
    rw [wx_0 (by decide)] at z
    exact z
  have hS3 := hS.2.2.1
  refine x_aload (np := 1276) (x := 1) (by decide +kernel) rfl (x_nc_le (by decide)) ?_
  refine x_aloadS (np := 1277) (x := 0) (by decide +kernel) rfl ?_
  refine x_iload (np := 1279) (x := 4) (by decide +kernel) rfl (by omega) ?_
  refine x_const (np := 1280) (x := 9223372043297226753) (a := 2147483649) (by decide +kernel) (by decide) (by decide) ?_
  refine x_iadd (np := 1281) (x := 0) (v := (2147483648 + (j + 1))) (by decide +kernel) (by omega) (by decide) (by omega) (by omega) ?_
  refine x_scr (j := (j + 1)) hs (np := 1282) (x := 0) (by decide +kernel) rfl (by omega) (by omega) ?_
  refine x_aloadS (np := 1283) (x := 0) (by decide +kernel) rfl ?_
  refine x_iload (np := 1285) (x := 4) (by decide +kernel) rfl (by omega) ?_
  refine x_const (np := 1286) (x := 9223372047592194050) (a := 2147483650) (by decide +kernel) (by decide) (by decide) ?_
  refine x_iadd (np := 1287) (x := 0) (v := (2147483648 + (j + 2))) (by decide +kernel) (by omega) (by decide) (by omega) (by omega) ?_
  refine x_scr (j := (j + 2)) hs (np := 1288) (x := 0) (by decide +kernel) rfl (by omega) (by omega) ?_
  refine x_aload (np := 1289) (x := 3) (by decide +kernel) rfl (x_nc_le (by decide)) ?_
  have b1 : (sv sc (j + 1)) < 4294967296 := sv_lt
  have b2 : (sv sc (j + 2)) < 4294967296 := sv_lt
  refine x_cIc (t := 0) (mj := 307) (n := 4) (rc := 0) (ml := 5) (cc := 2) (ss := 12) (nr := 0) (np := 1292) (as := [x_r 0, iv_c (sv sc (j + 1)), iv_c (sv sc (j + 2)), x_r 97]) (rest := []) (lo1 := [x_r 0, iv_c (sv sc (j + 1)), iv_c (sv sc (j + 2)), x_r 97, 147573952589676412928]) (by decide +kernel) (by decide) (x_cbV (by decide +kernel) (by show _ ≤ 600000; omega) (by show _ ≤ 7300000; omega)) (Or.inl rfl) rfl rfl (x_wr (by decide) (x_wi sv_lt (x_wi sv_lt (x_wr (by decide) x_wn)))) x_wn (by decide) rfl (c307_0_97 hJ (by omega) (by omega)) (fun r5 h3 l6 q4 => ?_)
  obtain ⟨j7, f8, g9⟩ := q4
  have q10 : h3 1 1 = h 1 1 := f8 1 1 (by decide +kernel)
  have q11 : h3 75 6 = h 75 6 := f8 75 6 (by decide +kernel)
  have q12 : h3 76 1 = h 76 1 := f8 76 1 (by decide +kernel)
  have q13 : h3 0 10 = h 0 10 := f8 0 10 (by decide +kernel)
  have q14 : h3 75 4 = h 75 4 := f8 75 4 (by decide +kernel)
  have m15 := WT.fr w76 hJ f8 (by decide)
  have m16 := WT.fr7 w77 hJ f8 (by decide)
  have m17 : h3 75 4 = 2147483649 → 2147483650 ≤ h3 77 0 := by
    rw [f8 75 4 (by decide +kernel), f8 77 0 (by decide +kernel)]
    exact hB
  have e19 := Se.fr hG9 f8 hJ (by decide) (by decide) (by decide) (by decide) (by decide) (by decide)
  have d20 := Sd.fr hD f8 hJ (by decide) (by decide) (by decide) (by decide) (by decide) (by decide) (by decide)
  have s21 := St.fr hS f8 hJ (by decide) (by decide) (by decide) (by decide) (by decide) (by decide)
  have t18 := Ty.fr hY f8 (by decide) (by decide)
  refine x_istore (np := 1294) (x := 5) (lo' := [55340232221128654849, x_r 0, x_r 75, x_r 97, iv_c (2147483648 + j), iv_c r5, w6]) (by decide +kernel) l6 (Nat.le_of_ble_eq_true rfl) rfl ?_
  refine x_aload (np := 1295) (x := 2) (by decide +kernel) rfl (x_nc_le (by decide)) ?_
  refine x_aloadS (np := 1296) (x := 0) (by decide +kernel) rfl ?_
  refine x_iload (np := 1298) (x := 4) (by decide +kernel) rfl (by omega) ?_
  refine x_const (np := 1299) (x := 9223372043297226753) (a := 2147483649) (by decide +kernel) (by decide) (by decide) ?_
  refine x_iadd (np := 1300) (x := 0) (v := (2147483648 + (j + 1))) (by decide +kernel) (by omega) (by decide) (by omega) (by omega) ?_
  refine x_scr (j := (j + 1)) hs (np := 1301) (x := 0) (by decide +kernel) rfl (by omega) (by omega) ?_
  refine x_aloadS (np := 1302) (x := 0) (by decide +kernel) rfl ?_
  refine x_iload (np := 1304) (x := 4) (by decide +kernel) rfl (by omega) ?_
  refine x_const (np := 1305) (x := 9223372047592194050) (a := 2147483650) (by decide +kernel) (by decide) (by decide) ?_
  refine x_iadd (np := 1306) (x := 0) (v := (2147483648 + (j + 2))) (by decide +kernel) (by omega) (by decide) (by omega) (by omega) ?_
  refine x_scr (j := (j + 2)) hs (np := 1307) (x := 0) (by decide +kernel) rfl (by omega) (by omega) ?_
  have b22 : (sv sc (j + 1)) < 4294967296 := sv_lt
  have b23 : (sv sc (j + 2)) < 4294967296 := sv_lt
  refine x_cIc (t := 6) (mj := 240) (n := 3) (rc := 12) (ml := 5) (cc := 0) (ss := 0) (nr := 0) (np := 1310) (as := [x_r 75, iv_c (sv sc (j + 1)), iv_c (sv sc (j + 2))]) (rest := []) (lo1 := [x_r 75, iv_c (sv sc (j + 1)), iv_c (sv sc (j + 2)), 147573952589676412928, 147573952589676412928]) (by decide +kernel) (by decide) (x_cbV (by decide +kernel) (by show _ ≤ 600000; omega) (by show _ ≤ 7300000; omega)) (x_rb_of (by decide +kernel)) rfl rfl (x_wr (by decide) (x_wi sv_lt (x_wi sv_lt x_wn))) x_wn (by decide) rfl (c240_75 j7 (by omega) (by omega) m15) (fun r26 h24 l27 q25 => ?_)
  obtain ⟨j28, f29, g30⟩ := q25
  have q31 : h24 1 1 = h3 1 1 := f29 1 1 (by decide +kernel)
  have q32 : h24 75 6 = h3 75 6 := f29 75 6 (by decide +kernel)
  have q33 : h24 76 1 = h3 76 1 := f29 76 1 (by decide +kernel)
  have q34 : h24 0 10 = h3 0 10 := f29 0 10 (by decide +kernel)
  have q35 : h24 75 4 = h3 75 4 := f29 75 4 (by decide +kernel)
  have m36 := WT.fr m15 j7 f29 (by decide)
  have m37 := WT.fr7 m16 j7 f29 (by decide)
  have m38 : h24 75 4 = 2147483649 → 2147483650 ≤ h24 77 0 := by
    rw [f29 75 4 (by decide +kernel), f29 77 0 (by decide +kernel)]
    exact m17
  have e40 := Se.fr e19 f29 j7 (by decide) (by decide) (by decide) (by decide) (by decide) (by decide)
  have d41 := Sd.fr d20 f29 j7 (by decide) (by decide) (by decide) (by decide) (by decide) (by decide) (by decide)
  have s42 := St.fr s21 f29 j7 (by decide) (by decide) (by decide) (by decide) (by decide) (by decide)
  have t39 := Ty.fr t18 f29 (by decide) (by decide)
  refine x_istore (np := 1312) (x := 6) (lo' := [55340232221128654849, x_r 0, x_r 75, x_r 97, iv_c (2147483648 + j), iv_c r5, iv_c r26]) (by decide +kernel) l27 (Nat.le_of_ble_eq_true rfl) rfl ?_
  refine x_goto (np := 1315) (x := 1404) (by decide +kernel) ?_
  exact k (c0 + 2) (s0 + 12) (iv_c r5) (iv_c r26) h24 (by omega) (by omega) ⟨⟨j28, by omega, m36, m37, m38, by omega⟩, t39, s42, d41, e40⟩
set_option maxHeartbeats 0 in
theorem lc_33 {sc : Nat × Nat} {d j c0 s0 w5 w6 : Nat} {h : xh} {Q : Nat → xh → Prop} (hs : scOK sc) (hI : INV9b h) (hj : j + 6 ≤ sc.1) (hc : c0 + 2 ≤ 600000) (hz : s0 + 12 ≤ 7300000) (k : ∀ c1 s1 v5 v6 h', c1 ≤ c0 + 2 → s1 ≤ s0 + 12 → INV9b h' → X sc 309 (d + 60) Q c1 s1 1404 [55340232221128654849, x_r 0, x_r 75, x_r 97, iv_c (2147483648 + j), v5, v6] [] h') : X sc 309 (d + 60) Q c0 s0 1315 [55340232221128654849, x_r 0, x_r 75, x_r 97, iv_c (2147483648 + j), w5, w6] [] h := by
  obtain ⟨⟨hJ, hE, w76, w77, hB, hG⟩, hY, hS, hD, hG9⟩ := hI
  have h384 := hs.1
  have hS1 : tv h 1 = h 76 1 := by
    have z := hS.2.1 1 (by decide)
    rw [wx_0 (by decide)] at z
    exact z
  have hS3 := hS.2.2.1
  refine x_aload (np := 1316) (x := 1) (by decide +kernel) rfl (x_nc_le (by decide)) ?_
  refine x_aloadS (np := 1317) (x := 0) (by decide +kernel) rfl ?_
  refine x_iload (np := 1319) (x := 4) (by decide +kernel) rfl (by omega) ?_
  refine x_const (np := 1320) (x := 9223372043297226753) (a := 2147483649) (by decide +kernel) (by decide) (by decide) ?_
  refine x_iadd (np := 1321) (x := 0) (v := (2147483648 + (j + 1))) (by decide +kernel) (by omega) (by decide) (by omega) (by omega) ?_
  refine x_scr (j := (j + 1)) hs (np := 1322) (x := 0) (by decide +kernel) rfl (by omega) (by omega) ?_
  refine x_aloadS (np := 1323) (x := 0) (by decide +kernel) rfl ?_
  refine x_iload (np := 1325) (x := 4) (by decide +kernel) rfl (by omega) ?_
  refine x_const (np := 1326) (x := 9223372047592194050) (a := 2147483650) (by decide +kernel) (by decide) (by decide) ?_
  refine x_iadd (np := 1327) (x := 0) (v := (2147483648 + (j + 2))) (by decide +kernel) (by omega) (by decide) (by omega) (by omega) ?_
  refine x_scr (j := (j + 2)) hs (np := 1328) (x := 0) (by decide +kernel) rfl (by omega) (by omega) ?_
  refine x_aload (np := 1329) (x := 3) (by decide +kernel) rfl (x_nc_le (by decide)) ?_
  have b1 : (sv sc (j + 1)) < 4294967296 := sv_lt
  have b2 : (sv sc (j + 2)) < 4294967296 := sv_lt
  refine x_cIc (t := 0) (mj := 308) (n := 4) (rc := 0) (ml := 5) (cc := 2) (ss := 12) (nr := 0) (np := 1332) (as := [x_r 0, iv_c (sv sc (j + 1)), iv_c (sv sc (j + 2)), x_r 97]) (rest := []) (lo1 := [x_r 0, iv_c (sv sc (j + 1)), iv_c (sv sc (j + 2)), x_r 97, 147573952589676412928]) (by decide +kernel) (by decide) (x_cbV (by decide +kernel) (by show _ ≤ 600000; omega) (by show _ ≤ 7300000; omega)) (Or.inl rfl) rfl rfl (x_wr (by decide) (x_wi sv_lt (x_wi sv_lt (x_wr (by decide) x_wn)))) x_wn (by decide) rfl (c308_0_97 hJ (by omega) (by omega)) (fun r5 h3 l6 q4 => ?_)
  obtain ⟨j7, f8, g9⟩ := q4
  have q10 : h3 1 1 = h 1 1 := f8 1 1 (by decide +kernel)
  have q11 : h3 75 6 = h 75 6 := f8 75 6 (by decide +kernel)
  have q12 : h3 76 1 = h 76 1 := f8 76 1 (by decide +kernel)
  have q13 : h3 0 10 = h 0 10 := f8 0 10 (by decide +kernel)
  have q14 : h3 75 4 = h 75 4 := f8 75 4 (by decide +kernel)
  have m15 := WT.fr w76 hJ f8 (by decide)
  have m16 := WT.fr7 w77 hJ f8 (by decide)
  have m17 : h3 75 4 = 2147483649 → 2147483650 ≤ h3 77 0 := by
    rw [f8 75 4 (by decide +kernel), f8 77 0 (by decide +kernel)]
    exact hB
  have e19 := Se.fr hG9 f8 hJ (by decide) (by decide) (by decide) (by decide) (by decide) (by decide)
  have d20 := Sd.fr hD f8 hJ (by decide) (by decide) (by decide) (by decide) (by decide) (by decide) (by decide)
  have s21 := St.fr hS f8 hJ (by decide) (by decide) (by decide) (by decide) (by decide) (by decide)
  have t18 := Ty.fr hY f8 (by decide) (by decide)
  refine x_istore (np := 1334) (x := 5) (lo' := [55340232221128654849, x_r 0, x_r 75, x_r 97, iv_c (2147483648 + j), iv_c r5, w6]) (by decide +kernel) l6 (Nat.le_of_ble_eq_true rfl) rfl ?_
  refine x_aload (np := 1335) (x := 2) (by decide +kernel) rfl (x_nc_le (by decide)) ?_
  refine x_aloadS (np := 1336) (x := 0) (by decide +kernel) rfl ?_
  refine x_iload (np := 1338) (x := 4) (by decide +kernel) rfl (by omega) ?_
  refine x_const (np := 1339) (x := 9223372043297226753) (a := 2147483649) (by decide +kernel) (by decide) (by decide) ?_
  refine x_iadd (np := 1340) (x := 0) (v := (2147483648 + (j + 1))) (by decide +kernel) (by omega) (by decide) (by omega) (by omega) ?_
  refine x_scr (j := (j + 1)) hs (np := 1341) (x := 0) (by decide +kernel) rfl (by omega) (by omega) ?_
  refine x_aloadS (np := 1342) (x := 0) (by decide +kernel) rfl ?_
  refine x_iload (np := 1344) (x := 4) (by decide +kernel) rfl (by omega) ?_
  refine x_const (np := 1345) (x := 9223372047592194050) (a := 2147483650) (by decide +kernel) (by decide) (by decide) ?_
  refine x_iadd (np := 1346) (x := 0) (v := (2147483648 + (j + 2))) (by decide +kernel) (by omega) (by decide) (by omega) (by omega) ?_
  refine x_scr (j := (j + 2)) hs (np := 1347) (x := 0) (by decide +kernel) rfl (by omega) (by omega) ?_
  have b22 : (sv sc (j + 1)) < 4294967296 := sv_lt
  have b23 : (sv sc (j + 2)) < 4294967296 := sv_lt
  refine x_cIc (t := 6) (mj := 241) (n := 3) (rc := 12) (ml := 4) (cc := 0) (ss := 0) (nr := 0) (np := 1350) (as := [x_r 75, iv_c (sv sc (j + 1)), iv_c (sv sc (j + 2))]) (rest := []) (lo1 := [x_r 75, iv_c (sv sc (j + 1)), iv_c (sv sc (j + 2)), 147573952589676412928]) (by decide +kernel) (by decide) (x_cbV (by decide +kernel) (by show _ ≤ 600000; omega) (by show _ ≤ 7300000; omega)) (x_rb_of (by decide +kernel)) rfl rfl (x_wr (by decide) (x_wi sv_lt (x_wi sv_lt x_wn))) x_wn (by decide) rfl (c241_75 j7 (by omega) (by omega) m15) (fun r26 h24 l27 q25 => ?_)
  obtain ⟨j28, f29, g30⟩ := q25
  have q31 : h24 1 1 = h3 1 1 := f29 1 1 (by decide +kernel)
  have q32 : h24 75 6 = h3 75 6 := f29 75 6 (by decide +kernel)
  have q33 : h24 76 1 = h3 76 1 := f29 76 1 (by decide +kernel)
  have q34 : h24 0 10 = h3 0 10 := f29 0 10 (by decide +kernel)
  have q35 : h24 75 4 = h3 75 4 := f29 75 4 (by decide +kernel)
  have m36 := WT.fr m15 j7 f29 (by decide)
  have m37 := WT.fr7 m16 j7 f29 (by decide)
  have m38 : h24 75 4 = 2147483649 → 2147483650 ≤ h24 77 0 := by
    rw [f29 75 4 (by decide +kernel), f29 77 0 (by decide +kernel)]
    exact m17
  have e40 := Se.fr e19 f29 j7 (by decide) (by decide) (by decide) (by decide) (by decide) (by decide)
  have d41 := Sd.fr d20 f29 j7 (by decide) (by decide) (by decide) (by decide) (by decide) (by decide) (by decide)
  have s42 := St.fr s21 f29 j7 (by decide) (by decide) (by decide) (by decide) (by decide) (by decide)
  have t39 := Ty.fr t18 f29 (by decide) (by decide)
  refine x_istore (np := 1352) (x := 6) (lo' := [55340232221128654849, x_r 0, x_r 75, x_r 97, iv_c (2147483648 + j), iv_c r5, iv_c r26]) (by decide +kernel) l27 (Nat.le_of_ble_eq_true rfl) rfl ?_
  refine x_goto (np := 1355) (x := 1404) (by decide +kernel) ?_
  exact k (c0 + 2) (s0 + 12) (iv_c r5) (iv_c r26) h24 (by omega) (by omega) ⟨⟨j28, by omega, m36, m37, m38, by omega⟩, t39, s42, d41, e40⟩
set_option maxHeartbeats 0 in
theorem lc_34 {sc : Nat × Nat} {d j c0 s0 w5 w6 : Nat} {h : xh} {Q : Nat → xh → Prop} (hs : scOK sc) (hI : INV9b h) (hj : j + 6 ≤ sc.1) (hc : c0 + 2 ≤ 600000) (hz : s0 + 12 ≤ 7300000) (k : ∀ c1 s1 v5 v6 h', c1 ≤ c0 + 2 → s1 ≤ s0 + 12 → INV9b h' → X sc 309 (d + 60) Q c1 s1 1404 [55340232221128654849, x_r 0, x_r 75, x_r 97, iv_c (2147483648 + j), v5, v6] [] h') : X sc 309 (d + 60) Q c0 s0 1355 [55340232221128654849, x_r 0, x_r 75, x_r 97, iv_c (2147483648 + j), w5, w6] [] h := by
  obtain ⟨⟨hJ, hE, w76, w77, hB, hG⟩, hY, hS, hD, hG9⟩ := hI
  have h384 := hs.1
  have hS1 : tv h 1 = h 76 1 := by
    have z := hS.2.1 1 (by decide)
    rw [wx_0 (by decide)] at z
    exact z
  have hS3 := hS.2.2.1
  refine x_aload (np := 1356) (x := 1) (by decide +kernel) rfl (x_nc_le (by decide)) ?_
  refine x_cVc (t := 6) (mj := 138) (n := 1) (rc := 11) (ml := 1) (cc := 0) (ss := 0) (nr := 0) (np := 1359) (as := [x_r 0]) (rest := []) (lo1 := [x_r 0]) (by decide +kernel) (by decide) (x_cbV (by decide +kernel) (by show _ ≤ 600000; omega) (by show _ ≤ 7300000; omega)) (x_rb_of (by decide +kernel)) rfl rfl (x_wr (by decide) x_wn) x_wn (by decide) rfl (c138_0 hJ) (fun h1 q2 => ?_)
  obtain ⟨j5, f6, g7, g8, g9, g10, g11⟩ := q2
  have q12 : h1 1 1 = h 1 1 := f6 1 1 (by decide +kernel)
  have q13 : h1 75 6 = h 75 6 := f6 75 6 (by decide +kernel)
  have q14 : h1 76 1 = h 76 1 := f6 76 1 (by decide +kernel)
  have q15 : h1 75 4 = h 75 4 := f6 75 4 (by decide +kernel)
  have m16 := WT.fr w76 hJ f6 (by decide)
  have m17 := WT.fr7 w77 hJ f6 (by decide)
  have m18 : h1 75 4 = 2147483649 → 2147483650 ≤ h1 77 0 := by
    rw [f6 75 4 (by decide +kernel), f6 77 0 (by decide +kernel)]
    exact hB
  have t19 := Ty.fr hY f6 (by decide) (by decide)
  refine x_aload (np := 1360) (x := 2) (by decide +kernel) rfl (x_nc_le (by decide)) ?_
  refine x_cVc (t := 6) (mj := 155) (n := 1) (rc := 12) (ml := 2) (cc := 0) (ss := 0) (nr := 0) (np := 1363) (as := [x_r 75]) (rest := []) (lo1 := [x_r 75, 147573952589676412928]) (by decide +kernel) (by decide) (x_cbV (by decide +kernel) (by show _ ≤ 600000; omega) (by show _ ≤ 7300000; omega)) (x_rb_of (by decide +kernel)) rfl rfl (x_wr (by decide) x_wn) x_wn (by decide) rfl (c155_75 j5) (fun h23 q24 => ?_)
  obtain ⟨j27, f28, g29, g30⟩ := q24
  have q31 : h23 1 1 = h1 1 1 := f28 1 1 (by decide +kernel)
  have q32 : h23 75 6 = h1 75 6 := f28 75 6 (by decide +kernel)
  have q33 : h23 76 1 = h1 76 1 := f28 76 1 (by decide +kernel)
  have q34 : h23 0 10 = h1 0 10 := f28 0 10 (by decide +kernel)
  have m35 := WT.fr m16 j5 f28 (by decide)
  have m36 : WT 77 h23 := WT.of m16 j5 (Or.inl rfl) (fun i _ h9 => g30 i h9)
  have m37 : h23 75 4 = 2147483649 → 2147483650 ≤ h23 77 0 := fun _ => by
    rw [g30 0 (by decide)]
    have z := (j5.1 76 0 (by decide) (by decide +kernel)).1
    rw [show j_lo 76 0 = 2147483650 by decide +kernel] at z
    exact z
  have e39 := Se.image hG9 g8 g9 g30 j5 f6 (by decide) f28 (by decide) (by decide) (by decide) (by decide)
  have d40 := Sd.image hD g8 g9 g30 j5 f6 (by decide) (by decide) f28 (by decide) (by decide) (by decide) (by decide) (by decide)
  have s41 := St.image hS g8 g9 g10 g11 g30 j5 f6 (by decide) f28 (by decide) (by decide) (by decide) (by decide)
  have t38 := Ty.fr t19 f28 (by decide) (by decide)
  refine x_goto (np := 1366) (x := 1404) (by decide +kernel) ?_
  exact k c0 s0 w5 w6 h23 (by omega) (by omega) ⟨⟨j27, by omega, m35, m36, m37, by omega⟩, t38, s41, d40, e39⟩
set_option maxHeartbeats 0 in
theorem lc_35 {sc : Nat × Nat} {d j c0 s0 w5 w6 : Nat} {h : xh} {Q : Nat → xh → Prop} (hs : scOK sc) (hI : INV9b h) (hj : j + 6 ≤ sc.1) (hc : c0 + 2 ≤ 600000) (hz : s0 + 12 ≤ 7300000) (k : ∀ c1 s1 v5 v6 h', c1 ≤ c0 + 2 → s1 ≤ s0 + 12 → INV9b h' → X sc 309 (d + 60) Q c1 s1 1404 [55340232221128654849, x_r 0, x_r 75, x_r 97, iv_c (2147483648 + j), v5, v6] [] h') : X sc 309 (d + 60) Q c0 s0 1366 [55340232221128654849, x_r 0, x_r 75, x_r 97, iv_c (2147483648 + j), w5, w6] [] h := by
  obtain ⟨⟨hJ, hE, w76, w77, hB, hG⟩, hY, hS, hD, hG9⟩ := hI
  have h384 := hs.1
  have hS1 : tv h 1 = h 76 1 := by
    have z := hS.2.1 1 (by decide)
    rw [wx_0 (by decide)] at z
    exact z
  have hS3 := hS.2.2.1
  refine x_aload (np := 1367) (x := 1) (by decide +kernel) rfl (x_nc_le (by decide)) ?_
  refine x_cIc (t := 6) (mj := 139) (n := 1) (rc := 11) (ml := 1) (cc := 0) (ss := 0) (nr := 0) (np := 1370) (as := [x_r 0]) (rest := []) (lo1 := [x_r 0]) (by decide +kernel) (by decide) (x_cbV (by decide +kernel) (by show _ ≤ 600000; omega) (by show _ ≤ 7300000; omega)) (x_rb_of (by decide +kernel)) rfl rfl (x_wr (by decide) x_wn) x_wn (by decide) rfl (c139_0 hJ) (fun r3 h1 l4 q2 => ?_)
  obtain ⟨j5, f6, g7, g8, g9, g10, g11, g12, g13, g14⟩ := q2
  have q15 : h1 1 1 = h 1 1 := f6 1 1 (by decide +kernel)
  have q16 : h1 75 6 = h 75 6 := f6 75 6 (by decide +kernel)
  have q17 : h1 76 1 = h 76 1 := f6 76 1 (by decide +kernel)
  have q18 : h1 0 10 = h 0 10 := f6 0 10 (by decide +kernel)
  have q19 : h1 75 4 = h 75 4 := f6 75 4 (by decide +kernel)
  have m20 := WT.fr w76 hJ f6 (by decide)
  have m21 := WT.fr7 w77 hJ f6 (by decide)
  have m22 : h1 75 4 = 2147483649 → 2147483650 ≤ h1 77 0 := by
    rw [f6 75 4 (by decide +kernel), f6 77 0 (by decide +kernel)]
    exact hB
  have t23 := Ty.fr hY f6 (by decide) (by decide)
  refine x_pop (by decide +kernel) l4 ?_
  refine x_aload (np := 1372) (x := 2) (by decide +kernel) rfl (x_nc_le (by decide)) ?_
  refine x_cIc (t := 6) (mj := 156) (n := 1) (rc := 12) (ml := 2) (cc := 0) (ss := 0) (nr := 0) (np := 1375) (as := [x_r 75]) (rest := []) (lo1 := [x_r 75, 147573952589676412928]) (by decide +kernel) (by decide) (x_cbV (by decide +kernel) (by show _ ≤ 600000; omega) (by show _ ≤ 7300000; omega)) (x_rb_of (by decide +kernel)) rfl rfl (x_wr (by decide) x_wn) x_wn (by decide) rfl (c156_75 j5 m22) (fun r29 h27 l30 q28 => ?_)
  obtain ⟨j31, f32, g33, g34, g35, g36⟩ := q28
  have q37 : h27 1 1 = h1 1 1 := f32 1 1 (by decide +kernel)
  have q38 : h27 75 6 = h1 75 6 := f32 75 6 (by decide +kernel)
  have q39 : h27 0 10 = h1 0 10 := f32 0 10 (by decide +kernel)
  have q40 : h27 75 4 = h1 75 4 := f32 75 4 (by decide +kernel)
  have m41 : WT 76 h27 := by
    rcases (show r29 = 2147483649 ∨ r29 = 2147483648 by omega) with z | z
    · exact WT.of m21 j5 (Or.inr rfl) (fun i _ h9 => g35 z i h9)
    · exact WT.of m20 j5 (Or.inl rfl) (fun i _ _ => g36 z i)
  have m42 := WT.fr7 m21 j5 f32 (by decide)
  have m43 : h27 75 4 = 2147483649 → 2147483650 ≤ h27 77 0 := by
    rw [f32 75 4 (by decide +kernel), f32 77 0 (by decide +kernel)]
    exact m22
  have e45 := Se.back hG9 (by omega) (by omega) g9 g10 (by omega) g35 g36 j5 f6 (by decide) (by decide) (by decide) (by decide) f32 (by decide) (by decide) (by decide) (by decide) (by decide)
  have d46 := Sd.back hD (by omega) (by omega) g9 g10 g13 g14 (by omega) g35 g36 j5 f6 (by decide) (by decide) (by decide) (by decide) f32 (by decide) (by decide) (by decide) (by decide) (by decide) (by decide)
  have s47 := St.back hS (by omega) (by omega) g9 g10 g11 g12 (by omega) g35 g36 j5 f6 (by decide) (by decide) (by decide) (by decide) f32 (by decide) (by decide) (by decide) (by decide) (by decide)
  have t44 := Ty.fr t23 f32 (by decide) (by decide)
  refine x_pop (by decide +kernel) l30 ?_
  refine x_goto (np := 1379) (x := 1404) (by decide +kernel) ?_
  exact k c0 s0 w5 w6 h27 (by omega) (by omega) ⟨⟨j31, by omega, m41, m42, m43, by omega⟩, t44, s47, d46, e45⟩
set_option maxHeartbeats 0 in
theorem lc_36 {sc : Nat × Nat} {d j c0 s0 w5 w6 : Nat} {h : xh} {Q : Nat → xh → Prop} (hs : scOK sc) (hI : INV9b h) (hj : j + 6 ≤ sc.1) (hc : c0 + 2 ≤ 600000) (hz : s0 + 12 ≤ 7300000) (k : ∀ c1 s1 v5 v6 h', c1 ≤ c0 + 2 → s1 ≤ s0 + 12 → INV9b h' → X sc 309 (d + 60) Q c1 s1 1404 [55340232221128654849, x_r 0, x_r 75, x_r 97, iv_c (2147483648 + j), v5, v6] [] h') : X sc 309 (d + 60) Q c0 s0 1379 [55340232221128654849, x_r 0, x_r 75, x_r 97, iv_c (2147483648 + j), w5, w6] [] h := by
  obtain ⟨⟨hJ, hE, w76, w77, hB, hG⟩, hY, hS, hD, hG9⟩ := hI
  have h384 := hs.1
  have hS1 : tv h 1 = h 76 1 := by
    have z := hS.2.1 1 (by decide)
    rw [wx_0 (by decide)] at z
    exact z
  have hS3 := hS.2.2.1
  refine x_aload (np := 1380) (x := 1) (by decide +kernel) rfl (x_nc_le (by decide)) ?_
  refine x_aloadS (np := 1381) (x := 0) (by decide +kernel) rfl ?_
  refine x_iload (np := 1383) (x := 4) (by decide +kernel) rfl (by omega) ?_
  refine x_const (np := 1384) (x := 9223372043297226753) (a := 2147483649) (by decide +kernel) (by decide) (by decide) ?_
  refine x_iadd (np := 1385) (x := 0) (v := (2147483648 + (j + 1))) (by decide +kernel) (by omega) (by decide) (by omega) (by omega) ?_
  refine x_scr (j := (j + 1)) hs (np := 1386) (x := 0) (by decide +kernel) rfl (by omega) (by omega) ?_
  have b1 : (sv sc (j + 1)) < 4294967296 := sv_lt
  refine x_cIc (t := 6) (mj := 140) (n := 2) (rc := 11) (ml := 2) (cc := 0) (ss := 0) (nr := 0) (np := 1389) (as := [x_r 0, iv_c (sv sc (j + 1))]) (rest := []) (lo1 := [x_r 0, iv_c (sv sc (j + 1))]) (by decide +kernel) (by decide) (x_cbV (by decide +kernel) (by show _ ≤ 600000; omega) (by show _ ≤ 7300000; omega)) (x_rb_of (by decide +kernel)) rfl rfl (x_wr (by decide) (x_wi sv_lt x_wn)) x_wn (by decide) rfl (c140_0 hJ (by omega)) (fun r4 h2 l5 q3 => ?_)
  obtain ⟨q6, b7⟩ := q3
  rw [q6]
  refine x_pop (by decide +kernel) l5 ?_
  refine x_aload (np := 1391) (x := 2) (by decide +kernel) rfl (x_nc_le (by decide)) ?_
  refine x_aloadS (np := 1392) (x := 0) (by decide +kernel) rfl ?_
  refine x_iload (np := 1394) (x := 4) (by decide +kernel) rfl (by omega) ?_
  refine x_const (np := 1395) (x := 9223372043297226753) (a := 2147483649) (by decide +kernel) (by decide) (by decide) ?_
  refine x_iadd (np := 1396) (x := 0) (v := (2147483648 + (j + 1))) (by decide +kernel) (by omega) (by decide) (by omega) (by omega) ?_
  refine x_scr (j := (j + 1)) hs (np := 1397) (x := 0) (by decide +kernel) rfl (by omega) (by omega) ?_
  have b8 : (sv sc (j + 1)) < 4294967296 := sv_lt
  refine x_cIc (t := 6) (mj := 268) (n := 2) (rc := 12) (ml := 4) (cc := 0) (ss := 0) (nr := 0) (np := 1400) (as := [x_r 75, iv_c (sv sc (j + 1))]) (rest := []) (lo1 := [x_r 75, iv_c (sv sc (j + 1)), 147573952589676412928, 147573952589676412928]) (by decide +kernel) (by decide) (x_cbV (by decide +kernel) (by show _ ≤ 600000; omega) (by show _ ≤ 7300000; omega)) (x_rb_of (by decide +kernel)) rfl rfl (x_wr (by decide) (x_wi sv_lt x_wn)) x_wn (by decide) rfl (c268_75 hJ (by omega) w76) (fun r11 h9 l12 q10 => ?_)
  obtain ⟨j13, f14, g15⟩ := q10
  have q16 : h9 1 1 = h 1 1 := f14 1 1 (by decide +kernel)
  have q17 : h9 75 6 = h 75 6 := f14 75 6 (by decide +kernel)
  have q18 : h9 76 1 = h 76 1 := f14 76 1 (by decide +kernel)
  have q19 : h9 0 10 = h 0 10 := f14 0 10 (by decide +kernel)
  have q20 : h9 75 4 = h 75 4 := f14 75 4 (by decide +kernel)
  have m21 := WT.fr w76 hJ f14 (by decide)
  have m22 := WT.fr7 w77 hJ f14 (by decide)
  have m23 : h9 75 4 = 2147483649 → 2147483650 ≤ h9 77 0 := by
    rw [f14 75 4 (by decide +kernel), f14 77 0 (by decide +kernel)]
    exact hB
  have e25 := Se.fr hG9 f14 hJ (by decide) (by decide) (by decide) (by decide) (by decide) (by decide)
  have d26 := Sd.fr hD f14 hJ (by decide) (by decide) (by decide) (by decide) (by decide) (by decide) (by decide)
  have s27 := St.fr hS f14 hJ (by decide) (by decide) (by decide) (by decide) (by decide) (by decide)
  have t24 := Ty.fr hY f14 (by decide) (by decide)
  refine x_pop (by decide +kernel) l12 ?_
  refine x_goto (np := 1404) (x := 1404) (by decide +kernel) ?_
  exact k c0 s0 w5 w6 h9 (by omega) (by omega) ⟨⟨j13, by omega, m21, m22, m23, by omega⟩, t24, s27, d26, e25⟩
