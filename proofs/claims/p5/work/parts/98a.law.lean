/-! ===== the law: its cases ===== -/
set_option maxHeartbeats 0 in
theorem lc_0 {sc : Nat × Nat} {d j c0 s0 w5 w6 : Nat} {h : xh} {Q : Nat → xh → Prop} (hs : scOK sc) (hI : INV5 h) (hj : j + 6 ≤ sc.1) (hc : c0 + 2 ≤ 600000) (hz : s0 + 12 ≤ 7300000) (k : ∀ c1 s1 v5 v6 h', c1 ≤ c0 + 2 → s1 ≤ s0 + 12 → INV5 h' → X sc 309 (d + 60) Q c1 s1 1369 [55340232221128654849, x_r 0, x_r 75, x_r 97, iv_c (2147483648 + j), v5, v6] [] h') : X sc 309 (d + 60) Q c0 s0 204 [55340232221128654849, x_r 0, x_r 75, x_r 97, iv_c (2147483648 + j), w5, w6] [] h := by
  obtain ⟨⟨hJ, hE, w76, w77, hB, hG⟩, hY, hS, hF⟩ := hI
  have h384 := hs.1
  have hS1 := hS.2.1 1 (by decide)
  have hS3 := hS.2.2.1
  refine x_aload (np := 205) (x := 1) (by decide +kernel) rfl (x_nc_le (by decide)) ?_
  refine x_aloadS (np := 206) (x := 0) (by decide +kernel) rfl ?_
  refine x_iload (np := 208) (x := 4) (by decide +kernel) rfl (by omega) ?_
  refine x_const (np := 209) (x := 9223372043297226753) (a := 2147483649) (by decide +kernel) (by decide) (by decide) ?_
  refine x_iadd (np := 210) (x := 0) (v := (2147483648 + (j + 1))) (by decide +kernel) (by omega) (by decide) (by omega) (by omega) ?_
  refine x_scr (j := (j + 1)) hs (np := 211) (x := 0) (by decide +kernel) rfl (by omega) (by omega) ?_
  refine x_aloadS (np := 212) (x := 0) (by decide +kernel) rfl ?_
  refine x_iload (np := 214) (x := 4) (by decide +kernel) rfl (by omega) ?_
  refine x_const (np := 215) (x := 9223372047592194050) (a := 2147483650) (by decide +kernel) (by decide) (by decide) ?_
  refine x_iadd (np := 216) (x := 0) (v := (2147483648 + (j + 2))) (by decide +kernel) (by omega) (by decide) (by omega) (by omega) ?_
  refine x_scr (j := (j + 2)) hs (np := 217) (x := 0) (by decide +kernel) rfl (by omega) (by omega) ?_
  refine x_aloadS (np := 218) (x := 0) (by decide +kernel) rfl ?_
  refine x_iload (np := 220) (x := 4) (by decide +kernel) rfl (by omega) ?_
  refine x_const (np := 221) (x := 9223372051887161347) (a := 2147483651) (by decide +kernel) (by decide) (by decide) ?_
  refine x_iadd (np := 222) (x := 0) (v := (2147483648 + (j + 3))) (by decide +kernel) (by omega) (by decide) (by omega) (by omega) ?_
  refine x_scr (j := (j + 3)) hs (np := 223) (x := 0) (by decide +kernel) rfl (by omega) (by omega) ?_
  refine x_aloadS (np := 224) (x := 0) (by decide +kernel) rfl ?_
  refine x_iload (np := 226) (x := 4) (by decide +kernel) rfl (by omega) ?_
  refine x_const (np := 227) (x := 9223372056182128644) (a := 2147483652) (by decide +kernel) (by decide) (by decide) ?_
  refine x_iadd (np := 228) (x := 0) (v := (2147483648 + (j + 4))) (by decide +kernel) (by omega) (by decide) (by omega) (by omega) ?_
  refine x_scr (j := (j + 4)) hs (np := 229) (x := 0) (by decide +kernel) rfl (by omega) (by omega) ?_
  refine x_aloadS (np := 230) (x := 0) (by decide +kernel) rfl ?_
  refine x_iload (np := 232) (x := 4) (by decide +kernel) rfl (by omega) ?_
  refine x_const (np := 233) (x := 9223372060477095941) (a := 2147483653) (by decide +kernel) (by decide) (by decide) ?_
  refine x_iadd (np := 234) (x := 0) (v := (2147483648 + (j + 5))) (by decide +kernel) (by omega) (by decide) (by omega) (by omega) ?_
  refine x_scr (j := (j + 5)) hs (np := 235) (x := 0) (by decide +kernel) rfl (by omega) (by omega) ?_
  have b1 : (sv sc (j + 1)) < 4294967296 := sv_lt
  have b2 : (sv sc (j + 2)) < 4294967296 := sv_lt
  have b3 : (sv sc (j + 3)) < 4294967296 := sv_lt
  have b4 : (sv sc (j + 4)) < 4294967296 := sv_lt
  have b5 : (sv sc (j + 5)) < 4294967296 := sv_lt
  refine x_cIc (t := 6) (mj := 104) (n := 6) (rc := 11) (ml := 6) (cc := 0) (ss := 0) (nr := 0) (np := 238) (as := [x_r 0, iv_c (sv sc (j + 1)), iv_c (sv sc (j + 2)), iv_c (sv sc (j + 3)), iv_c (sv sc (j + 4)), iv_c (sv sc (j + 5))]) (rest := []) (lo1 := [x_r 0, iv_c (sv sc (j + 1)), iv_c (sv sc (j + 2)), iv_c (sv sc (j + 3)), iv_c (sv sc (j + 4)), iv_c (sv sc (j + 5))]) (by decide +kernel) (by decide) (x_cbV (by decide +kernel) (by show _ ≤ 600000; omega) (by show _ ≤ 7300000; omega)) (x_rb_of (by decide +kernel)) rfl rfl (x_wr (by decide) (x_wi sv_lt (x_wi sv_lt (x_wi sv_lt (x_wi sv_lt (x_wi sv_lt x_wn)))))) x_wn (by decide) rfl (c104_0 hJ (by omega) (by omega) (by omega) (by omega) (by omega)) (fun r8 h6 l9 q7 => ?_)
  obtain ⟨j10, f11, g12, g13, g14, g15, g16⟩ := q7
  have q17 : h6 0 11 = h 0 11 := f11 0 11 (by decide +kernel)
  have q18 : h6 75 11 = h 75 11 := f11 75 11 (by decide +kernel)
  have q19 : h6 75 6 = h 75 6 := f11 75 6 (by decide +kernel)
  have q20 : h6 76 1 = h 76 1 := f11 76 1 (by decide +kernel)
  have q21 : h6 0 10 = h 0 10 := f11 0 10 (by decide +kernel)
  have q22 : h6 75 4 = h 75 4 := f11 75 4 (by decide +kernel)
  have m23 := WT.fr w76 hJ f11 (by decide)
  have m24 := WT.fr7 w77 hJ f11 (by decide)
  have m25 : h6 75 4 = 2147483649 → 2147483650 ≤ h6 77 0 := by
    rw [f11 75 4 (by decide +kernel), f11 77 0 (by decide +kernel)]
    exact hB
  have s27 := St.fr hS f11 hJ (by decide) (by decide) (by decide) (by decide) (by decide) (by decide)
  have u28 : h6 0 11 = h6 75 11 := by omega
  refine x_pop (by decide +kernel) l9 ?_
  refine x_aload (np := 240) (x := 2) (by decide +kernel) rfl (x_nc_le (by decide)) ?_
  refine x_aloadS (np := 241) (x := 0) (by decide +kernel) rfl ?_
  refine x_iload (np := 243) (x := 4) (by decide +kernel) rfl (by omega) ?_
  refine x_const (np := 244) (x := 9223372043297226753) (a := 2147483649) (by decide +kernel) (by decide) (by decide) ?_
  refine x_iadd (np := 245) (x := 0) (v := (2147483648 + (j + 1))) (by decide +kernel) (by omega) (by decide) (by omega) (by omega) ?_
  refine x_scr (j := (j + 1)) hs (np := 246) (x := 0) (by decide +kernel) rfl (by omega) (by omega) ?_
  refine x_aloadS (np := 247) (x := 0) (by decide +kernel) rfl ?_
  refine x_iload (np := 249) (x := 4) (by decide +kernel) rfl (by omega) ?_
  refine x_const (np := 250) (x := 9223372047592194050) (a := 2147483650) (by decide +kernel) (by decide) (by decide) ?_
  refine x_iadd (np := 251) (x := 0) (v := (2147483648 + (j + 2))) (by decide +kernel) (by omega) (by decide) (by omega) (by omega) ?_
  refine x_scr (j := (j + 2)) hs (np := 252) (x := 0) (by decide +kernel) rfl (by omega) (by omega) ?_
  refine x_aloadS (np := 253) (x := 0) (by decide +kernel) rfl ?_
  refine x_iload (np := 255) (x := 4) (by decide +kernel) rfl (by omega) ?_
  refine x_const (np := 256) (x := 9223372051887161347) (a := 2147483651) (by decide +kernel) (by decide) (by decide) ?_
  refine x_iadd (np := 257) (x := 0) (v := (2147483648 + (j + 3))) (by decide +kernel) (by omega) (by decide) (by omega) (by omega) ?_
  refine x_scr (j := (j + 3)) hs (np := 258) (x := 0) (by decide +kernel) rfl (by omega) (by omega) ?_
  refine x_aloadS (np := 259) (x := 0) (by decide +kernel) rfl ?_
  refine x_iload (np := 261) (x := 4) (by decide +kernel) rfl (by omega) ?_
  refine x_const (np := 262) (x := 9223372056182128644) (a := 2147483652) (by decide +kernel) (by decide) (by decide) ?_
  refine x_iadd (np := 263) (x := 0) (v := (2147483648 + (j + 4))) (by decide +kernel) (by omega) (by decide) (by omega) (by omega) ?_
  refine x_scr (j := (j + 4)) hs (np := 264) (x := 0) (by decide +kernel) rfl (by omega) (by omega) ?_
  refine x_aloadS (np := 265) (x := 0) (by decide +kernel) rfl ?_
  refine x_iload (np := 267) (x := 4) (by decide +kernel) rfl (by omega) ?_
  refine x_const (np := 268) (x := 9223372060477095941) (a := 2147483653) (by decide +kernel) (by decide) (by decide) ?_
  refine x_iadd (np := 269) (x := 0) (v := (2147483648 + (j + 5))) (by decide +kernel) (by omega) (by decide) (by omega) (by omega) ?_
  refine x_scr (j := (j + 5)) hs (np := 270) (x := 0) (by decide +kernel) rfl (by omega) (by omega) ?_
  have b29 : (sv sc (j + 1)) < 4294967296 := sv_lt
  have b30 : (sv sc (j + 2)) < 4294967296 := sv_lt
  have b31 : (sv sc (j + 3)) < 4294967296 := sv_lt
  have b32 : (sv sc (j + 4)) < 4294967296 := sv_lt
  have b33 : (sv sc (j + 5)) < 4294967296 := sv_lt
  refine x_cIc (t := 6) (mj := 165) (n := 6) (rc := 12) (ml := 7) (cc := 0) (ss := 0) (nr := 0) (np := 273) (as := [x_r 75, iv_c (sv sc (j + 1)), iv_c (sv sc (j + 2)), iv_c (sv sc (j + 3)), iv_c (sv sc (j + 4)), iv_c (sv sc (j + 5))]) (rest := []) (lo1 := [x_r 75, iv_c (sv sc (j + 1)), iv_c (sv sc (j + 2)), iv_c (sv sc (j + 3)), iv_c (sv sc (j + 4)), iv_c (sv sc (j + 5)), 147573952589676412928]) (by decide +kernel) (by decide) (x_cbV (by decide +kernel) (by show _ ≤ 600000; omega) (by show _ ≤ 7300000; omega)) (x_rb_of (by decide +kernel)) rfl rfl (x_wr (by decide) (x_wi sv_lt (x_wi sv_lt (x_wi sv_lt (x_wi sv_lt (x_wi sv_lt x_wn)))))) x_wn (by decide) rfl (c165_75 j10 (by omega) (by omega) (by omega) (by omega) (by omega)) (fun r36 h34 l37 q35 => ?_)
  obtain ⟨j38, f39, g40, g41, g42, g43, g44⟩ := q35
  have q45 : h34 0 11 = h6 0 11 := f39 0 11 (by decide +kernel)
  have q46 : h34 75 11 = h6 75 11 := f39 75 11 (by decide +kernel)
  have q47 : h34 1 1 = h6 1 1 := f39 1 1 (by decide +kernel)
  have q48 : h34 76 1 = h6 76 1 := f39 76 1 (by decide +kernel)
  have q49 : h34 0 10 = h6 0 10 := f39 0 10 (by decide +kernel)
  have q50 : h34 75 4 = h6 75 4 := f39 75 4 (by decide +kernel)
  have m51 := WT.fr m23 j10 f39 (by decide)
  have m52 := WT.fr7 m24 j10 f39 (by decide)
  have m53 : h34 75 4 = 2147483649 → 2147483650 ≤ h34 77 0 := by
    rw [f39 75 4 (by decide +kernel), f39 77 0 (by decide +kernel)]
    exact m25
  have s55 := St.fr s27 f39 j10 (by decide) (by decide) (by decide) (by decide) (by decide) (by decide)
  have u56 : h34 0 11 = h34 75 11 := by omega
  have t54 : Ty h34 := by
    rcases Nat.lt_or_ge 2147484048 (h 1 1 + 20) with z | z
    · exact Ty.same hY (g16 z) f11 (by decide) (g44 (by omega)) f39 (by decide)
    · exact Ty.feed (h3 := h34) hY (g15 z) f11 (by decide) (Ap.cast (g43 (by omega)) (by rw [show h6 75 6 = h 1 1 by omega])) f39 (by decide)
  refine x_pop (by decide +kernel) l37 ?_
  refine x_goto (np := 277) (x := 1369) (by decide +kernel) ?_
  exact k c0 s0 w5 w6 h34 (by omega) (by omega) ⟨⟨j38, by omega, m51, m52, m53, by omega⟩, t54, s55, u56⟩
set_option maxHeartbeats 0 in
theorem lc_1 {sc : Nat × Nat} {d j c0 s0 w5 w6 : Nat} {h : xh} {Q : Nat → xh → Prop} (hs : scOK sc) (hI : INV5 h) (hj : j + 6 ≤ sc.1) (hc : c0 + 2 ≤ 600000) (hz : s0 + 12 ≤ 7300000) (k : ∀ c1 s1 v5 v6 h', c1 ≤ c0 + 2 → s1 ≤ s0 + 12 → INV5 h' → X sc 309 (d + 60) Q c1 s1 1369 [55340232221128654849, x_r 0, x_r 75, x_r 97, iv_c (2147483648 + j), v5, v6] [] h') : X sc 309 (d + 60) Q c0 s0 277 [55340232221128654849, x_r 0, x_r 75, x_r 97, iv_c (2147483648 + j), w5, w6] [] h := by
  obtain ⟨⟨hJ, hE, w76, w77, hB, hG⟩, hY, hS, hF⟩ := hI
  have h384 := hs.1
  have hS1 := hS.2.1 1 (by decide)
  have hS3 := hS.2.2.1
  refine x_aload (np := 278) (x := 1) (by decide +kernel) rfl (x_nc_le (by decide)) ?_
  refine x_aloadS (np := 279) (x := 0) (by decide +kernel) rfl ?_
  refine x_iload (np := 281) (x := 4) (by decide +kernel) rfl (by omega) ?_
  refine x_const (np := 282) (x := 9223372043297226753) (a := 2147483649) (by decide +kernel) (by decide) (by decide) ?_
  refine x_iadd (np := 283) (x := 0) (v := (2147483648 + (j + 1))) (by decide +kernel) (by omega) (by decide) (by omega) (by omega) ?_
  refine x_scr (j := (j + 1)) hs (np := 284) (x := 0) (by decide +kernel) rfl (by omega) (by omega) ?_
  have b1 : (sv sc (j + 1)) < 4294967296 := sv_lt
  refine x_cIc (t := 6) (mj := 105) (n := 2) (rc := 11) (ml := 2) (cc := 0) (ss := 0) (nr := 0) (np := 287) (as := [x_r 0, iv_c (sv sc (j + 1))]) (rest := []) (lo1 := [x_r 0, iv_c (sv sc (j + 1))]) (by decide +kernel) (by decide) (x_cbV (by decide +kernel) (by show _ ≤ 600000; omega) (by show _ ≤ 7300000; omega)) (x_rb_of (by decide +kernel)) rfl rfl (x_wr (by decide) (x_wi sv_lt x_wn)) x_wn (by decide) rfl (c105_0 hJ (by omega)) (fun r4 h2 l5 q3 => ?_)
  obtain ⟨j6, f7, g8, g9, g10⟩ := q3
  have q11 : h2 0 11 = h 0 11 := f7 0 11 (by decide +kernel)
  have q12 : h2 75 11 = h 75 11 := f7 75 11 (by decide +kernel)
  have q13 : h2 75 6 = h 75 6 := f7 75 6 (by decide +kernel)
  have q14 : h2 76 1 = h 76 1 := f7 76 1 (by decide +kernel)
  have q15 : h2 0 10 = h 0 10 := f7 0 10 (by decide +kernel)
  have q16 : h2 75 4 = h 75 4 := f7 75 4 (by decide +kernel)
  have m17 := WT.fr w76 hJ f7 (by decide)
  have m18 := WT.fr7 w77 hJ f7 (by decide)
  have m19 : h2 75 4 = 2147483649 → 2147483650 ≤ h2 77 0 := by
    rw [f7 75 4 (by decide +kernel), f7 77 0 (by decide +kernel)]
    exact hB
  have s21 := St.fr hS f7 hJ (by decide) (by decide) (by decide) (by decide) (by decide) (by decide)
  have u22 : h2 0 11 = h2 75 11 := by omega
  have t20 := Ty.fr hY f7 (by decide) (by decide)
  refine x_pop (by decide +kernel) l5 ?_
  refine x_aload (np := 289) (x := 2) (by decide +kernel) rfl (x_nc_le (by decide)) ?_
  refine x_aloadS (np := 290) (x := 0) (by decide +kernel) rfl ?_
  refine x_iload (np := 292) (x := 4) (by decide +kernel) rfl (by omega) ?_
  refine x_const (np := 293) (x := 9223372043297226753) (a := 2147483649) (by decide +kernel) (by decide) (by decide) ?_
  refine x_iadd (np := 294) (x := 0) (v := (2147483648 + (j + 1))) (by decide +kernel) (by omega) (by decide) (by omega) (by omega) ?_
  refine x_scr (j := (j + 1)) hs (np := 295) (x := 0) (by decide +kernel) rfl (by omega) (by omega) ?_
  have b23 : (sv sc (j + 1)) < 4294967296 := sv_lt
  refine x_cIc (t := 6) (mj := 166) (n := 2) (rc := 12) (ml := 2) (cc := 0) (ss := 0) (nr := 0) (np := 298) (as := [x_r 75, iv_c (sv sc (j + 1))]) (rest := []) (lo1 := [x_r 75, iv_c (sv sc (j + 1))]) (by decide +kernel) (by decide) (x_cbV (by decide +kernel) (by show _ ≤ 600000; omega) (by show _ ≤ 7300000; omega)) (x_rb_of (by decide +kernel)) rfl rfl (x_wr (by decide) (x_wi sv_lt x_wn)) x_wn (by decide) rfl (c166_75 j6 (by omega)) (fun r26 h24 l27 q25 => ?_)
  obtain ⟨j28, f29, g30, g31, g32⟩ := q25
  have q33 : h24 0 11 = h2 0 11 := f29 0 11 (by decide +kernel)
  have q34 : h24 75 11 = h2 75 11 := f29 75 11 (by decide +kernel)
  have q35 : h24 1 1 = h2 1 1 := f29 1 1 (by decide +kernel)
  have q36 : h24 76 1 = h2 76 1 := f29 76 1 (by decide +kernel)
  have q37 : h24 0 10 = h2 0 10 := f29 0 10 (by decide +kernel)
  have q38 : h24 75 4 = h2 75 4 := f29 75 4 (by decide +kernel)
  have m39 := WT.fr m17 j6 f29 (by decide)
  have m40 := WT.fr7 m18 j6 f29 (by decide)
  have m41 : h24 75 4 = 2147483649 → 2147483650 ≤ h24 77 0 := by
    rw [f29 75 4 (by decide +kernel), f29 77 0 (by decide +kernel)]
    exact m19
  have s43 := St.fr s21 f29 j6 (by decide) (by decide) (by decide) (by decide) (by decide) (by decide)
  have u44 : h24 0 11 = h24 75 11 := by omega
  have t42 := Ty.fr t20 f29 (by decide) (by decide)
  refine x_pop (by decide +kernel) l27 ?_
  refine x_goto (np := 302) (x := 1369) (by decide +kernel) ?_
  exact k c0 s0 w5 w6 h24 (by omega) (by omega) ⟨⟨j28, by omega, m39, m40, m41, by omega⟩, t42, s43, u44⟩
set_option maxHeartbeats 0 in
theorem lc_2 {sc : Nat × Nat} {d j c0 s0 w5 w6 : Nat} {h : xh} {Q : Nat → xh → Prop} (hs : scOK sc) (hI : INV5 h) (hj : j + 6 ≤ sc.1) (hc : c0 + 2 ≤ 600000) (hz : s0 + 12 ≤ 7300000) (k : ∀ c1 s1 v5 v6 h', c1 ≤ c0 + 2 → s1 ≤ s0 + 12 → INV5 h' → X sc 309 (d + 60) Q c1 s1 1369 [55340232221128654849, x_r 0, x_r 75, x_r 97, iv_c (2147483648 + j), v5, v6] [] h') : X sc 309 (d + 60) Q c0 s0 302 [55340232221128654849, x_r 0, x_r 75, x_r 97, iv_c (2147483648 + j), w5, w6] [] h := by
  obtain ⟨⟨hJ, hE, w76, w77, hB, hG⟩, hY, hS, hF⟩ := hI
  have h384 := hs.1
  have hS1 := hS.2.1 1 (by decide)
  have hS3 := hS.2.2.1
  refine x_aload (np := 303) (x := 1) (by decide +kernel) rfl (x_nc_le (by decide)) ?_
  refine x_aload (np := 304) (x := 3) (by decide +kernel) rfl (x_nc_le (by decide)) ?_
  refine x_cIc (t := 0) (mj := 282) (n := 2) (rc := 0) (ml := 3) (cc := 1) (ss := 6) (nr := 0) (np := 307) (as := [x_r 0, x_r 97]) (rest := []) (lo1 := [x_r 0, x_r 97, 147573952589676412928]) (by decide +kernel) (by decide) (x_cbV (by decide +kernel) (by show _ ≤ 600000; omega) (by show _ ≤ 7300000; omega)) (Or.inl rfl) rfl rfl (x_wr (by decide) (x_wr (by decide) x_wn)) x_wn (by decide) rfl (c282_0_97 hJ (Ty.tp (h := h)) hS.1) (fun r3 h1 l4 q2 => ?_)
  obtain ⟨j5, f6, g7, g8, g9, g10⟩ := q2
  have q11 : h1 75 11 = h 75 11 := f6 75 11 (by decide +kernel)
  have q12 : h1 75 6 = h 75 6 := f6 75 6 (by decide +kernel)
  have q13 : h1 76 1 = h 76 1 := f6 76 1 (by decide +kernel)
  have q14 : h1 0 10 = h 0 10 := f6 0 10 (by decide +kernel)
  have q15 : h1 75 4 = h 75 4 := f6 75 4 (by decide +kernel)
  have m16 := WT.fr w76 hJ f6 (by decide)
  have m17 := WT.fr7 w77 hJ f6 (by decide)
  have m18 : h1 75 4 = 2147483649 → 2147483650 ≤ h1 77 0 := by
    rw [f6 75 4 (by decide +kernel), f6 77 0 (by decide +kernel)]
    exact hB
  have t19 := Ty.fr hY f6 (by decide) (by decide)
  refine x_istore (np := 309) (x := 5) (lo' := [55340232221128654849, x_r 0, x_r 75, x_r 97, iv_c (2147483648 + j), iv_c r3, w6]) (by decide +kernel) l4 (Nat.le_of_ble_eq_true rfl) rfl ?_
  refine x_aload (np := 310) (x := 2) (by decide +kernel) rfl (x_nc_le (by decide)) ?_
  refine x_cIc (t := 6) (mj := 195) (n := 1) (rc := 12) (ml := 3) (cc := 0) (ss := 0) (nr := 0) (np := 313) (as := [x_r 75]) (rest := []) (lo1 := [x_r 75, 147573952589676412928, 147573952589676412928]) (by decide +kernel) (by decide) (x_cbV (by decide +kernel) (by show _ ≤ 600000; omega) (by show _ ≤ 7300000; omega)) (x_rb_of (by decide +kernel)) rfl rfl (x_wr (by decide) x_wn) x_wn (by decide) rfl (c195_75 j5 (by omega) m16 (Ty.tr (n := h 1 1) hY f6 (by decide) (by omega))) (fun r24 h22 l25 q23 => ?_)
  obtain ⟨j26, f27, g28, g29, g30, g31, g32⟩ := q23
  have q33 : h22 0 11 = h1 0 11 := f27 0 11 (by decide +kernel)
  have q34 : h22 1 1 = h1 1 1 := f27 1 1 (by decide +kernel)
  have q35 : h22 0 10 = h1 0 10 := f27 0 10 (by decide +kernel)
  have q36 : h22 75 4 = h1 75 4 := f27 75 4 (by decide +kernel)
  have m38 := WT.fr7 m17 j5 f27 (by decide)
  have m39 : h22 75 4 = 2147483649 → 2147483650 ≤ h22 77 0 := by
    rw [f27 75 4 (by decide +kernel), f27 77 0 (by decide +kernel)]
    exact m18
  have q42 : h22 97 0 = h1 97 0 := f27 97 0 (by decide +kernel)
  obtain ⟨⟨al1, al2⟩, s41⟩ := St.tell hS g9 g31 j5 f6 (by decide) (by decide) (by decide) (by decide) f27 (by decide) (by decide) (by decide) (by decide) (by decide) q42
  have u43 := Fo.tell hS g10 g32 al1 f6 (by decide) f27 (by decide)
  have t40 := Ty.fr t19 f27 (by decide) (by decide)
  refine x_istore (np := 315) (x := 6) (lo' := [55340232221128654849, x_r 0, x_r 75, x_r 97, iv_c (2147483648 + j), iv_c r3, iv_c r24]) (by decide +kernel) l25 (Nat.le_of_ble_eq_true rfl) rfl ?_
  refine x_goto (np := 318) (x := 1369) (by decide +kernel) ?_
  exact k (c0 + 1) (s0 + 6) (iv_c r3) (iv_c r24) h22 (by omega) (by omega) ⟨⟨j26, by omega, g30, m38, m39, by omega⟩, t40, s41, u43⟩
set_option maxHeartbeats 0 in
theorem lc_3 {sc : Nat × Nat} {d j c0 s0 w5 w6 : Nat} {h : xh} {Q : Nat → xh → Prop} (hs : scOK sc) (hI : INV5 h) (hj : j + 6 ≤ sc.1) (hc : c0 + 2 ≤ 600000) (hz : s0 + 12 ≤ 7300000) (k : ∀ c1 s1 v5 v6 h', c1 ≤ c0 + 2 → s1 ≤ s0 + 12 → INV5 h' → X sc 309 (d + 60) Q c1 s1 1369 [55340232221128654849, x_r 0, x_r 75, x_r 97, iv_c (2147483648 + j), v5, v6] [] h') : X sc 309 (d + 60) Q c0 s0 318 [55340232221128654849, x_r 0, x_r 75, x_r 97, iv_c (2147483648 + j), w5, w6] [] h := by
  obtain ⟨⟨hJ, hE, w76, w77, hB, hG⟩, hY, hS, hF⟩ := hI
  have h384 := hs.1
  have hS1 := hS.2.1 1 (by decide)
  have hS3 := hS.2.2.1
  refine x_aload (np := 319) (x := 1) (by decide +kernel) rfl (x_nc_le (by decide)) ?_
  refine x_cIc (t := 6) (mj := 107) (n := 1) (rc := 11) (ml := 1) (cc := 0) (ss := 0) (nr := 0) (np := 322) (as := [x_r 0]) (rest := []) (lo1 := [x_r 0]) (by decide +kernel) (by decide) (x_cbV (by decide +kernel) (by show _ ≤ 600000; omega) (by show _ ≤ 7300000; omega)) (x_rb_of (by decide +kernel)) rfl rfl (x_wr (by decide) x_wn) x_wn (by decide) rfl (c107_0 hJ) (fun r3 h1 l4 q2 => ?_)
  obtain ⟨q5, b6⟩ := q2
  rw [q5]
  refine x_aload (np := 323) (x := 2) (by decide +kernel) rfl (x_nc_le (by decide)) ?_
  refine x_cIc (t := 6) (mj := 175) (n := 1) (rc := 12) (ml := 1) (cc := 0) (ss := 0) (nr := 1) (np := 326) (as := [x_r 75]) (rest := [iv_c r3]) (lo1 := [x_r 75]) (by decide +kernel) (by decide) (x_cbV (by decide +kernel) (by show _ ≤ 600000; omega) (by show _ ≤ 7300000; omega)) (x_rb_of (by decide +kernel)) rfl rfl (x_wr (by decide) x_wn) (x_wi l4 x_wn) (by decide) rfl (c175_75 hJ) (fun r9 h7 l10 q8 => ?_)
  obtain ⟨j11, f12, g13, g14⟩ := q8
  have q15 : h7 0 11 = h 0 11 := f12 0 11 (by decide +kernel)
  have q16 : h7 75 11 = h 75 11 := f12 75 11 (by decide +kernel)
  have q17 : h7 1 1 = h 1 1 := f12 1 1 (by decide +kernel)
  have q18 : h7 75 6 = h 75 6 := f12 75 6 (by decide +kernel)
  have q19 : h7 76 1 = h 76 1 := f12 76 1 (by decide +kernel)
  have q20 : h7 0 10 = h 0 10 := f12 0 10 (by decide +kernel)
  have q21 : h7 75 4 = h 75 4 := f12 75 4 (by decide +kernel)
  have m22 := WT.fr w76 hJ f12 (by decide)
  have m23 := WT.fr7 w77 hJ f12 (by decide)
  have m24 : h7 75 4 = 2147483649 → 2147483650 ≤ h7 77 0 := by
    rw [f12 75 4 (by decide +kernel), f12 77 0 (by decide +kernel)]
    exact hB
  have s26 := St.fr hS f12 hJ (by decide) (by decide) (by decide) (by decide) (by decide) (by decide)
  have u27 : h7 0 11 = h7 75 11 := by omega
  have t25 := Ty.fr hY f12 (by decide) (by decide)
  refine x_icmp (k := 0) (tg := 1369) (np := 329) (by decide +kernel) (by decide) l4 l10 (fun q28 => ?_) (fun q28 => ?_)
  · skip
    exact k c0 s0 w5 w6 h7 (by omega) (by omega) ⟨⟨j11, by omega, m22, m23, m24, by omega⟩, t25, s26, u27⟩
  exact absurd (show r3 = r9 by omega) q28
set_option maxHeartbeats 0 in
theorem lc_4 {sc : Nat × Nat} {d j c0 s0 w5 w6 : Nat} {h : xh} {Q : Nat → xh → Prop} (hs : scOK sc) (hI : INV5 h) (hj : j + 6 ≤ sc.1) (hc : c0 + 2 ≤ 600000) (hz : s0 + 12 ≤ 7300000) (k : ∀ c1 s1 v5 v6 h', c1 ≤ c0 + 2 → s1 ≤ s0 + 12 → INV5 h' → X sc 309 (d + 60) Q c1 s1 1369 [55340232221128654849, x_r 0, x_r 75, x_r 97, iv_c (2147483648 + j), v5, v6] [] h') : X sc 309 (d + 60) Q c0 s0 331 [55340232221128654849, x_r 0, x_r 75, x_r 97, iv_c (2147483648 + j), w5, w6] [] h := by
  obtain ⟨⟨hJ, hE, w76, w77, hB, hG⟩, hY, hS, hF⟩ := hI
  have h384 := hs.1
  have hS1 := hS.2.1 1 (by decide)
  have hS3 := hS.2.2.1
  refine x_aload (np := 332) (x := 1) (by decide +kernel) rfl (x_nc_le (by decide)) ?_
  refine x_aloadS (np := 333) (x := 0) (by decide +kernel) rfl ?_
  refine x_iload (np := 335) (x := 4) (by decide +kernel) rfl (by omega) ?_
  refine x_const (np := 336) (x := 9223372043297226753) (a := 2147483649) (by decide +kernel) (by decide) (by decide) ?_
  refine x_iadd (np := 337) (x := 0) (v := (2147483648 + (j + 1))) (by decide +kernel) (by omega) (by decide) (by omega) (by omega) ?_
  refine x_scr (j := (j + 1)) hs (np := 338) (x := 0) (by decide +kernel) rfl (by omega) (by omega) ?_
  have b1 : (sv sc (j + 1)) < 4294967296 := sv_lt
  refine x_cIc (t := 0) (mj := 283) (n := 2) (rc := 0) (ml := 3) (cc := 1) (ss := 6) (nr := 0) (np := 341) (as := [x_r 0, iv_c (sv sc (j + 1))]) (rest := []) (lo1 := [x_r 0, iv_c (sv sc (j + 1)), 147573952589676412928]) (by decide +kernel) (by decide) (x_cbV (by decide +kernel) (by show _ ≤ 600000; omega) (by show _ ≤ 7300000; omega)) (Or.inl rfl) rfl rfl (x_wr (by decide) (x_wi sv_lt x_wn)) x_wn (by decide) rfl (c283_0 hJ (by omega)) (fun r4 h2 l5 q3 => ?_)
  obtain ⟨j6, f7, g8, g9⟩ := q3
  have q10 : h2 0 11 = h 0 11 := f7 0 11 (by decide +kernel)
  have q11 : h2 75 11 = h 75 11 := f7 75 11 (by decide +kernel)
  have q12 : h2 1 1 = h 1 1 := f7 1 1 (by decide +kernel)
  have q13 : h2 75 6 = h 75 6 := f7 75 6 (by decide +kernel)
  have q14 : h2 76 1 = h 76 1 := f7 76 1 (by decide +kernel)
  have q15 : h2 0 10 = h 0 10 := f7 0 10 (by decide +kernel)
  have q16 : h2 75 4 = h 75 4 := f7 75 4 (by decide +kernel)
  have m17 := WT.fr w76 hJ f7 (by decide)
  have m18 := WT.fr7 w77 hJ f7 (by decide)
  have m19 : h2 75 4 = 2147483649 → 2147483650 ≤ h2 77 0 := by
    rw [f7 75 4 (by decide +kernel), f7 77 0 (by decide +kernel)]
    exact hB
  have u22 : h2 0 11 = h2 75 11 := by omega
  have t20 := Ty.fr hY f7 (by decide) (by decide)
  refine x_istore (np := 343) (x := 5) (lo' := [55340232221128654849, x_r 0, x_r 75, x_r 97, iv_c (2147483648 + j), iv_c r4, w6]) (by decide +kernel) l5 (Nat.le_of_ble_eq_true rfl) rfl ?_
  refine x_aload (np := 344) (x := 2) (by decide +kernel) rfl (x_nc_le (by decide)) ?_
  refine x_aloadS (np := 345) (x := 0) (by decide +kernel) rfl ?_
  refine x_iload (np := 347) (x := 4) (by decide +kernel) rfl (by omega) ?_
  refine x_const (np := 348) (x := 9223372043297226753) (a := 2147483649) (by decide +kernel) (by decide) (by decide) ?_
  refine x_iadd (np := 349) (x := 0) (v := (2147483648 + (j + 1))) (by decide +kernel) (by omega) (by decide) (by omega) (by omega) ?_
  refine x_scr (j := (j + 1)) hs (np := 350) (x := 0) (by decide +kernel) rfl (by omega) (by omega) ?_
  have b23 : (sv sc (j + 1)) < 4294967296 := sv_lt
  refine x_cVc (t := 6) (mj := 197) (n := 2) (rc := 12) (ml := 2) (cc := 0) (ss := 0) (nr := 0) (np := 353) (as := [x_r 75, iv_c (sv sc (j + 1))]) (rest := []) (lo1 := [x_r 75, iv_c (sv sc (j + 1))]) (by decide +kernel) (by decide) (x_cbV (by decide +kernel) (by show _ ≤ 600000; omega) (by show _ ≤ 7300000; omega)) (x_rb_of (by decide +kernel)) rfl rfl (x_wr (by decide) (x_wi sv_lt x_wn)) x_wn (by decide) rfl (c197_75 j6 (by omega) m17) (fun h24 q25 => ?_)
  obtain ⟨j28, f29, g30, g31⟩ := q25
  have q32 : h24 0 11 = h2 0 11 := f29 0 11 (by decide +kernel)
  have q33 : h24 75 11 = h2 75 11 := f29 75 11 (by decide +kernel)
  have q34 : h24 1 1 = h2 1 1 := f29 1 1 (by decide +kernel)
  have q35 : h24 75 6 = h2 75 6 := f29 75 6 (by decide +kernel)
  have q36 : h24 0 10 = h2 0 10 := f29 0 10 (by decide +kernel)
  have q37 : h24 75 4 = h2 75 4 := f29 75 4 (by decide +kernel)
  have m38 := WT.fr m17 j6 f29 (by decide)
  have m39 := WT.fr7 m18 j6 f29 (by decide)
  have m40 : h24 75 4 = 2147483649 → 2147483650 ≤ h24 77 0 := by
    rw [f29 75 4 (by decide +kernel), f29 77 0 (by decide +kernel)]
    exact m19
  obtain ⟨al1, s42⟩ := St.people hS g9 g31 j6 f7 (by decide) (by decide) (by decide) (by decide) f29 (by decide) (by decide) (by decide) (by decide) (by decide)
  have u43 : h24 0 11 = h24 75 11 := by omega
  have t41 := Ty.fr t20 f29 (by decide) (by decide)
  refine x_goto (np := 356) (x := 1369) (by decide +kernel) ?_
  exact k (c0 + 1) (s0 + 6) (iv_c r4) w6 h24 (by omega) (by omega) ⟨⟨j28, by omega, m38, m39, m40, by omega⟩, t41, s42, u43⟩
set_option maxHeartbeats 0 in
theorem lc_5 {sc : Nat × Nat} {d j c0 s0 w5 w6 : Nat} {h : xh} {Q : Nat → xh → Prop} (hs : scOK sc) (hI : INV5 h) (hj : j + 6 ≤ sc.1) (hc : c0 + 2 ≤ 600000) (hz : s0 + 12 ≤ 7300000) (k : ∀ c1 s1 v5 v6 h', c1 ≤ c0 + 2 → s1 ≤ s0 + 12 → INV5 h' → X sc 309 (d + 60) Q c1 s1 1369 [55340232221128654849, x_r 0, x_r 75, x_r 97, iv_c (2147483648 + j), v5, v6] [] h') : X sc 309 (d + 60) Q c0 s0 356 [55340232221128654849, x_r 0, x_r 75, x_r 97, iv_c (2147483648 + j), w5, w6] [] h := by
  obtain ⟨⟨hJ, hE, w76, w77, hB, hG⟩, hY, hS, hF⟩ := hI
  have h384 := hs.1
  have hS1 := hS.2.1 1 (by decide)
  have hS3 := hS.2.2.1
  refine x_aload (np := 357) (x := 1) (by decide +kernel) rfl (x_nc_le (by decide)) ?_
  refine x_aloadS (np := 358) (x := 0) (by decide +kernel) rfl ?_
  refine x_iload (np := 360) (x := 4) (by decide +kernel) rfl (by omega) ?_
  refine x_const (np := 361) (x := 9223372043297226753) (a := 2147483649) (by decide +kernel) (by decide) (by decide) ?_
  refine x_iadd (np := 362) (x := 0) (v := (2147483648 + (j + 1))) (by decide +kernel) (by omega) (by decide) (by omega) (by omega) ?_
  refine x_scr (j := (j + 1)) hs (np := 363) (x := 0) (by decide +kernel) rfl (by omega) (by omega) ?_
  refine x_aloadS (np := 364) (x := 0) (by decide +kernel) rfl ?_
  refine x_iload (np := 366) (x := 4) (by decide +kernel) rfl (by omega) ?_
  refine x_const (np := 367) (x := 9223372047592194050) (a := 2147483650) (by decide +kernel) (by decide) (by decide) ?_
  refine x_iadd (np := 368) (x := 0) (v := (2147483648 + (j + 2))) (by decide +kernel) (by omega) (by decide) (by omega) (by omega) ?_
  refine x_scr (j := (j + 2)) hs (np := 369) (x := 0) (by decide +kernel) rfl (by omega) (by omega) ?_
  refine x_aload (np := 370) (x := 3) (by decide +kernel) rfl (x_nc_le (by decide)) ?_
  have b1 : (sv sc (j + 1)) < 4294967296 := sv_lt
  have b2 : (sv sc (j + 2)) < 4294967296 := sv_lt
  refine x_cIc (t := 0) (mj := 284) (n := 4) (rc := 0) (ml := 5) (cc := 2) (ss := 12) (nr := 0) (np := 373) (as := [x_r 0, iv_c (sv sc (j + 1)), iv_c (sv sc (j + 2)), x_r 97]) (rest := []) (lo1 := [x_r 0, iv_c (sv sc (j + 1)), iv_c (sv sc (j + 2)), x_r 97, 147573952589676412928]) (by decide +kernel) (by decide) (x_cbV (by decide +kernel) (by show _ ≤ 600000; omega) (by show _ ≤ 7300000; omega)) (Or.inl rfl) rfl rfl (x_wr (by decide) (x_wi sv_lt (x_wi sv_lt (x_wr (by decide) x_wn)))) x_wn (by decide) rfl (c284_0_97 hJ (by omega) (by omega)) (fun r5 h3 l6 q4 => ?_)
  obtain ⟨j7, f8, g9⟩ := q4
  have q10 : h3 0 11 = h 0 11 := f8 0 11 (by decide +kernel)
  have q11 : h3 75 11 = h 75 11 := f8 75 11 (by decide +kernel)
  have q12 : h3 1 1 = h 1 1 := f8 1 1 (by decide +kernel)
  have q13 : h3 75 6 = h 75 6 := f8 75 6 (by decide +kernel)
  have q14 : h3 76 1 = h 76 1 := f8 76 1 (by decide +kernel)
  have q15 : h3 0 10 = h 0 10 := f8 0 10 (by decide +kernel)
  have q16 : h3 75 4 = h 75 4 := f8 75 4 (by decide +kernel)
  have m17 := WT.fr w76 hJ f8 (by decide)
  have m18 := WT.fr7 w77 hJ f8 (by decide)
  have m19 : h3 75 4 = 2147483649 → 2147483650 ≤ h3 77 0 := by
    rw [f8 75 4 (by decide +kernel), f8 77 0 (by decide +kernel)]
    exact hB
  have s21 := St.fr hS f8 hJ (by decide) (by decide) (by decide) (by decide) (by decide) (by decide)
  have u22 : h3 0 11 = h3 75 11 := by omega
  have t20 := Ty.fr hY f8 (by decide) (by decide)
  refine x_istore (np := 375) (x := 5) (lo' := [55340232221128654849, x_r 0, x_r 75, x_r 97, iv_c (2147483648 + j), iv_c r5, w6]) (by decide +kernel) l6 (Nat.le_of_ble_eq_true rfl) rfl ?_
  refine x_aload (np := 376) (x := 2) (by decide +kernel) rfl (x_nc_le (by decide)) ?_
  refine x_aloadS (np := 377) (x := 0) (by decide +kernel) rfl ?_
  refine x_iload (np := 379) (x := 4) (by decide +kernel) rfl (by omega) ?_
  refine x_const (np := 380) (x := 9223372043297226753) (a := 2147483649) (by decide +kernel) (by decide) (by decide) ?_
  refine x_iadd (np := 381) (x := 0) (v := (2147483648 + (j + 1))) (by decide +kernel) (by omega) (by decide) (by omega) (by omega) ?_
  refine x_scr (j := (j + 1)) hs (np := 382) (x := 0) (by decide +kernel) rfl (by omega) (by omega) ?_
  refine x_aloadS (np := 383) (x := 0) (by decide +kernel) rfl ?_
  refine x_iload (np := 385) (x := 4) (by decide +kernel) rfl (by omega) ?_
  refine x_const (np := 386) (x := 9223372047592194050) (a := 2147483650) (by decide +kernel) (by decide) (by decide) ?_
  refine x_iadd (np := 387) (x := 0) (v := (2147483648 + (j + 2))) (by decide +kernel) (by omega) (by decide) (by omega) (by omega) ?_
  refine x_scr (j := (j + 2)) hs (np := 388) (x := 0) (by decide +kernel) rfl (by omega) (by omega) ?_
  have b23 : (sv sc (j + 1)) < 4294967296 := sv_lt
  have b24 : (sv sc (j + 2)) < 4294967296 := sv_lt
  refine x_cIc (t := 6) (mj := 212) (n := 3) (rc := 12) (ml := 3) (cc := 0) (ss := 0) (nr := 0) (np := 391) (as := [x_r 75, iv_c (sv sc (j + 1)), iv_c (sv sc (j + 2))]) (rest := []) (lo1 := [x_r 75, iv_c (sv sc (j + 1)), iv_c (sv sc (j + 2))]) (by decide +kernel) (by decide) (x_cbV (by decide +kernel) (by show _ ≤ 600000; omega) (by show _ ≤ 7300000; omega)) (x_rb_of (by decide +kernel)) rfl rfl (x_wr (by decide) (x_wi sv_lt (x_wi sv_lt x_wn))) x_wn (by decide) rfl (c212_75 j7 (by omega) (by omega) m17) (fun r27 h25 l28 q26 => ?_)
  obtain ⟨j29, f30, g31⟩ := q26
  have q32 : h25 0 11 = h3 0 11 := f30 0 11 (by decide +kernel)
  have q33 : h25 75 11 = h3 75 11 := f30 75 11 (by decide +kernel)
  have q34 : h25 1 1 = h3 1 1 := f30 1 1 (by decide +kernel)
  have q35 : h25 75 6 = h3 75 6 := f30 75 6 (by decide +kernel)
  have q36 : h25 76 1 = h3 76 1 := f30 76 1 (by decide +kernel)
  have q37 : h25 0 10 = h3 0 10 := f30 0 10 (by decide +kernel)
  have q38 : h25 75 4 = h3 75 4 := f30 75 4 (by decide +kernel)
  have m39 := WT.fr m17 j7 f30 (by decide)
  have m40 := WT.fr7 m18 j7 f30 (by decide)
  have m41 : h25 75 4 = 2147483649 → 2147483650 ≤ h25 77 0 := by
    rw [f30 75 4 (by decide +kernel), f30 77 0 (by decide +kernel)]
    exact m19
  have s43 := St.fr s21 f30 j7 (by decide) (by decide) (by decide) (by decide) (by decide) (by decide)
  have u44 : h25 0 11 = h25 75 11 := by omega
  have t42 := Ty.fr t20 f30 (by decide) (by decide)
  refine x_istore (np := 393) (x := 6) (lo' := [55340232221128654849, x_r 0, x_r 75, x_r 97, iv_c (2147483648 + j), iv_c r5, iv_c r27]) (by decide +kernel) l28 (Nat.le_of_ble_eq_true rfl) rfl ?_
  refine x_goto (np := 396) (x := 1369) (by decide +kernel) ?_
  exact k (c0 + 2) (s0 + 12) (iv_c r5) (iv_c r27) h25 (by omega) (by omega) ⟨⟨j29, by omega, m39, m40, m41, by omega⟩, t42, s43, u44⟩
set_option maxHeartbeats 0 in
theorem lc_6 {sc : Nat × Nat} {d j c0 s0 w5 w6 : Nat} {h : xh} {Q : Nat → xh → Prop} (hs : scOK sc) (hI : INV5 h) (hj : j + 6 ≤ sc.1) (hc : c0 + 2 ≤ 600000) (hz : s0 + 12 ≤ 7300000) (k : ∀ c1 s1 v5 v6 h', c1 ≤ c0 + 2 → s1 ≤ s0 + 12 → INV5 h' → X sc 309 (d + 60) Q c1 s1 1369 [55340232221128654849, x_r 0, x_r 75, x_r 97, iv_c (2147483648 + j), v5, v6] [] h') : X sc 309 (d + 60) Q c0 s0 396 [55340232221128654849, x_r 0, x_r 75, x_r 97, iv_c (2147483648 + j), w5, w6] [] h := by
  obtain ⟨⟨hJ, hE, w76, w77, hB, hG⟩, hY, hS, hF⟩ := hI
  have h384 := hs.1
  have hS1 := hS.2.1 1 (by decide)
  have hS3 := hS.2.2.1
  refine x_aload (np := 397) (x := 1) (by decide +kernel) rfl (x_nc_le (by decide)) ?_
  refine x_aloadS (np := 398) (x := 0) (by decide +kernel) rfl ?_
  refine x_iload (np := 400) (x := 4) (by decide +kernel) rfl (by omega) ?_
  refine x_const (np := 401) (x := 9223372043297226753) (a := 2147483649) (by decide +kernel) (by decide) (by decide) ?_
  refine x_iadd (np := 402) (x := 0) (v := (2147483648 + (j + 1))) (by decide +kernel) (by omega) (by decide) (by omega) (by omega) ?_
  refine x_scr (j := (j + 1)) hs (np := 403) (x := 0) (by decide +kernel) rfl (by omega) (by omega) ?_
  refine x_aloadS (np := 404) (x := 0) (by decide +kernel) rfl ?_
  refine x_iload (np := 406) (x := 4) (by decide +kernel) rfl (by omega) ?_
  refine x_const (np := 407) (x := 9223372047592194050) (a := 2147483650) (by decide +kernel) (by decide) (by decide) ?_
  refine x_iadd (np := 408) (x := 0) (v := (2147483648 + (j + 2))) (by decide +kernel) (by omega) (by decide) (by omega) (by omega) ?_
  refine x_scr (j := (j + 2)) hs (np := 409) (x := 0) (by decide +kernel) rfl (by omega) (by omega) ?_
  refine x_aload (np := 410) (x := 3) (by decide +kernel) rfl (x_nc_le (by decide)) ?_
  have b1 : (sv sc (j + 1)) < 4294967296 := sv_lt
  have b2 : (sv sc (j + 2)) < 4294967296 := sv_lt
  refine x_cIc (t := 0) (mj := 285) (n := 4) (rc := 0) (ml := 5) (cc := 2) (ss := 12) (nr := 0) (np := 413) (as := [x_r 0, iv_c (sv sc (j + 1)), iv_c (sv sc (j + 2)), x_r 97]) (rest := []) (lo1 := [x_r 0, iv_c (sv sc (j + 1)), iv_c (sv sc (j + 2)), x_r 97, 147573952589676412928]) (by decide +kernel) (by decide) (x_cbV (by decide +kernel) (by show _ ≤ 600000; omega) (by show _ ≤ 7300000; omega)) (Or.inl rfl) rfl rfl (x_wr (by decide) (x_wi sv_lt (x_wi sv_lt (x_wr (by decide) x_wn)))) x_wn (by decide) rfl (c285_0_97 hJ (by omega) (by omega)) (fun r5 h3 l6 q4 => ?_)
  obtain ⟨j7, f8, g9⟩ := q4
  have q10 : h3 0 11 = h 0 11 := f8 0 11 (by decide +kernel)
  have q11 : h3 75 11 = h 75 11 := f8 75 11 (by decide +kernel)
  have q12 : h3 1 1 = h 1 1 := f8 1 1 (by decide +kernel)
  have q13 : h3 75 6 = h 75 6 := f8 75 6 (by decide +kernel)
  have q14 : h3 76 1 = h 76 1 := f8 76 1 (by decide +kernel)
  have q15 : h3 0 10 = h 0 10 := f8 0 10 (by decide +kernel)
  have q16 : h3 75 4 = h 75 4 := f8 75 4 (by decide +kernel)
  have m17 := WT.fr w76 hJ f8 (by decide)
  have m18 := WT.fr7 w77 hJ f8 (by decide)
  have m19 : h3 75 4 = 2147483649 → 2147483650 ≤ h3 77 0 := by
    rw [f8 75 4 (by decide +kernel), f8 77 0 (by decide +kernel)]
    exact hB
  have s21 := St.fr hS f8 hJ (by decide) (by decide) (by decide) (by decide) (by decide) (by decide)
  have u22 : h3 0 11 = h3 75 11 := by omega
  have t20 := Ty.fr hY f8 (by decide) (by decide)
  refine x_istore (np := 415) (x := 5) (lo' := [55340232221128654849, x_r 0, x_r 75, x_r 97, iv_c (2147483648 + j), iv_c r5, w6]) (by decide +kernel) l6 (Nat.le_of_ble_eq_true rfl) rfl ?_
  refine x_aload (np := 416) (x := 2) (by decide +kernel) rfl (x_nc_le (by decide)) ?_
  refine x_aloadS (np := 417) (x := 0) (by decide +kernel) rfl ?_
  refine x_iload (np := 419) (x := 4) (by decide +kernel) rfl (by omega) ?_
  refine x_const (np := 420) (x := 9223372043297226753) (a := 2147483649) (by decide +kernel) (by decide) (by decide) ?_
  refine x_iadd (np := 421) (x := 0) (v := (2147483648 + (j + 1))) (by decide +kernel) (by omega) (by decide) (by omega) (by omega) ?_
  refine x_scr (j := (j + 1)) hs (np := 422) (x := 0) (by decide +kernel) rfl (by omega) (by omega) ?_
  refine x_aloadS (np := 423) (x := 0) (by decide +kernel) rfl ?_
  refine x_iload (np := 425) (x := 4) (by decide +kernel) rfl (by omega) ?_
  refine x_const (np := 426) (x := 9223372047592194050) (a := 2147483650) (by decide +kernel) (by decide) (by decide) ?_
  refine x_iadd (np := 427) (x := 0) (v := (2147483648 + (j + 2))) (by decide +kernel) (by omega) (by decide) (by omega) (by omega) ?_
  refine x_scr (j := (j + 2)) hs (np := 428) (x := 0) (by decide +kernel) rfl (by omega) (by omega) ?_
  have b23 : (sv sc (j + 1)) < 4294967296 := sv_lt
  have b24 : (sv sc (j + 2)) < 4294967296 := sv_lt
  refine x_cIc (t := 6) (mj := 214) (n := 3) (rc := 12) (ml := 3) (cc := 0) (ss := 0) (nr := 0) (np := 431) (as := [x_r 75, iv_c (sv sc (j + 1)), iv_c (sv sc (j + 2))]) (rest := []) (lo1 := [x_r 75, iv_c (sv sc (j + 1)), iv_c (sv sc (j + 2))]) (by decide +kernel) (by decide) (x_cbV (by decide +kernel) (by show _ ≤ 600000; omega) (by show _ ≤ 7300000; omega)) (x_rb_of (by decide +kernel)) rfl rfl (x_wr (by decide) (x_wi sv_lt (x_wi sv_lt x_wn))) x_wn (by decide) rfl (c214_75 j7 (by omega) (by omega) m17) (fun r27 h25 l28 q26 => ?_)
  obtain ⟨j29, f30, g31⟩ := q26
  have q32 : h25 0 11 = h3 0 11 := f30 0 11 (by decide +kernel)
  have q33 : h25 75 11 = h3 75 11 := f30 75 11 (by decide +kernel)
  have q34 : h25 1 1 = h3 1 1 := f30 1 1 (by decide +kernel)
  have q35 : h25 75 6 = h3 75 6 := f30 75 6 (by decide +kernel)
  have q36 : h25 76 1 = h3 76 1 := f30 76 1 (by decide +kernel)
  have q37 : h25 0 10 = h3 0 10 := f30 0 10 (by decide +kernel)
  have q38 : h25 75 4 = h3 75 4 := f30 75 4 (by decide +kernel)
  have m39 := WT.fr m17 j7 f30 (by decide)
  have m40 := WT.fr7 m18 j7 f30 (by decide)
  have m41 : h25 75 4 = 2147483649 → 2147483650 ≤ h25 77 0 := by
    rw [f30 75 4 (by decide +kernel), f30 77 0 (by decide +kernel)]
    exact m19
  have s43 := St.fr s21 f30 j7 (by decide) (by decide) (by decide) (by decide) (by decide) (by decide)
  have u44 : h25 0 11 = h25 75 11 := by omega
  have t42 := Ty.fr t20 f30 (by decide) (by decide)
  refine x_istore (np := 433) (x := 6) (lo' := [55340232221128654849, x_r 0, x_r 75, x_r 97, iv_c (2147483648 + j), iv_c r5, iv_c r27]) (by decide +kernel) l28 (Nat.le_of_ble_eq_true rfl) rfl ?_
  refine x_goto (np := 436) (x := 1369) (by decide +kernel) ?_
  exact k (c0 + 2) (s0 + 12) (iv_c r5) (iv_c r27) h25 (by omega) (by omega) ⟨⟨j29, by omega, m39, m40, m41, by omega⟩, t42, s43, u44⟩
set_option maxHeartbeats 0 in
theorem lc_7 {sc : Nat × Nat} {d j c0 s0 w5 w6 : Nat} {h : xh} {Q : Nat → xh → Prop} (hs : scOK sc) (hI : INV5 h) (hj : j + 6 ≤ sc.1) (hc : c0 + 2 ≤ 600000) (hz : s0 + 12 ≤ 7300000) (k : ∀ c1 s1 v5 v6 h', c1 ≤ c0 + 2 → s1 ≤ s0 + 12 → INV5 h' → X sc 309 (d + 60) Q c1 s1 1369 [55340232221128654849, x_r 0, x_r 75, x_r 97, iv_c (2147483648 + j), v5, v6] [] h') : X sc 309 (d + 60) Q c0 s0 436 [55340232221128654849, x_r 0, x_r 75, x_r 97, iv_c (2147483648 + j), w5, w6] [] h := by
  obtain ⟨⟨hJ, hE, w76, w77, hB, hG⟩, hY, hS, hF⟩ := hI
  have h384 := hs.1
  have hS1 := hS.2.1 1 (by decide)
  have hS3 := hS.2.2.1
  refine x_aload (np := 437) (x := 1) (by decide +kernel) rfl (x_nc_le (by decide)) ?_
  refine x_aloadS (np := 438) (x := 0) (by decide +kernel) rfl ?_
  refine x_iload (np := 440) (x := 4) (by decide +kernel) rfl (by omega) ?_
  refine x_const (np := 441) (x := 9223372043297226753) (a := 2147483649) (by decide +kernel) (by decide) (by decide) ?_
  refine x_iadd (np := 442) (x := 0) (v := (2147483648 + (j + 1))) (by decide +kernel) (by omega) (by decide) (by omega) (by omega) ?_
  refine x_scr (j := (j + 1)) hs (np := 443) (x := 0) (by decide +kernel) rfl (by omega) (by omega) ?_
  refine x_aloadS (np := 444) (x := 0) (by decide +kernel) rfl ?_
  refine x_iload (np := 446) (x := 4) (by decide +kernel) rfl (by omega) ?_
  refine x_const (np := 447) (x := 9223372047592194050) (a := 2147483650) (by decide +kernel) (by decide) (by decide) ?_
  refine x_iadd (np := 448) (x := 0) (v := (2147483648 + (j + 2))) (by decide +kernel) (by omega) (by decide) (by omega) (by omega) ?_
  refine x_scr (j := (j + 2)) hs (np := 449) (x := 0) (by decide +kernel) rfl (by omega) (by omega) ?_
  refine x_aload (np := 450) (x := 3) (by decide +kernel) rfl (x_nc_le (by decide)) ?_
  have b1 : (sv sc (j + 1)) < 4294967296 := sv_lt
  have b2 : (sv sc (j + 2)) < 4294967296 := sv_lt
  refine x_cIc (t := 0) (mj := 286) (n := 4) (rc := 0) (ml := 5) (cc := 2) (ss := 12) (nr := 0) (np := 453) (as := [x_r 0, iv_c (sv sc (j + 1)), iv_c (sv sc (j + 2)), x_r 97]) (rest := []) (lo1 := [x_r 0, iv_c (sv sc (j + 1)), iv_c (sv sc (j + 2)), x_r 97, 147573952589676412928]) (by decide +kernel) (by decide) (x_cbV (by decide +kernel) (by show _ ≤ 600000; omega) (by show _ ≤ 7300000; omega)) (Or.inl rfl) rfl rfl (x_wr (by decide) (x_wi sv_lt (x_wi sv_lt (x_wr (by decide) x_wn)))) x_wn (by decide) rfl (c286_0_97 hJ (by omega) (by omega)) (fun r5 h3 l6 q4 => ?_)
  obtain ⟨j7, f8, g9⟩ := q4
  have q10 : h3 0 11 = h 0 11 := f8 0 11 (by decide +kernel)
  have q11 : h3 75 11 = h 75 11 := f8 75 11 (by decide +kernel)
  have q12 : h3 1 1 = h 1 1 := f8 1 1 (by decide +kernel)
  have q13 : h3 75 6 = h 75 6 := f8 75 6 (by decide +kernel)
  have q14 : h3 76 1 = h 76 1 := f8 76 1 (by decide +kernel)
  have q15 : h3 0 10 = h 0 10 := f8 0 10 (by decide +kernel)
  have q16 : h3 75 4 = h 75 4 := f8 75 4 (by decide +kernel)
  have m17 := WT.fr w76 hJ f8 (by decide)
  have m18 := WT.fr7 w77 hJ f8 (by decide)
  have m19 : h3 75 4 = 2147483649 → 2147483650 ≤ h3 77 0 := by
    rw [f8 75 4 (by decide +kernel), f8 77 0 (by decide +kernel)]
    exact hB
  have s21 := St.fr hS f8 hJ (by decide) (by decide) (by decide) (by decide) (by decide) (by decide)
  have u22 : h3 0 11 = h3 75 11 := by omega
  have t20 := Ty.fr hY f8 (by decide) (by decide)
  refine x_istore (np := 455) (x := 5) (lo' := [55340232221128654849, x_r 0, x_r 75, x_r 97, iv_c (2147483648 + j), iv_c r5, w6]) (by decide +kernel) l6 (Nat.le_of_ble_eq_true rfl) rfl ?_
  refine x_aload (np := 456) (x := 2) (by decide +kernel) rfl (x_nc_le (by decide)) ?_
  refine x_aloadS (np := 457) (x := 0) (by decide +kernel) rfl ?_
  refine x_iload (np := 459) (x := 4) (by decide +kernel) rfl (by omega) ?_
  refine x_const (np := 460) (x := 9223372043297226753) (a := 2147483649) (by decide +kernel) (by decide) (by decide) ?_
  refine x_iadd (np := 461) (x := 0) (v := (2147483648 + (j + 1))) (by decide +kernel) (by omega) (by decide) (by omega) (by omega) ?_
  refine x_scr (j := (j + 1)) hs (np := 462) (x := 0) (by decide +kernel) rfl (by omega) (by omega) ?_
  refine x_aloadS (np := 463) (x := 0) (by decide +kernel) rfl ?_
  refine x_iload (np := 465) (x := 4) (by decide +kernel) rfl (by omega) ?_
  refine x_const (np := 466) (x := 9223372047592194050) (a := 2147483650) (by decide +kernel) (by decide) (by decide) ?_
  refine x_iadd (np := 467) (x := 0) (v := (2147483648 + (j + 2))) (by decide +kernel) (by omega) (by decide) (by omega) (by omega) ?_
  refine x_scr (j := (j + 2)) hs (np := 468) (x := 0) (by decide +kernel) rfl (by omega) (by omega) ?_
  have b23 : (sv sc (j + 1)) < 4294967296 := sv_lt
  have b24 : (sv sc (j + 2)) < 4294967296 := sv_lt
  refine x_cIc (t := 6) (mj := 215) (n := 3) (rc := 12) (ml := 6) (cc := 0) (ss := 0) (nr := 0) (np := 471) (as := [x_r 75, iv_c (sv sc (j + 1)), iv_c (sv sc (j + 2))]) (rest := []) (lo1 := [x_r 75, iv_c (sv sc (j + 1)), iv_c (sv sc (j + 2)), 147573952589676412928, 147573952589676412928, 147573952589676412928]) (by decide +kernel) (by decide) (x_cbV (by decide +kernel) (by show _ ≤ 600000; omega) (by show _ ≤ 7300000; omega)) (x_rb_of (by decide +kernel)) rfl rfl (x_wr (by decide) (x_wi sv_lt (x_wi sv_lt x_wn))) x_wn (by decide) rfl (c215_75 j7 (by omega) (by omega) m17) (fun r27 h25 l28 q26 => ?_)
  obtain ⟨j29, f30, g31⟩ := q26
  have q32 : h25 0 11 = h3 0 11 := f30 0 11 (by decide +kernel)
  have q33 : h25 75 11 = h3 75 11 := f30 75 11 (by decide +kernel)
  have q34 : h25 1 1 = h3 1 1 := f30 1 1 (by decide +kernel)
  have q35 : h25 75 6 = h3 75 6 := f30 75 6 (by decide +kernel)
  have q36 : h25 76 1 = h3 76 1 := f30 76 1 (by decide +kernel)
  have q37 : h25 0 10 = h3 0 10 := f30 0 10 (by decide +kernel)
  have q38 : h25 75 4 = h3 75 4 := f30 75 4 (by decide +kernel)
  have m39 := WT.fr m17 j7 f30 (by decide)
  have m40 := WT.fr7 m18 j7 f30 (by decide)
  have m41 : h25 75 4 = 2147483649 → 2147483650 ≤ h25 77 0 := by
    rw [f30 75 4 (by decide +kernel), f30 77 0 (by decide +kernel)]
    exact m19
  have s43 := St.fr s21 f30 j7 (by decide) (by decide) (by decide) (by decide) (by decide) (by decide)
  have u44 : h25 0 11 = h25 75 11 := by omega
  have t42 := Ty.fr t20 f30 (by decide) (by decide)
  refine x_istore (np := 473) (x := 6) (lo' := [55340232221128654849, x_r 0, x_r 75, x_r 97, iv_c (2147483648 + j), iv_c r5, iv_c r27]) (by decide +kernel) l28 (Nat.le_of_ble_eq_true rfl) rfl ?_
  refine x_goto (np := 476) (x := 1369) (by decide +kernel) ?_
  exact k (c0 + 2) (s0 + 12) (iv_c r5) (iv_c r27) h25 (by omega) (by omega) ⟨⟨j29, by omega, m39, m40, m41, by omega⟩, t42, s43, u44⟩
set_option maxHeartbeats 0 in
theorem lc_8 {sc : Nat × Nat} {d j c0 s0 w5 w6 : Nat} {h : xh} {Q : Nat → xh → Prop} (hs : scOK sc) (hI : INV5 h) (hj : j + 6 ≤ sc.1) (hc : c0 + 2 ≤ 600000) (hz : s0 + 12 ≤ 7300000) (k : ∀ c1 s1 v5 v6 h', c1 ≤ c0 + 2 → s1 ≤ s0 + 12 → INV5 h' → X sc 309 (d + 60) Q c1 s1 1369 [55340232221128654849, x_r 0, x_r 75, x_r 97, iv_c (2147483648 + j), v5, v6] [] h') : X sc 309 (d + 60) Q c0 s0 476 [55340232221128654849, x_r 0, x_r 75, x_r 97, iv_c (2147483648 + j), w5, w6] [] h := by
  obtain ⟨⟨hJ, hE, w76, w77, hB, hG⟩, hY, hS, hF⟩ := hI
  have h384 := hs.1
  have hS1 := hS.2.1 1 (by decide)
  have hS3 := hS.2.2.1
  refine x_aload (np := 477) (x := 1) (by decide +kernel) rfl (x_nc_le (by decide)) ?_
  refine x_aloadS (np := 478) (x := 0) (by decide +kernel) rfl ?_
  refine x_iload (np := 480) (x := 4) (by decide +kernel) rfl (by omega) ?_
  refine x_const (np := 481) (x := 9223372043297226753) (a := 2147483649) (by decide +kernel) (by decide) (by decide) ?_
  refine x_iadd (np := 482) (x := 0) (v := (2147483648 + (j + 1))) (by decide +kernel) (by omega) (by decide) (by omega) (by omega) ?_
  refine x_scr (j := (j + 1)) hs (np := 483) (x := 0) (by decide +kernel) rfl (by omega) (by omega) ?_
  refine x_aloadS (np := 484) (x := 0) (by decide +kernel) rfl ?_
  refine x_iload (np := 486) (x := 4) (by decide +kernel) rfl (by omega) ?_
  refine x_const (np := 487) (x := 9223372047592194050) (a := 2147483650) (by decide +kernel) (by decide) (by decide) ?_
  refine x_iadd (np := 488) (x := 0) (v := (2147483648 + (j + 2))) (by decide +kernel) (by omega) (by decide) (by omega) (by omega) ?_
  refine x_scr (j := (j + 2)) hs (np := 489) (x := 0) (by decide +kernel) rfl (by omega) (by omega) ?_
  refine x_aloadS (np := 490) (x := 0) (by decide +kernel) rfl ?_
  refine x_iload (np := 492) (x := 4) (by decide +kernel) rfl (by omega) ?_
  refine x_const (np := 493) (x := 9223372051887161347) (a := 2147483651) (by decide +kernel) (by decide) (by decide) ?_
  refine x_iadd (np := 494) (x := 0) (v := (2147483648 + (j + 3))) (by decide +kernel) (by omega) (by decide) (by omega) (by omega) ?_
  refine x_scr (j := (j + 3)) hs (np := 495) (x := 0) (by decide +kernel) rfl (by omega) (by omega) ?_
  refine x_aload (np := 496) (x := 3) (by decide +kernel) rfl (x_nc_le (by decide)) ?_
  have b1 : (sv sc (j + 1)) < 4294967296 := sv_lt
  have b2 : (sv sc (j + 2)) < 4294967296 := sv_lt
  have b3 : (sv sc (j + 3)) < 4294967296 := sv_lt
  refine x_cIc (t := 0) (mj := 287) (n := 5) (rc := 0) (ml := 6) (cc := 2) (ss := 12) (nr := 0) (np := 499) (as := [x_r 0, iv_c (sv sc (j + 1)), iv_c (sv sc (j + 2)), iv_c (sv sc (j + 3)), x_r 97]) (rest := []) (lo1 := [x_r 0, iv_c (sv sc (j + 1)), iv_c (sv sc (j + 2)), iv_c (sv sc (j + 3)), x_r 97, 147573952589676412928]) (by decide +kernel) (by decide) (x_cbV (by decide +kernel) (by show _ ≤ 600000; omega) (by show _ ≤ 7300000; omega)) (Or.inl rfl) rfl rfl (x_wr (by decide) (x_wi sv_lt (x_wi sv_lt (x_wi sv_lt (x_wr (by decide) x_wn))))) x_wn (by decide) rfl (c287_0_97 hJ (by omega) (by omega) (by omega)) (fun r6 h4 l7 q5 => ?_)
  obtain ⟨j8, f9, g10⟩ := q5
  have q11 : h4 0 11 = h 0 11 := f9 0 11 (by decide +kernel)
  have q12 : h4 75 11 = h 75 11 := f9 75 11 (by decide +kernel)
  have q13 : h4 1 1 = h 1 1 := f9 1 1 (by decide +kernel)
  have q14 : h4 75 6 = h 75 6 := f9 75 6 (by decide +kernel)
  have q15 : h4 76 1 = h 76 1 := f9 76 1 (by decide +kernel)
  have q16 : h4 0 10 = h 0 10 := f9 0 10 (by decide +kernel)
  have q17 : h4 75 4 = h 75 4 := f9 75 4 (by decide +kernel)
  have m18 := WT.fr w76 hJ f9 (by decide)
  have m19 := WT.fr7 w77 hJ f9 (by decide)
  have m20 : h4 75 4 = 2147483649 → 2147483650 ≤ h4 77 0 := by
    rw [f9 75 4 (by decide +kernel), f9 77 0 (by decide +kernel)]
    exact hB
  have s22 := St.fr hS f9 hJ (by decide) (by decide) (by decide) (by decide) (by decide) (by decide)
  have u23 : h4 0 11 = h4 75 11 := by omega
  have t21 := Ty.fr hY f9 (by decide) (by decide)
  refine x_istore (np := 501) (x := 5) (lo' := [55340232221128654849, x_r 0, x_r 75, x_r 97, iv_c (2147483648 + j), iv_c r6, w6]) (by decide +kernel) l7 (Nat.le_of_ble_eq_true rfl) rfl ?_
  refine x_aload (np := 502) (x := 2) (by decide +kernel) rfl (x_nc_le (by decide)) ?_
  refine x_aloadS (np := 503) (x := 0) (by decide +kernel) rfl ?_
  refine x_iload (np := 505) (x := 4) (by decide +kernel) rfl (by omega) ?_
  refine x_const (np := 506) (x := 9223372043297226753) (a := 2147483649) (by decide +kernel) (by decide) (by decide) ?_
  refine x_iadd (np := 507) (x := 0) (v := (2147483648 + (j + 1))) (by decide +kernel) (by omega) (by decide) (by omega) (by omega) ?_
  refine x_scr (j := (j + 1)) hs (np := 508) (x := 0) (by decide +kernel) rfl (by omega) (by omega) ?_
  refine x_aloadS (np := 509) (x := 0) (by decide +kernel) rfl ?_
  refine x_iload (np := 511) (x := 4) (by decide +kernel) rfl (by omega) ?_
  refine x_const (np := 512) (x := 9223372047592194050) (a := 2147483650) (by decide +kernel) (by decide) (by decide) ?_
  refine x_iadd (np := 513) (x := 0) (v := (2147483648 + (j + 2))) (by decide +kernel) (by omega) (by decide) (by omega) (by omega) ?_
  refine x_scr (j := (j + 2)) hs (np := 514) (x := 0) (by decide +kernel) rfl (by omega) (by omega) ?_
  refine x_aloadS (np := 515) (x := 0) (by decide +kernel) rfl ?_
  refine x_iload (np := 517) (x := 4) (by decide +kernel) rfl (by omega) ?_
  refine x_const (np := 518) (x := 9223372051887161347) (a := 2147483651) (by decide +kernel) (by decide) (by decide) ?_
  refine x_iadd (np := 519) (x := 0) (v := (2147483648 + (j + 3))) (by decide +kernel) (by omega) (by decide) (by omega) (by omega) ?_
  refine x_scr (j := (j + 3)) hs (np := 520) (x := 0) (by decide +kernel) rfl (by omega) (by omega) ?_
  have b24 : (sv sc (j + 1)) < 4294967296 := sv_lt
  have b25 : (sv sc (j + 2)) < 4294967296 := sv_lt
  have b26 : (sv sc (j + 3)) < 4294967296 := sv_lt
  refine x_cIc (t := 6) (mj := 216) (n := 4) (rc := 12) (ml := 5) (cc := 0) (ss := 0) (nr := 0) (np := 523) (as := [x_r 75, iv_c (sv sc (j + 1)), iv_c (sv sc (j + 2)), iv_c (sv sc (j + 3))]) (rest := []) (lo1 := [x_r 75, iv_c (sv sc (j + 1)), iv_c (sv sc (j + 2)), iv_c (sv sc (j + 3)), 147573952589676412928]) (by decide +kernel) (by decide) (x_cbV (by decide +kernel) (by show _ ≤ 600000; omega) (by show _ ≤ 7300000; omega)) (x_rb_of (by decide +kernel)) rfl rfl (x_wr (by decide) (x_wi sv_lt (x_wi sv_lt (x_wi sv_lt x_wn)))) x_wn (by decide) rfl (c216_75 j8 (by omega) (by omega) (by omega) m18) (fun r29 h27 l30 q28 => ?_)
  obtain ⟨j31, f32, g33⟩ := q28
  have q34 : h27 0 11 = h4 0 11 := f32 0 11 (by decide +kernel)
  have q35 : h27 75 11 = h4 75 11 := f32 75 11 (by decide +kernel)
  have q36 : h27 1 1 = h4 1 1 := f32 1 1 (by decide +kernel)
  have q37 : h27 75 6 = h4 75 6 := f32 75 6 (by decide +kernel)
  have q38 : h27 76 1 = h4 76 1 := f32 76 1 (by decide +kernel)
  have q39 : h27 0 10 = h4 0 10 := f32 0 10 (by decide +kernel)
  have q40 : h27 75 4 = h4 75 4 := f32 75 4 (by decide +kernel)
  have m41 := WT.fr m18 j8 f32 (by decide)
  have m42 := WT.fr7 m19 j8 f32 (by decide)
  have m43 : h27 75 4 = 2147483649 → 2147483650 ≤ h27 77 0 := by
    rw [f32 75 4 (by decide +kernel), f32 77 0 (by decide +kernel)]
    exact m20
  have s45 := St.fr s22 f32 j8 (by decide) (by decide) (by decide) (by decide) (by decide) (by decide)
  have u46 : h27 0 11 = h27 75 11 := by omega
  have t44 := Ty.fr t21 f32 (by decide) (by decide)
  refine x_istore (np := 525) (x := 6) (lo' := [55340232221128654849, x_r 0, x_r 75, x_r 97, iv_c (2147483648 + j), iv_c r6, iv_c r29]) (by decide +kernel) l30 (Nat.le_of_ble_eq_true rfl) rfl ?_
  refine x_goto (np := 528) (x := 1369) (by decide +kernel) ?_
  exact k (c0 + 2) (s0 + 12) (iv_c r6) (iv_c r29) h27 (by omega) (by omega) ⟨⟨j31, by omega, m41, m42, m43, by omega⟩, t44, s45, u46⟩
set_option maxHeartbeats 0 in
theorem lc_9 {sc : Nat × Nat} {d j c0 s0 w5 w6 : Nat} {h : xh} {Q : Nat → xh → Prop} (hs : scOK sc) (hI : INV5 h) (hj : j + 6 ≤ sc.1) (hc : c0 + 2 ≤ 600000) (hz : s0 + 12 ≤ 7300000) (k : ∀ c1 s1 v5 v6 h', c1 ≤ c0 + 2 → s1 ≤ s0 + 12 → INV5 h' → X sc 309 (d + 60) Q c1 s1 1369 [55340232221128654849, x_r 0, x_r 75, x_r 97, iv_c (2147483648 + j), v5, v6] [] h') : X sc 309 (d + 60) Q c0 s0 528 [55340232221128654849, x_r 0, x_r 75, x_r 97, iv_c (2147483648 + j), w5, w6] [] h := by
  obtain ⟨⟨hJ, hE, w76, w77, hB, hG⟩, hY, hS, hF⟩ := hI
  have h384 := hs.1
  have hS1 := hS.2.1 1 (by decide)
  have hS3 := hS.2.2.1
  refine x_aload (np := 529) (x := 1) (by decide +kernel) rfl (x_nc_le (by decide)) ?_
  refine x_aloadS (np := 530) (x := 0) (by decide +kernel) rfl ?_
  refine x_iload (np := 532) (x := 4) (by decide +kernel) rfl (by omega) ?_
  refine x_const (np := 533) (x := 9223372043297226753) (a := 2147483649) (by decide +kernel) (by decide) (by decide) ?_
  refine x_iadd (np := 534) (x := 0) (v := (2147483648 + (j + 1))) (by decide +kernel) (by omega) (by decide) (by omega) (by omega) ?_
  refine x_scr (j := (j + 1)) hs (np := 535) (x := 0) (by decide +kernel) rfl (by omega) (by omega) ?_
  refine x_aload (np := 536) (x := 3) (by decide +kernel) rfl (x_nc_le (by decide)) ?_
  have b1 : (sv sc (j + 1)) < 4294967296 := sv_lt
  refine x_cIc (t := 0) (mj := 288) (n := 3) (rc := 0) (ml := 4) (cc := 1) (ss := 6) (nr := 0) (np := 539) (as := [x_r 0, iv_c (sv sc (j + 1)), x_r 97]) (rest := []) (lo1 := [x_r 0, iv_c (sv sc (j + 1)), x_r 97, 147573952589676412928]) (by decide +kernel) (by decide) (x_cbV (by decide +kernel) (by show _ ≤ 600000; omega) (by show _ ≤ 7300000; omega)) (Or.inl rfl) rfl rfl (x_wr (by decide) (x_wi sv_lt (x_wr (by decide) x_wn))) x_wn (by decide) rfl (c288_0_97 hJ (by omega)) (fun r4 h2 l5 q3 => ?_)
  obtain ⟨j6, f7, g8⟩ := q3
  have q9 : h2 0 11 = h 0 11 := f7 0 11 (by decide +kernel)
  have q10 : h2 75 11 = h 75 11 := f7 75 11 (by decide +kernel)
  have q11 : h2 1 1 = h 1 1 := f7 1 1 (by decide +kernel)
  have q12 : h2 75 6 = h 75 6 := f7 75 6 (by decide +kernel)
  have q13 : h2 76 1 = h 76 1 := f7 76 1 (by decide +kernel)
  have q14 : h2 0 10 = h 0 10 := f7 0 10 (by decide +kernel)
  have q15 : h2 75 4 = h 75 4 := f7 75 4 (by decide +kernel)
  have m16 := WT.fr w76 hJ f7 (by decide)
  have m17 := WT.fr7 w77 hJ f7 (by decide)
  have m18 : h2 75 4 = 2147483649 → 2147483650 ≤ h2 77 0 := by
    rw [f7 75 4 (by decide +kernel), f7 77 0 (by decide +kernel)]
    exact hB
  have s20 := St.fr hS f7 hJ (by decide) (by decide) (by decide) (by decide) (by decide) (by decide)
  have u21 : h2 0 11 = h2 75 11 := by omega
  have t19 := Ty.fr hY f7 (by decide) (by decide)
  refine x_istore (np := 541) (x := 5) (lo' := [55340232221128654849, x_r 0, x_r 75, x_r 97, iv_c (2147483648 + j), iv_c r4, w6]) (by decide +kernel) l5 (Nat.le_of_ble_eq_true rfl) rfl ?_
  refine x_aload (np := 542) (x := 2) (by decide +kernel) rfl (x_nc_le (by decide)) ?_
  refine x_aloadS (np := 543) (x := 0) (by decide +kernel) rfl ?_
  refine x_iload (np := 545) (x := 4) (by decide +kernel) rfl (by omega) ?_
  refine x_const (np := 546) (x := 9223372043297226753) (a := 2147483649) (by decide +kernel) (by decide) (by decide) ?_
  refine x_iadd (np := 547) (x := 0) (v := (2147483648 + (j + 1))) (by decide +kernel) (by omega) (by decide) (by omega) (by omega) ?_
  refine x_scr (j := (j + 1)) hs (np := 548) (x := 0) (by decide +kernel) rfl (by omega) (by omega) ?_
  have b22 : (sv sc (j + 1)) < 4294967296 := sv_lt
  refine x_cIc (t := 6) (mj := 219) (n := 2) (rc := 12) (ml := 4) (cc := 0) (ss := 0) (nr := 0) (np := 551) (as := [x_r 75, iv_c (sv sc (j + 1))]) (rest := []) (lo1 := [x_r 75, iv_c (sv sc (j + 1)), 147573952589676412928, 147573952589676412928]) (by decide +kernel) (by decide) (x_cbV (by decide +kernel) (by show _ ≤ 600000; omega) (by show _ ≤ 7300000; omega)) (x_rb_of (by decide +kernel)) rfl rfl (x_wr (by decide) (x_wi sv_lt x_wn)) x_wn (by decide) rfl (c219_75 j6 (by omega) m16) (fun r25 h23 l26 q24 => ?_)
  obtain ⟨j27, f28, g29⟩ := q24
  have q30 : h23 0 11 = h2 0 11 := f28 0 11 (by decide +kernel)
  have q31 : h23 75 11 = h2 75 11 := f28 75 11 (by decide +kernel)
  have q32 : h23 1 1 = h2 1 1 := f28 1 1 (by decide +kernel)
  have q33 : h23 75 6 = h2 75 6 := f28 75 6 (by decide +kernel)
  have q34 : h23 76 1 = h2 76 1 := f28 76 1 (by decide +kernel)
  have q35 : h23 0 10 = h2 0 10 := f28 0 10 (by decide +kernel)
  have q36 : h23 75 4 = h2 75 4 := f28 75 4 (by decide +kernel)
  have m37 := WT.fr m16 j6 f28 (by decide)
  have m38 := WT.fr7 m17 j6 f28 (by decide)
  have m39 : h23 75 4 = 2147483649 → 2147483650 ≤ h23 77 0 := by
    rw [f28 75 4 (by decide +kernel), f28 77 0 (by decide +kernel)]
    exact m18
  have s41 := St.fr s20 f28 j6 (by decide) (by decide) (by decide) (by decide) (by decide) (by decide)
  have u42 : h23 0 11 = h23 75 11 := by omega
  have t40 := Ty.fr t19 f28 (by decide) (by decide)
  refine x_istore (np := 553) (x := 6) (lo' := [55340232221128654849, x_r 0, x_r 75, x_r 97, iv_c (2147483648 + j), iv_c r4, iv_c r25]) (by decide +kernel) l26 (Nat.le_of_ble_eq_true rfl) rfl ?_
  refine x_goto (np := 556) (x := 1369) (by decide +kernel) ?_
  exact k (c0 + 1) (s0 + 6) (iv_c r4) (iv_c r25) h23 (by omega) (by omega) ⟨⟨j27, by omega, m37, m38, m39, by omega⟩, t40, s41, u42⟩
set_option maxHeartbeats 0 in
theorem lc_10 {sc : Nat × Nat} {d j c0 s0 w5 w6 : Nat} {h : xh} {Q : Nat → xh → Prop} (hs : scOK sc) (hI : INV5 h) (hj : j + 6 ≤ sc.1) (hc : c0 + 2 ≤ 600000) (hz : s0 + 12 ≤ 7300000) (k : ∀ c1 s1 v5 v6 h', c1 ≤ c0 + 2 → s1 ≤ s0 + 12 → INV5 h' → X sc 309 (d + 60) Q c1 s1 1369 [55340232221128654849, x_r 0, x_r 75, x_r 97, iv_c (2147483648 + j), v5, v6] [] h') : X sc 309 (d + 60) Q c0 s0 556 [55340232221128654849, x_r 0, x_r 75, x_r 97, iv_c (2147483648 + j), w5, w6] [] h := by
  obtain ⟨⟨hJ, hE, w76, w77, hB, hG⟩, hY, hS, hF⟩ := hI
  have h384 := hs.1
  have hS1 := hS.2.1 1 (by decide)
  have hS3 := hS.2.2.1
  refine x_aload (np := 557) (x := 1) (by decide +kernel) rfl (x_nc_le (by decide)) ?_
  refine x_aloadS (np := 558) (x := 0) (by decide +kernel) rfl ?_
  refine x_iload (np := 560) (x := 4) (by decide +kernel) rfl (by omega) ?_
  refine x_const (np := 561) (x := 9223372043297226753) (a := 2147483649) (by decide +kernel) (by decide) (by decide) ?_
  refine x_iadd (np := 562) (x := 0) (v := (2147483648 + (j + 1))) (by decide +kernel) (by omega) (by decide) (by omega) (by omega) ?_
  refine x_scr (j := (j + 1)) hs (np := 563) (x := 0) (by decide +kernel) rfl (by omega) (by omega) ?_
  refine x_aload (np := 564) (x := 3) (by decide +kernel) rfl (x_nc_le (by decide)) ?_
  have b1 : (sv sc (j + 1)) < 4294967296 := sv_lt
  refine x_cIc (t := 0) (mj := 289) (n := 3) (rc := 0) (ml := 4) (cc := 1) (ss := 6) (nr := 0) (np := 567) (as := [x_r 0, iv_c (sv sc (j + 1)), x_r 97]) (rest := []) (lo1 := [x_r 0, iv_c (sv sc (j + 1)), x_r 97, 147573952589676412928]) (by decide +kernel) (by decide) (x_cbV (by decide +kernel) (by show _ ≤ 600000; omega) (by show _ ≤ 7300000; omega)) (Or.inl rfl) rfl rfl (x_wr (by decide) (x_wi sv_lt (x_wr (by decide) x_wn))) x_wn (by decide) rfl (c289_0_97 hJ (by omega)) (fun r4 h2 l5 q3 => ?_)
  obtain ⟨j6, f7, g8⟩ := q3
  have q9 : h2 0 11 = h 0 11 := f7 0 11 (by decide +kernel)
  have q10 : h2 75 11 = h 75 11 := f7 75 11 (by decide +kernel)
  have q11 : h2 1 1 = h 1 1 := f7 1 1 (by decide +kernel)
  have q12 : h2 75 6 = h 75 6 := f7 75 6 (by decide +kernel)
  have q13 : h2 76 1 = h 76 1 := f7 76 1 (by decide +kernel)
  have q14 : h2 0 10 = h 0 10 := f7 0 10 (by decide +kernel)
  have q15 : h2 75 4 = h 75 4 := f7 75 4 (by decide +kernel)
  have m16 := WT.fr w76 hJ f7 (by decide)
  have m17 := WT.fr7 w77 hJ f7 (by decide)
  have m18 : h2 75 4 = 2147483649 → 2147483650 ≤ h2 77 0 := by
    rw [f7 75 4 (by decide +kernel), f7 77 0 (by decide +kernel)]
    exact hB
  have s20 := St.fr hS f7 hJ (by decide) (by decide) (by decide) (by decide) (by decide) (by decide)
  have u21 : h2 0 11 = h2 75 11 := by omega
  have t19 := Ty.fr hY f7 (by decide) (by decide)
  refine x_istore (np := 569) (x := 5) (lo' := [55340232221128654849, x_r 0, x_r 75, x_r 97, iv_c (2147483648 + j), iv_c r4, w6]) (by decide +kernel) l5 (Nat.le_of_ble_eq_true rfl) rfl ?_
  refine x_aload (np := 570) (x := 2) (by decide +kernel) rfl (x_nc_le (by decide)) ?_
  refine x_aloadS (np := 571) (x := 0) (by decide +kernel) rfl ?_
  refine x_iload (np := 573) (x := 4) (by decide +kernel) rfl (by omega) ?_
  refine x_const (np := 574) (x := 9223372043297226753) (a := 2147483649) (by decide +kernel) (by decide) (by decide) ?_
  refine x_iadd (np := 575) (x := 0) (v := (2147483648 + (j + 1))) (by decide +kernel) (by omega) (by decide) (by omega) (by omega) ?_
  refine x_scr (j := (j + 1)) hs (np := 576) (x := 0) (by decide +kernel) rfl (by omega) (by omega) ?_
  have b22 : (sv sc (j + 1)) < 4294967296 := sv_lt
  refine x_cIc (t := 6) (mj := 220) (n := 2) (rc := 12) (ml := 5) (cc := 0) (ss := 0) (nr := 0) (np := 579) (as := [x_r 75, iv_c (sv sc (j + 1))]) (rest := []) (lo1 := [x_r 75, iv_c (sv sc (j + 1)), 147573952589676412928, 147573952589676412928, 147573952589676412928]) (by decide +kernel) (by decide) (x_cbV (by decide +kernel) (by show _ ≤ 600000; omega) (by show _ ≤ 7300000; omega)) (x_rb_of (by decide +kernel)) rfl rfl (x_wr (by decide) (x_wi sv_lt x_wn)) x_wn (by decide) rfl (c220_75 j6 (by omega) m16) (fun r25 h23 l26 q24 => ?_)
  obtain ⟨j27, f28, g29⟩ := q24
  have q30 : h23 0 11 = h2 0 11 := f28 0 11 (by decide +kernel)
  have q31 : h23 75 11 = h2 75 11 := f28 75 11 (by decide +kernel)
  have q32 : h23 1 1 = h2 1 1 := f28 1 1 (by decide +kernel)
  have q33 : h23 75 6 = h2 75 6 := f28 75 6 (by decide +kernel)
  have q34 : h23 76 1 = h2 76 1 := f28 76 1 (by decide +kernel)
  have q35 : h23 0 10 = h2 0 10 := f28 0 10 (by decide +kernel)
  have q36 : h23 75 4 = h2 75 4 := f28 75 4 (by decide +kernel)
  have m37 := WT.fr m16 j6 f28 (by decide)
  have m38 := WT.fr7 m17 j6 f28 (by decide)
  have m39 : h23 75 4 = 2147483649 → 2147483650 ≤ h23 77 0 := by
    rw [f28 75 4 (by decide +kernel), f28 77 0 (by decide +kernel)]
    exact m18
  have s41 := St.fr s20 f28 j6 (by decide) (by decide) (by decide) (by decide) (by decide) (by decide)
  have u42 : h23 0 11 = h23 75 11 := by omega
  have t40 := Ty.fr t19 f28 (by decide) (by decide)
  refine x_istore (np := 581) (x := 6) (lo' := [55340232221128654849, x_r 0, x_r 75, x_r 97, iv_c (2147483648 + j), iv_c r4, iv_c r25]) (by decide +kernel) l26 (Nat.le_of_ble_eq_true rfl) rfl ?_
  refine x_goto (np := 584) (x := 1369) (by decide +kernel) ?_
  exact k (c0 + 1) (s0 + 6) (iv_c r4) (iv_c r25) h23 (by omega) (by omega) ⟨⟨j27, by omega, m37, m38, m39, by omega⟩, t40, s41, u42⟩
set_option maxHeartbeats 0 in
theorem lc_11 {sc : Nat × Nat} {d j c0 s0 w5 w6 : Nat} {h : xh} {Q : Nat → xh → Prop} (hs : scOK sc) (hI : INV5 h) (hj : j + 6 ≤ sc.1) (hc : c0 + 2 ≤ 600000) (hz : s0 + 12 ≤ 7300000) (k : ∀ c1 s1 v5 v6 h', c1 ≤ c0 + 2 → s1 ≤ s0 + 12 → INV5 h' → X sc 309 (d + 60) Q c1 s1 1369 [55340232221128654849, x_r 0, x_r 75, x_r 97, iv_c (2147483648 + j), v5, v6] [] h') : X sc 309 (d + 60) Q c0 s0 584 [55340232221128654849, x_r 0, x_r 75, x_r 97, iv_c (2147483648 + j), w5, w6] [] h := by
  obtain ⟨⟨hJ, hE, w76, w77, hB, hG⟩, hY, hS, hF⟩ := hI
  have h384 := hs.1
  have hS1 := hS.2.1 1 (by decide)
  have hS3 := hS.2.2.1
  refine x_aload (np := 585) (x := 1) (by decide +kernel) rfl (x_nc_le (by decide)) ?_
  refine x_aloadS (np := 586) (x := 0) (by decide +kernel) rfl ?_
  refine x_iload (np := 588) (x := 4) (by decide +kernel) rfl (by omega) ?_
  refine x_const (np := 589) (x := 9223372043297226753) (a := 2147483649) (by decide +kernel) (by decide) (by decide) ?_
  refine x_iadd (np := 590) (x := 0) (v := (2147483648 + (j + 1))) (by decide +kernel) (by omega) (by decide) (by omega) (by omega) ?_
  refine x_scr (j := (j + 1)) hs (np := 591) (x := 0) (by decide +kernel) rfl (by omega) (by omega) ?_
  refine x_aloadS (np := 592) (x := 0) (by decide +kernel) rfl ?_
  refine x_iload (np := 594) (x := 4) (by decide +kernel) rfl (by omega) ?_
  refine x_const (np := 595) (x := 9223372047592194050) (a := 2147483650) (by decide +kernel) (by decide) (by decide) ?_
  refine x_iadd (np := 596) (x := 0) (v := (2147483648 + (j + 2))) (by decide +kernel) (by omega) (by decide) (by omega) (by omega) ?_
  refine x_scr (j := (j + 2)) hs (np := 597) (x := 0) (by decide +kernel) rfl (by omega) (by omega) ?_
  refine x_aload (np := 598) (x := 3) (by decide +kernel) rfl (x_nc_le (by decide)) ?_
  have b1 : (sv sc (j + 1)) < 4294967296 := sv_lt
  have b2 : (sv sc (j + 2)) < 4294967296 := sv_lt
  refine x_cIc (t := 0) (mj := 290) (n := 4) (rc := 0) (ml := 5) (cc := 2) (ss := 12) (nr := 0) (np := 601) (as := [x_r 0, iv_c (sv sc (j + 1)), iv_c (sv sc (j + 2)), x_r 97]) (rest := []) (lo1 := [x_r 0, iv_c (sv sc (j + 1)), iv_c (sv sc (j + 2)), x_r 97, 147573952589676412928]) (by decide +kernel) (by decide) (x_cbV (by decide +kernel) (by show _ ≤ 600000; omega) (by show _ ≤ 7300000; omega)) (Or.inl rfl) rfl rfl (x_wr (by decide) (x_wi sv_lt (x_wi sv_lt (x_wr (by decide) x_wn)))) x_wn (by decide) rfl (c290_0_97 hJ (by omega) (by omega)) (fun r5 h3 l6 q4 => ?_)
  obtain ⟨j7, f8, g9⟩ := q4
  have q10 : h3 0 11 = h 0 11 := f8 0 11 (by decide +kernel)
  have q11 : h3 75 11 = h 75 11 := f8 75 11 (by decide +kernel)
  have q12 : h3 1 1 = h 1 1 := f8 1 1 (by decide +kernel)
  have q13 : h3 75 6 = h 75 6 := f8 75 6 (by decide +kernel)
  have q14 : h3 76 1 = h 76 1 := f8 76 1 (by decide +kernel)
  have q15 : h3 0 10 = h 0 10 := f8 0 10 (by decide +kernel)
  have q16 : h3 75 4 = h 75 4 := f8 75 4 (by decide +kernel)
  have m17 := WT.fr w76 hJ f8 (by decide)
  have m18 := WT.fr7 w77 hJ f8 (by decide)
  have m19 : h3 75 4 = 2147483649 → 2147483650 ≤ h3 77 0 := by
    rw [f8 75 4 (by decide +kernel), f8 77 0 (by decide +kernel)]
    exact hB
  have s21 := St.fr hS f8 hJ (by decide) (by decide) (by decide) (by decide) (by decide) (by decide)
  have u22 : h3 0 11 = h3 75 11 := by omega
  have t20 := Ty.fr hY f8 (by decide) (by decide)
  refine x_istore (np := 603) (x := 5) (lo' := [55340232221128654849, x_r 0, x_r 75, x_r 97, iv_c (2147483648 + j), iv_c r5, w6]) (by decide +kernel) l6 (Nat.le_of_ble_eq_true rfl) rfl ?_
  refine x_aload (np := 604) (x := 2) (by decide +kernel) rfl (x_nc_le (by decide)) ?_
  refine x_aloadS (np := 605) (x := 0) (by decide +kernel) rfl ?_
  refine x_iload (np := 607) (x := 4) (by decide +kernel) rfl (by omega) ?_
  refine x_const (np := 608) (x := 9223372043297226753) (a := 2147483649) (by decide +kernel) (by decide) (by decide) ?_
  refine x_iadd (np := 609) (x := 0) (v := (2147483648 + (j + 1))) (by decide +kernel) (by omega) (by decide) (by omega) (by omega) ?_
  refine x_scr (j := (j + 1)) hs (np := 610) (x := 0) (by decide +kernel) rfl (by omega) (by omega) ?_
  refine x_aloadS (np := 611) (x := 0) (by decide +kernel) rfl ?_
  refine x_iload (np := 613) (x := 4) (by decide +kernel) rfl (by omega) ?_
  refine x_const (np := 614) (x := 9223372047592194050) (a := 2147483650) (by decide +kernel) (by decide) (by decide) ?_
  refine x_iadd (np := 615) (x := 0) (v := (2147483648 + (j + 2))) (by decide +kernel) (by omega) (by decide) (by omega) (by omega) ?_
  refine x_scr (j := (j + 2)) hs (np := 616) (x := 0) (by decide +kernel) rfl (by omega) (by omega) ?_
  have b23 : (sv sc (j + 1)) < 4294967296 := sv_lt
  have b24 : (sv sc (j + 2)) < 4294967296 := sv_lt
  refine x_cIc (t := 6) (mj := 221) (n := 3) (rc := 12) (ml := 3) (cc := 0) (ss := 0) (nr := 0) (np := 619) (as := [x_r 75, iv_c (sv sc (j + 1)), iv_c (sv sc (j + 2))]) (rest := []) (lo1 := [x_r 75, iv_c (sv sc (j + 1)), iv_c (sv sc (j + 2))]) (by decide +kernel) (by decide) (x_cbV (by decide +kernel) (by show _ ≤ 600000; omega) (by show _ ≤ 7300000; omega)) (x_rb_of (by decide +kernel)) rfl rfl (x_wr (by decide) (x_wi sv_lt (x_wi sv_lt x_wn))) x_wn (by decide) rfl (c221_75 j7 (by omega) (by omega)) (fun r27 h25 l28 q26 => ?_)
  obtain ⟨j29, f30, g31⟩ := q26
  have q32 : h25 0 11 = h3 0 11 := f30 0 11 (by decide +kernel)
  have q33 : h25 75 11 = h3 75 11 := f30 75 11 (by decide +kernel)
  have q34 : h25 1 1 = h3 1 1 := f30 1 1 (by decide +kernel)
  have q35 : h25 75 6 = h3 75 6 := f30 75 6 (by decide +kernel)
  have q36 : h25 76 1 = h3 76 1 := f30 76 1 (by decide +kernel)
  have q37 : h25 0 10 = h3 0 10 := f30 0 10 (by decide +kernel)
  have q38 : h25 75 4 = h3 75 4 := f30 75 4 (by decide +kernel)
  have m39 := WT.fr m17 j7 f30 (by decide)
  have m40 := WT.fr7 m18 j7 f30 (by decide)
  have m41 : h25 75 4 = 2147483649 → 2147483650 ≤ h25 77 0 := by
    rw [f30 75 4 (by decide +kernel), f30 77 0 (by decide +kernel)]
    exact m19
  have s43 := St.fr s21 f30 j7 (by decide) (by decide) (by decide) (by decide) (by decide) (by decide)
  have u44 : h25 0 11 = h25 75 11 := by omega
  have t42 := Ty.fr t20 f30 (by decide) (by decide)
  refine x_istore (np := 621) (x := 6) (lo' := [55340232221128654849, x_r 0, x_r 75, x_r 97, iv_c (2147483648 + j), iv_c r5, iv_c r27]) (by decide +kernel) l28 (Nat.le_of_ble_eq_true rfl) rfl ?_
  refine x_goto (np := 624) (x := 1369) (by decide +kernel) ?_
  exact k (c0 + 2) (s0 + 12) (iv_c r5) (iv_c r27) h25 (by omega) (by omega) ⟨⟨j29, by omega, m39, m40, m41, by omega⟩, t42, s43, u44⟩
set_option maxHeartbeats 0 in
theorem lc_12 {sc : Nat × Nat} {d j c0 s0 w5 w6 : Nat} {h : xh} {Q : Nat → xh → Prop} (hs : scOK sc) (hI : INV5 h) (hj : j + 6 ≤ sc.1) (hc : c0 + 2 ≤ 600000) (hz : s0 + 12 ≤ 7300000) (k : ∀ c1 s1 v5 v6 h', c1 ≤ c0 + 2 → s1 ≤ s0 + 12 → INV5 h' → X sc 309 (d + 60) Q c1 s1 1369 [55340232221128654849, x_r 0, x_r 75, x_r 97, iv_c (2147483648 + j), v5, v6] [] h') : X sc 309 (d + 60) Q c0 s0 624 [55340232221128654849, x_r 0, x_r 75, x_r 97, iv_c (2147483648 + j), w5, w6] [] h := by
  obtain ⟨⟨hJ, hE, w76, w77, hB, hG⟩, hY, hS, hF⟩ := hI
  have h384 := hs.1
  have hS1 := hS.2.1 1 (by decide)
  have hS3 := hS.2.2.1
  refine x_aload (np := 625) (x := 1) (by decide +kernel) rfl (x_nc_le (by decide)) ?_
  refine x_aloadS (np := 626) (x := 0) (by decide +kernel) rfl ?_
  refine x_iload (np := 628) (x := 4) (by decide +kernel) rfl (by omega) ?_
  refine x_const (np := 629) (x := 9223372043297226753) (a := 2147483649) (by decide +kernel) (by decide) (by decide) ?_
  refine x_iadd (np := 630) (x := 0) (v := (2147483648 + (j + 1))) (by decide +kernel) (by omega) (by decide) (by omega) (by omega) ?_
  refine x_scr (j := (j + 1)) hs (np := 631) (x := 0) (by decide +kernel) rfl (by omega) (by omega) ?_
  refine x_aloadS (np := 632) (x := 0) (by decide +kernel) rfl ?_
  refine x_iload (np := 634) (x := 4) (by decide +kernel) rfl (by omega) ?_
  refine x_const (np := 635) (x := 9223372047592194050) (a := 2147483650) (by decide +kernel) (by decide) (by decide) ?_
  refine x_iadd (np := 636) (x := 0) (v := (2147483648 + (j + 2))) (by decide +kernel) (by omega) (by decide) (by omega) (by omega) ?_
  refine x_scr (j := (j + 2)) hs (np := 637) (x := 0) (by decide +kernel) rfl (by omega) (by omega) ?_
  refine x_aload (np := 638) (x := 3) (by decide +kernel) rfl (x_nc_le (by decide)) ?_
  have b1 : (sv sc (j + 1)) < 4294967296 := sv_lt
  have b2 : (sv sc (j + 2)) < 4294967296 := sv_lt
  refine x_cIc (t := 0) (mj := 291) (n := 4) (rc := 0) (ml := 5) (cc := 2) (ss := 12) (nr := 0) (np := 641) (as := [x_r 0, iv_c (sv sc (j + 1)), iv_c (sv sc (j + 2)), x_r 97]) (rest := []) (lo1 := [x_r 0, iv_c (sv sc (j + 1)), iv_c (sv sc (j + 2)), x_r 97, 147573952589676412928]) (by decide +kernel) (by decide) (x_cbV (by decide +kernel) (by show _ ≤ 600000; omega) (by show _ ≤ 7300000; omega)) (Or.inl rfl) rfl rfl (x_wr (by decide) (x_wi sv_lt (x_wi sv_lt (x_wr (by decide) x_wn)))) x_wn (by decide) rfl (c291_0_97 hJ (by omega) (by omega)) (fun r5 h3 l6 q4 => ?_)
  obtain ⟨j7, f8, g9⟩ := q4
  have q10 : h3 0 11 = h 0 11 := f8 0 11 (by decide +kernel)
  have q11 : h3 75 11 = h 75 11 := f8 75 11 (by decide +kernel)
  have q12 : h3 1 1 = h 1 1 := f8 1 1 (by decide +kernel)
  have q13 : h3 75 6 = h 75 6 := f8 75 6 (by decide +kernel)
  have q14 : h3 76 1 = h 76 1 := f8 76 1 (by decide +kernel)
  have q15 : h3 0 10 = h 0 10 := f8 0 10 (by decide +kernel)
  have q16 : h3 75 4 = h 75 4 := f8 75 4 (by decide +kernel)
  have m17 := WT.fr w76 hJ f8 (by decide)
  have m18 := WT.fr7 w77 hJ f8 (by decide)
  have m19 : h3 75 4 = 2147483649 → 2147483650 ≤ h3 77 0 := by
    rw [f8 75 4 (by decide +kernel), f8 77 0 (by decide +kernel)]
    exact hB
  have s21 := St.fr hS f8 hJ (by decide) (by decide) (by decide) (by decide) (by decide) (by decide)
  have u22 : h3 0 11 = h3 75 11 := by omega
  have t20 := Ty.fr hY f8 (by decide) (by decide)
  refine x_istore (np := 643) (x := 5) (lo' := [55340232221128654849, x_r 0, x_r 75, x_r 97, iv_c (2147483648 + j), iv_c r5, w6]) (by decide +kernel) l6 (Nat.le_of_ble_eq_true rfl) rfl ?_
  refine x_aload (np := 644) (x := 2) (by decide +kernel) rfl (x_nc_le (by decide)) ?_
  refine x_aloadS (np := 645) (x := 0) (by decide +kernel) rfl ?_
  refine x_iload (np := 647) (x := 4) (by decide +kernel) rfl (by omega) ?_
  refine x_const (np := 648) (x := 9223372043297226753) (a := 2147483649) (by decide +kernel) (by decide) (by decide) ?_
  refine x_iadd (np := 649) (x := 0) (v := (2147483648 + (j + 1))) (by decide +kernel) (by omega) (by decide) (by omega) (by omega) ?_
  refine x_scr (j := (j + 1)) hs (np := 650) (x := 0) (by decide +kernel) rfl (by omega) (by omega) ?_
  refine x_aloadS (np := 651) (x := 0) (by decide +kernel) rfl ?_
  refine x_iload (np := 653) (x := 4) (by decide +kernel) rfl (by omega) ?_
  refine x_const (np := 654) (x := 9223372047592194050) (a := 2147483650) (by decide +kernel) (by decide) (by decide) ?_
  refine x_iadd (np := 655) (x := 0) (v := (2147483648 + (j + 2))) (by decide +kernel) (by omega) (by decide) (by omega) (by omega) ?_
  refine x_scr (j := (j + 2)) hs (np := 656) (x := 0) (by decide +kernel) rfl (by omega) (by omega) ?_
  have b23 : (sv sc (j + 1)) < 4294967296 := sv_lt
  have b24 : (sv sc (j + 2)) < 4294967296 := sv_lt
  refine x_cIc (t := 6) (mj := 223) (n := 3) (rc := 12) (ml := 3) (cc := 0) (ss := 0) (nr := 0) (np := 659) (as := [x_r 75, iv_c (sv sc (j + 1)), iv_c (sv sc (j + 2))]) (rest := []) (lo1 := [x_r 75, iv_c (sv sc (j + 1)), iv_c (sv sc (j + 2))]) (by decide +kernel) (by decide) (x_cbV (by decide +kernel) (by show _ ≤ 600000; omega) (by show _ ≤ 7300000; omega)) (x_rb_of (by decide +kernel)) rfl rfl (x_wr (by decide) (x_wi sv_lt (x_wi sv_lt x_wn))) x_wn (by decide) rfl (c223_75 j7 (by omega) (by omega) m17) (fun r27 h25 l28 q26 => ?_)
  obtain ⟨j29, f30, g31⟩ := q26
  have q32 : h25 0 11 = h3 0 11 := f30 0 11 (by decide +kernel)
  have q33 : h25 75 11 = h3 75 11 := f30 75 11 (by decide +kernel)
  have q34 : h25 1 1 = h3 1 1 := f30 1 1 (by decide +kernel)
  have q35 : h25 75 6 = h3 75 6 := f30 75 6 (by decide +kernel)
  have q36 : h25 76 1 = h3 76 1 := f30 76 1 (by decide +kernel)
  have q37 : h25 0 10 = h3 0 10 := f30 0 10 (by decide +kernel)
  have q38 : h25 75 4 = h3 75 4 := f30 75 4 (by decide +kernel)
  have m39 := WT.fr m17 j7 f30 (by decide)
  have m40 := WT.fr7 m18 j7 f30 (by decide)
  have m41 : h25 75 4 = 2147483649 → 2147483650 ≤ h25 77 0 := by
    rw [f30 75 4 (by decide +kernel), f30 77 0 (by decide +kernel)]
    exact m19
  have s43 := St.fr s21 f30 j7 (by decide) (by decide) (by decide) (by decide) (by decide) (by decide)
  have u44 : h25 0 11 = h25 75 11 := by omega
  have t42 := Ty.fr t20 f30 (by decide) (by decide)
  refine x_istore (np := 661) (x := 6) (lo' := [55340232221128654849, x_r 0, x_r 75, x_r 97, iv_c (2147483648 + j), iv_c r5, iv_c r27]) (by decide +kernel) l28 (Nat.le_of_ble_eq_true rfl) rfl ?_
  refine x_goto (np := 664) (x := 1369) (by decide +kernel) ?_
  exact k (c0 + 2) (s0 + 12) (iv_c r5) (iv_c r27) h25 (by omega) (by omega) ⟨⟨j29, by omega, m39, m40, m41, by omega⟩, t42, s43, u44⟩
set_option maxHeartbeats 0 in
theorem lc_13 {sc : Nat × Nat} {d j c0 s0 w5 w6 : Nat} {h : xh} {Q : Nat → xh → Prop} (hs : scOK sc) (hI : INV5 h) (hj : j + 6 ≤ sc.1) (hc : c0 + 2 ≤ 600000) (hz : s0 + 12 ≤ 7300000) (k : ∀ c1 s1 v5 v6 h', c1 ≤ c0 + 2 → s1 ≤ s0 + 12 → INV5 h' → X sc 309 (d + 60) Q c1 s1 1369 [55340232221128654849, x_r 0, x_r 75, x_r 97, iv_c (2147483648 + j), v5, v6] [] h') : X sc 309 (d + 60) Q c0 s0 664 [55340232221128654849, x_r 0, x_r 75, x_r 97, iv_c (2147483648 + j), w5, w6] [] h := by
  obtain ⟨⟨hJ, hE, w76, w77, hB, hG⟩, hY, hS, hF⟩ := hI
  have h384 := hs.1
  have hS1 := hS.2.1 1 (by decide)
  have hS3 := hS.2.2.1
  refine x_aload (np := 665) (x := 1) (by decide +kernel) rfl (x_nc_le (by decide)) ?_
  refine x_aloadS (np := 666) (x := 0) (by decide +kernel) rfl ?_
  refine x_iload (np := 668) (x := 4) (by decide +kernel) rfl (by omega) ?_
  refine x_const (np := 669) (x := 9223372043297226753) (a := 2147483649) (by decide +kernel) (by decide) (by decide) ?_
  refine x_iadd (np := 670) (x := 0) (v := (2147483648 + (j + 1))) (by decide +kernel) (by omega) (by decide) (by omega) (by omega) ?_
  refine x_scr (j := (j + 1)) hs (np := 671) (x := 0) (by decide +kernel) rfl (by omega) (by omega) ?_
  refine x_aloadS (np := 672) (x := 0) (by decide +kernel) rfl ?_
  refine x_iload (np := 674) (x := 4) (by decide +kernel) rfl (by omega) ?_
  refine x_const (np := 675) (x := 9223372047592194050) (a := 2147483650) (by decide +kernel) (by decide) (by decide) ?_
  refine x_iadd (np := 676) (x := 0) (v := (2147483648 + (j + 2))) (by decide +kernel) (by omega) (by decide) (by omega) (by omega) ?_
  refine x_scr (j := (j + 2)) hs (np := 677) (x := 0) (by decide +kernel) rfl (by omega) (by omega) ?_
  refine x_ifz (k := 0) (tg := 684) (np := 680) (by decide +kernel) (by decide) sv_lt (fun q1 => ?_) (fun q1 => ?_)
  · skip
    have q1 : (sv sc (j + 2)) = 2147483648 := q1
    refine x_const (np := 685) (x := 9223372039002259456) (a := 2147483648) (by decide +kernel) (by decide) (by decide) ?_
    refine x_aload (np := 686) (x := 3) (by decide +kernel) rfl (x_nc_le (by decide)) ?_
    have b2 : (sv sc (j + 1)) < 4294967296 := sv_lt
    refine x_cIc (t := 0) (mj := 292) (n := 4) (rc := 0) (ml := 5) (cc := 1) (ss := 6) (nr := 0) (np := 689) (as := [x_r 0, iv_c (sv sc (j + 1)), iv_c 2147483648, x_r 97]) (rest := []) (lo1 := [x_r 0, iv_c (sv sc (j + 1)), iv_c 2147483648, x_r 97, 147573952589676412928]) (by decide +kernel) (by decide) (x_cbV (by decide +kernel) (by show _ ≤ 600000; omega) (by show _ ≤ 7300000; omega)) (Or.inl rfl) rfl rfl (x_wr (by decide) (x_wi sv_lt (x_wi (by decide) (x_wr (by decide) x_wn)))) x_wn (by decide) rfl (c292_0_97 hJ (by omega) (by omega)) (fun r5 h3 l6 q4 => ?_)
    obtain ⟨j7, f8, g9⟩ := q4
    have q10 : h3 0 11 = h 0 11 := f8 0 11 (by decide +kernel)
    have q11 : h3 75 11 = h 75 11 := f8 75 11 (by decide +kernel)
    have q12 : h3 1 1 = h 1 1 := f8 1 1 (by decide +kernel)
    have q13 : h3 75 6 = h 75 6 := f8 75 6 (by decide +kernel)
    have q14 : h3 76 1 = h 76 1 := f8 76 1 (by decide +kernel)
    have q15 : h3 0 10 = h 0 10 := f8 0 10 (by decide +kernel)
    have q16 : h3 75 4 = h 75 4 := f8 75 4 (by decide +kernel)
    have m17 := WT.fr w76 hJ f8 (by decide)
    have m18 := WT.fr7 w77 hJ f8 (by decide)
    have m19 : h3 75 4 = 2147483649 → 2147483650 ≤ h3 77 0 := by
      rw [f8 75 4 (by decide +kernel), f8 77 0 (by decide +kernel)]
      exact hB
    have s21 := St.fr hS f8 hJ (by decide) (by decide) (by decide) (by decide) (by decide) (by decide)
    have u22 : h3 0 11 = h3 75 11 := by omega
    have t20 := Ty.fr hY f8 (by decide) (by decide)
    refine x_istore (np := 691) (x := 5) (lo' := [55340232221128654849, x_r 0, x_r 75, x_r 97, iv_c (2147483648 + j), iv_c r5, w6]) (by decide +kernel) l6 (Nat.le_of_ble_eq_true rfl) rfl ?_
    refine x_aload (np := 692) (x := 2) (by decide +kernel) rfl (x_nc_le (by decide)) ?_
    refine x_aloadS (np := 693) (x := 0) (by decide +kernel) rfl ?_
    refine x_iload (np := 695) (x := 4) (by decide +kernel) rfl (by omega) ?_
    refine x_const (np := 696) (x := 9223372043297226753) (a := 2147483649) (by decide +kernel) (by decide) (by decide) ?_
    refine x_iadd (np := 697) (x := 0) (v := (2147483648 + (j + 1))) (by decide +kernel) (by omega) (by decide) (by omega) (by omega) ?_
    refine x_scr (j := (j + 1)) hs (np := 698) (x := 0) (by decide +kernel) rfl (by omega) (by omega) ?_
    refine x_aloadS (np := 699) (x := 0) (by decide +kernel) rfl ?_
    refine x_iload (np := 701) (x := 4) (by decide +kernel) rfl (by omega) ?_
    refine x_const (np := 702) (x := 9223372047592194050) (a := 2147483650) (by decide +kernel) (by decide) (by decide) ?_
    refine x_iadd (np := 703) (x := 0) (v := (2147483648 + (j + 2))) (by decide +kernel) (by omega) (by decide) (by omega) (by omega) ?_
    refine x_scr (j := (j + 2)) hs (np := 704) (x := 0) (by decide +kernel) rfl (by omega) (by omega) ?_
    refine x_ifz (k := 0) (tg := 711) (np := 707) (by decide +kernel) (by decide) sv_lt (fun q23 => ?_) (fun q23 => ?_)
    · skip
      have q23 : (sv sc (j + 2)) = 2147483648 := q23
      refine x_const (np := 712) (x := 9223372039002259456) (a := 2147483648) (by decide +kernel) (by decide) (by decide) ?_
      have b24 : (sv sc (j + 1)) < 4294967296 := sv_lt
      refine x_cIc (t := 6) (mj := 224) (n := 3) (rc := 12) (ml := 5) (cc := 0) (ss := 0) (nr := 0) (np := 715) (as := [x_r 75, iv_c (sv sc (j + 1)), iv_c 2147483648]) (rest := []) (lo1 := [x_r 75, iv_c (sv sc (j + 1)), iv_c 2147483648, 147573952589676412928, 147573952589676412928]) (by decide +kernel) (by decide) (x_cbV (by decide +kernel) (by show _ ≤ 600000; omega) (by show _ ≤ 7300000; omega)) (x_rb_of (by decide +kernel)) rfl rfl (x_wr (by decide) (x_wi sv_lt (x_wi (by decide) x_wn))) x_wn (by decide) rfl (c224_75 j7 (by omega) (by omega) m17) (fun r27 h25 l28 q26 => ?_)
      obtain ⟨j29, f30, g31⟩ := q26
      have q32 : h25 0 11 = h3 0 11 := f30 0 11 (by decide +kernel)
      have q33 : h25 75 11 = h3 75 11 := f30 75 11 (by decide +kernel)
      have q34 : h25 1 1 = h3 1 1 := f30 1 1 (by decide +kernel)
      have q35 : h25 75 6 = h3 75 6 := f30 75 6 (by decide +kernel)
      have q36 : h25 76 1 = h3 76 1 := f30 76 1 (by decide +kernel)
      have q37 : h25 0 10 = h3 0 10 := f30 0 10 (by decide +kernel)
      have q38 : h25 75 4 = h3 75 4 := f30 75 4 (by decide +kernel)
      have m39 := WT.fr m17 j7 f30 (by decide)
      have m40 := WT.fr7 m18 j7 f30 (by decide)
      have m41 : h25 75 4 = 2147483649 → 2147483650 ≤ h25 77 0 := by
        rw [f30 75 4 (by decide +kernel), f30 77 0 (by decide +kernel)]
        exact m19
      have s43 := St.fr s21 f30 j7 (by decide) (by decide) (by decide) (by decide) (by decide) (by decide)
      have u44 : h25 0 11 = h25 75 11 := by omega
      have t42 := Ty.fr t20 f30 (by decide) (by decide)
      refine x_istore (np := 717) (x := 6) (lo' := [55340232221128654849, x_r 0, x_r 75, x_r 97, iv_c (2147483648 + j), iv_c r5, iv_c r27]) (by decide +kernel) l28 (Nat.le_of_ble_eq_true rfl) rfl ?_
      refine x_goto (np := 720) (x := 1369) (by decide +kernel) ?_
      exact k (c0 + 1) (s0 + 6) (iv_c r5) (iv_c r27) h25 (by omega) (by omega) ⟨⟨j29, by omega, m39, m40, m41, by omega⟩, t42, s43, u44⟩
    have q23 : ¬ ((sv sc (j + 2)) = 2147483648) := q23
    refine x_const (np := 708) (x := 9223372043297226753) (a := 2147483649) (by decide +kernel) (by decide) (by decide) ?_
    refine x_goto (np := 711) (x := 712) (by decide +kernel) ?_
    have b45 : (sv sc (j + 1)) < 4294967296 := sv_lt
    refine x_cIc (t := 6) (mj := 224) (n := 3) (rc := 12) (ml := 5) (cc := 0) (ss := 0) (nr := 0) (np := 715) (as := [x_r 75, iv_c (sv sc (j + 1)), iv_c 2147483649]) (rest := []) (lo1 := [x_r 75, iv_c (sv sc (j + 1)), iv_c 2147483649, 147573952589676412928, 147573952589676412928]) (by decide +kernel) (by decide) (x_cbV (by decide +kernel) (by show _ ≤ 600000; omega) (by show _ ≤ 7300000; omega)) (x_rb_of (by decide +kernel)) rfl rfl (x_wr (by decide) (x_wi sv_lt (x_wi (by decide) x_wn))) x_wn (by decide) rfl (c224_75 j7 (by omega) (by omega) m17) (fun r48 h46 l49 q47 => ?_)
    obtain ⟨j50, f51, g52⟩ := q47
    have q53 : h46 0 11 = h3 0 11 := f51 0 11 (by decide +kernel)
    have q54 : h46 75 11 = h3 75 11 := f51 75 11 (by decide +kernel)
    have q55 : h46 1 1 = h3 1 1 := f51 1 1 (by decide +kernel)
    have q56 : h46 75 6 = h3 75 6 := f51 75 6 (by decide +kernel)
    have q57 : h46 76 1 = h3 76 1 := f51 76 1 (by decide +kernel)
    have q58 : h46 0 10 = h3 0 10 := f51 0 10 (by decide +kernel)
    have q59 : h46 75 4 = h3 75 4 := f51 75 4 (by decide +kernel)
    have m60 := WT.fr m17 j7 f51 (by decide)
    have m61 := WT.fr7 m18 j7 f51 (by decide)
    have m62 : h46 75 4 = 2147483649 → 2147483650 ≤ h46 77 0 := by
      rw [f51 75 4 (by decide +kernel), f51 77 0 (by decide +kernel)]
      exact m19
    have s64 := St.fr s21 f51 j7 (by decide) (by decide) (by decide) (by decide) (by decide) (by decide)
    have u65 : h46 0 11 = h46 75 11 := by omega
    have t63 := Ty.fr t20 f51 (by decide) (by decide)
    refine x_istore (np := 717) (x := 6) (lo' := [55340232221128654849, x_r 0, x_r 75, x_r 97, iv_c (2147483648 + j), iv_c r5, iv_c r48]) (by decide +kernel) l49 (Nat.le_of_ble_eq_true rfl) rfl ?_
    refine x_goto (np := 720) (x := 1369) (by decide +kernel) ?_
    exact k (c0 + 1) (s0 + 6) (iv_c r5) (iv_c r48) h46 (by omega) (by omega) ⟨⟨j50, by omega, m60, m61, m62, by omega⟩, t63, s64, u65⟩
  have q1 : ¬ ((sv sc (j + 2)) = 2147483648) := q1
  refine x_const (np := 681) (x := 9223372043297226753) (a := 2147483649) (by decide +kernel) (by decide) (by decide) ?_
  refine x_goto (np := 684) (x := 685) (by decide +kernel) ?_
  refine x_aload (np := 686) (x := 3) (by decide +kernel) rfl (x_nc_le (by decide)) ?_
  have b66 : (sv sc (j + 1)) < 4294967296 := sv_lt
  refine x_cIc (t := 0) (mj := 292) (n := 4) (rc := 0) (ml := 5) (cc := 1) (ss := 6) (nr := 0) (np := 689) (as := [x_r 0, iv_c (sv sc (j + 1)), iv_c 2147483649, x_r 97]) (rest := []) (lo1 := [x_r 0, iv_c (sv sc (j + 1)), iv_c 2147483649, x_r 97, 147573952589676412928]) (by decide +kernel) (by decide) (x_cbV (by decide +kernel) (by show _ ≤ 600000; omega) (by show _ ≤ 7300000; omega)) (Or.inl rfl) rfl rfl (x_wr (by decide) (x_wi sv_lt (x_wi (by decide) (x_wr (by decide) x_wn)))) x_wn (by decide) rfl (c292_0_97 hJ (by omega) (by omega)) (fun r69 h67 l70 q68 => ?_)
  obtain ⟨j71, f72, g73⟩ := q68
  have q74 : h67 0 11 = h 0 11 := f72 0 11 (by decide +kernel)
  have q75 : h67 75 11 = h 75 11 := f72 75 11 (by decide +kernel)
  have q76 : h67 1 1 = h 1 1 := f72 1 1 (by decide +kernel)
  have q77 : h67 75 6 = h 75 6 := f72 75 6 (by decide +kernel)
  have q78 : h67 76 1 = h 76 1 := f72 76 1 (by decide +kernel)
  have q79 : h67 0 10 = h 0 10 := f72 0 10 (by decide +kernel)
  have q80 : h67 75 4 = h 75 4 := f72 75 4 (by decide +kernel)
  have m81 := WT.fr w76 hJ f72 (by decide)
  have m82 := WT.fr7 w77 hJ f72 (by decide)
  have m83 : h67 75 4 = 2147483649 → 2147483650 ≤ h67 77 0 := by
    rw [f72 75 4 (by decide +kernel), f72 77 0 (by decide +kernel)]
    exact hB
  have s85 := St.fr hS f72 hJ (by decide) (by decide) (by decide) (by decide) (by decide) (by decide)
  have u86 : h67 0 11 = h67 75 11 := by omega
  have t84 := Ty.fr hY f72 (by decide) (by decide)
  refine x_istore (np := 691) (x := 5) (lo' := [55340232221128654849, x_r 0, x_r 75, x_r 97, iv_c (2147483648 + j), iv_c r69, w6]) (by decide +kernel) l70 (Nat.le_of_ble_eq_true rfl) rfl ?_
  refine x_aload (np := 692) (x := 2) (by decide +kernel) rfl (x_nc_le (by decide)) ?_
  refine x_aloadS (np := 693) (x := 0) (by decide +kernel) rfl ?_
  refine x_iload (np := 695) (x := 4) (by decide +kernel) rfl (by omega) ?_
  refine x_const (np := 696) (x := 9223372043297226753) (a := 2147483649) (by decide +kernel) (by decide) (by decide) ?_
  refine x_iadd (np := 697) (x := 0) (v := (2147483648 + (j + 1))) (by decide +kernel) (by omega) (by decide) (by omega) (by omega) ?_
  refine x_scr (j := (j + 1)) hs (np := 698) (x := 0) (by decide +kernel) rfl (by omega) (by omega) ?_
  refine x_aloadS (np := 699) (x := 0) (by decide +kernel) rfl ?_
  refine x_iload (np := 701) (x := 4) (by decide +kernel) rfl (by omega) ?_
  refine x_const (np := 702) (x := 9223372047592194050) (a := 2147483650) (by decide +kernel) (by decide) (by decide) ?_
  refine x_iadd (np := 703) (x := 0) (v := (2147483648 + (j + 2))) (by decide +kernel) (by omega) (by decide) (by omega) (by omega) ?_
  refine x_scr (j := (j + 2)) hs (np := 704) (x := 0) (by decide +kernel) rfl (by omega) (by omega) ?_
  refine x_ifz (k := 0) (tg := 711) (np := 707) (by decide +kernel) (by decide) sv_lt (fun q87 => ?_) (fun q87 => ?_)
  · skip
    have q87 : (sv sc (j + 2)) = 2147483648 := q87
    refine x_const (np := 712) (x := 9223372039002259456) (a := 2147483648) (by decide +kernel) (by decide) (by decide) ?_
    have b88 : (sv sc (j + 1)) < 4294967296 := sv_lt
    refine x_cIc (t := 6) (mj := 224) (n := 3) (rc := 12) (ml := 5) (cc := 0) (ss := 0) (nr := 0) (np := 715) (as := [x_r 75, iv_c (sv sc (j + 1)), iv_c 2147483648]) (rest := []) (lo1 := [x_r 75, iv_c (sv sc (j + 1)), iv_c 2147483648, 147573952589676412928, 147573952589676412928]) (by decide +kernel) (by decide) (x_cbV (by decide +kernel) (by show _ ≤ 600000; omega) (by show _ ≤ 7300000; omega)) (x_rb_of (by decide +kernel)) rfl rfl (x_wr (by decide) (x_wi sv_lt (x_wi (by decide) x_wn))) x_wn (by decide) rfl (c224_75 j71 (by omega) (by omega) m81) (fun r91 h89 l92 q90 => ?_)
    obtain ⟨j93, f94, g95⟩ := q90
    have q96 : h89 0 11 = h67 0 11 := f94 0 11 (by decide +kernel)
    have q97 : h89 75 11 = h67 75 11 := f94 75 11 (by decide +kernel)
    have q98 : h89 1 1 = h67 1 1 := f94 1 1 (by decide +kernel)
    have q99 : h89 75 6 = h67 75 6 := f94 75 6 (by decide +kernel)
    have q100 : h89 76 1 = h67 76 1 := f94 76 1 (by decide +kernel)
    have q101 : h89 0 10 = h67 0 10 := f94 0 10 (by decide +kernel)
    have q102 : h89 75 4 = h67 75 4 := f94 75 4 (by decide +kernel)
    have m103 := WT.fr m81 j71 f94 (by decide)
    have m104 := WT.fr7 m82 j71 f94 (by decide)
    have m105 : h89 75 4 = 2147483649 → 2147483650 ≤ h89 77 0 := by
      rw [f94 75 4 (by decide +kernel), f94 77 0 (by decide +kernel)]
      exact m83
    have s107 := St.fr s85 f94 j71 (by decide) (by decide) (by decide) (by decide) (by decide) (by decide)
    have u108 : h89 0 11 = h89 75 11 := by omega
    have t106 := Ty.fr t84 f94 (by decide) (by decide)
    refine x_istore (np := 717) (x := 6) (lo' := [55340232221128654849, x_r 0, x_r 75, x_r 97, iv_c (2147483648 + j), iv_c r69, iv_c r91]) (by decide +kernel) l92 (Nat.le_of_ble_eq_true rfl) rfl ?_
    refine x_goto (np := 720) (x := 1369) (by decide +kernel) ?_
    exact k (c0 + 1) (s0 + 6) (iv_c r69) (iv_c r91) h89 (by omega) (by omega) ⟨⟨j93, by omega, m103, m104, m105, by omega⟩, t106, s107, u108⟩
  have q87 : ¬ ((sv sc (j + 2)) = 2147483648) := q87
  refine x_const (np := 708) (x := 9223372043297226753) (a := 2147483649) (by decide +kernel) (by decide) (by decide) ?_
  refine x_goto (np := 711) (x := 712) (by decide +kernel) ?_
  have b109 : (sv sc (j + 1)) < 4294967296 := sv_lt
  refine x_cIc (t := 6) (mj := 224) (n := 3) (rc := 12) (ml := 5) (cc := 0) (ss := 0) (nr := 0) (np := 715) (as := [x_r 75, iv_c (sv sc (j + 1)), iv_c 2147483649]) (rest := []) (lo1 := [x_r 75, iv_c (sv sc (j + 1)), iv_c 2147483649, 147573952589676412928, 147573952589676412928]) (by decide +kernel) (by decide) (x_cbV (by decide +kernel) (by show _ ≤ 600000; omega) (by show _ ≤ 7300000; omega)) (x_rb_of (by decide +kernel)) rfl rfl (x_wr (by decide) (x_wi sv_lt (x_wi (by decide) x_wn))) x_wn (by decide) rfl (c224_75 j71 (by omega) (by omega) m81) (fun r112 h110 l113 q111 => ?_)
  obtain ⟨j114, f115, g116⟩ := q111
  have q117 : h110 0 11 = h67 0 11 := f115 0 11 (by decide +kernel)
  have q118 : h110 75 11 = h67 75 11 := f115 75 11 (by decide +kernel)
  have q119 : h110 1 1 = h67 1 1 := f115 1 1 (by decide +kernel)
  have q120 : h110 75 6 = h67 75 6 := f115 75 6 (by decide +kernel)
  have q121 : h110 76 1 = h67 76 1 := f115 76 1 (by decide +kernel)
  have q122 : h110 0 10 = h67 0 10 := f115 0 10 (by decide +kernel)
  have q123 : h110 75 4 = h67 75 4 := f115 75 4 (by decide +kernel)
  have m124 := WT.fr m81 j71 f115 (by decide)
  have m125 := WT.fr7 m82 j71 f115 (by decide)
  have m126 : h110 75 4 = 2147483649 → 2147483650 ≤ h110 77 0 := by
    rw [f115 75 4 (by decide +kernel), f115 77 0 (by decide +kernel)]
    exact m83
  have s128 := St.fr s85 f115 j71 (by decide) (by decide) (by decide) (by decide) (by decide) (by decide)
  have u129 : h110 0 11 = h110 75 11 := by omega
  have t127 := Ty.fr t84 f115 (by decide) (by decide)
  refine x_istore (np := 717) (x := 6) (lo' := [55340232221128654849, x_r 0, x_r 75, x_r 97, iv_c (2147483648 + j), iv_c r69, iv_c r112]) (by decide +kernel) l113 (Nat.le_of_ble_eq_true rfl) rfl ?_
  refine x_goto (np := 720) (x := 1369) (by decide +kernel) ?_
  exact k (c0 + 1) (s0 + 6) (iv_c r69) (iv_c r112) h110 (by omega) (by omega) ⟨⟨j114, by omega, m124, m125, m126, by omega⟩, t127, s128, u129⟩
set_option maxHeartbeats 0 in
theorem lc_14 {sc : Nat × Nat} {d j c0 s0 w5 w6 : Nat} {h : xh} {Q : Nat → xh → Prop} (hs : scOK sc) (hI : INV5 h) (hj : j + 6 ≤ sc.1) (hc : c0 + 2 ≤ 600000) (hz : s0 + 12 ≤ 7300000) (k : ∀ c1 s1 v5 v6 h', c1 ≤ c0 + 2 → s1 ≤ s0 + 12 → INV5 h' → X sc 309 (d + 60) Q c1 s1 1369 [55340232221128654849, x_r 0, x_r 75, x_r 97, iv_c (2147483648 + j), v5, v6] [] h') : X sc 309 (d + 60) Q c0 s0 720 [55340232221128654849, x_r 0, x_r 75, x_r 97, iv_c (2147483648 + j), w5, w6] [] h := by
  obtain ⟨⟨hJ, hE, w76, w77, hB, hG⟩, hY, hS, hF⟩ := hI
  have h384 := hs.1
  have hS1 := hS.2.1 1 (by decide)
  have hS3 := hS.2.2.1
  refine x_aload (np := 721) (x := 1) (by decide +kernel) rfl (x_nc_le (by decide)) ?_
  refine x_aloadS (np := 722) (x := 0) (by decide +kernel) rfl ?_
  refine x_iload (np := 724) (x := 4) (by decide +kernel) rfl (by omega) ?_
  refine x_const (np := 725) (x := 9223372043297226753) (a := 2147483649) (by decide +kernel) (by decide) (by decide) ?_
  refine x_iadd (np := 726) (x := 0) (v := (2147483648 + (j + 1))) (by decide +kernel) (by omega) (by decide) (by omega) (by omega) ?_
  refine x_scr (j := (j + 1)) hs (np := 727) (x := 0) (by decide +kernel) rfl (by omega) (by omega) ?_
  refine x_aloadS (np := 728) (x := 0) (by decide +kernel) rfl ?_
  refine x_iload (np := 730) (x := 4) (by decide +kernel) rfl (by omega) ?_
  refine x_const (np := 731) (x := 9223372047592194050) (a := 2147483650) (by decide +kernel) (by decide) (by decide) ?_
  refine x_iadd (np := 732) (x := 0) (v := (2147483648 + (j + 2))) (by decide +kernel) (by omega) (by decide) (by omega) (by omega) ?_
  refine x_scr (j := (j + 2)) hs (np := 733) (x := 0) (by decide +kernel) rfl (by omega) (by omega) ?_
  refine x_aload (np := 734) (x := 3) (by decide +kernel) rfl (x_nc_le (by decide)) ?_
  have b1 : (sv sc (j + 1)) < 4294967296 := sv_lt
  have b2 : (sv sc (j + 2)) < 4294967296 := sv_lt
  refine x_cIc (t := 0) (mj := 293) (n := 4) (rc := 0) (ml := 5) (cc := 2) (ss := 12) (nr := 0) (np := 737) (as := [x_r 0, iv_c (sv sc (j + 1)), iv_c (sv sc (j + 2)), x_r 97]) (rest := []) (lo1 := [x_r 0, iv_c (sv sc (j + 1)), iv_c (sv sc (j + 2)), x_r 97, 147573952589676412928]) (by decide +kernel) (by decide) (x_cbV (by decide +kernel) (by show _ ≤ 600000; omega) (by show _ ≤ 7300000; omega)) (Or.inl rfl) rfl rfl (x_wr (by decide) (x_wi sv_lt (x_wi sv_lt (x_wr (by decide) x_wn)))) x_wn (by decide) rfl (c293_0_97 hJ (by omega) (by omega)) (fun r5 h3 l6 q4 => ?_)
  obtain ⟨j7, f8, g9⟩ := q4
  have q10 : h3 0 11 = h 0 11 := f8 0 11 (by decide +kernel)
  have q11 : h3 75 11 = h 75 11 := f8 75 11 (by decide +kernel)
  have q12 : h3 1 1 = h 1 1 := f8 1 1 (by decide +kernel)
  have q13 : h3 75 6 = h 75 6 := f8 75 6 (by decide +kernel)
  have q14 : h3 76 1 = h 76 1 := f8 76 1 (by decide +kernel)
  have q15 : h3 0 10 = h 0 10 := f8 0 10 (by decide +kernel)
  have q16 : h3 75 4 = h 75 4 := f8 75 4 (by decide +kernel)
  have m17 := WT.fr w76 hJ f8 (by decide)
  have m18 := WT.fr7 w77 hJ f8 (by decide)
  have m19 : h3 75 4 = 2147483649 → 2147483650 ≤ h3 77 0 := by
    rw [f8 75 4 (by decide +kernel), f8 77 0 (by decide +kernel)]
    exact hB
  have s21 := St.fr hS f8 hJ (by decide) (by decide) (by decide) (by decide) (by decide) (by decide)
  have u22 : h3 0 11 = h3 75 11 := by omega
  have t20 := Ty.fr hY f8 (by decide) (by decide)
  refine x_istore (np := 739) (x := 5) (lo' := [55340232221128654849, x_r 0, x_r 75, x_r 97, iv_c (2147483648 + j), iv_c r5, w6]) (by decide +kernel) l6 (Nat.le_of_ble_eq_true rfl) rfl ?_
  refine x_aload (np := 740) (x := 2) (by decide +kernel) rfl (x_nc_le (by decide)) ?_
  refine x_aloadS (np := 741) (x := 0) (by decide +kernel) rfl ?_
  refine x_iload (np := 743) (x := 4) (by decide +kernel) rfl (by omega) ?_
  refine x_const (np := 744) (x := 9223372043297226753) (a := 2147483649) (by decide +kernel) (by decide) (by decide) ?_
  refine x_iadd (np := 745) (x := 0) (v := (2147483648 + (j + 1))) (by decide +kernel) (by omega) (by decide) (by omega) (by omega) ?_
  refine x_scr (j := (j + 1)) hs (np := 746) (x := 0) (by decide +kernel) rfl (by omega) (by omega) ?_
  refine x_aloadS (np := 747) (x := 0) (by decide +kernel) rfl ?_
  refine x_iload (np := 749) (x := 4) (by decide +kernel) rfl (by omega) ?_
  refine x_const (np := 750) (x := 9223372047592194050) (a := 2147483650) (by decide +kernel) (by decide) (by decide) ?_
  refine x_iadd (np := 751) (x := 0) (v := (2147483648 + (j + 2))) (by decide +kernel) (by omega) (by decide) (by omega) (by omega) ?_
  refine x_scr (j := (j + 2)) hs (np := 752) (x := 0) (by decide +kernel) rfl (by omega) (by omega) ?_
  have b23 : (sv sc (j + 1)) < 4294967296 := sv_lt
  have b24 : (sv sc (j + 2)) < 4294967296 := sv_lt
  refine x_cIc (t := 6) (mj := 226) (n := 3) (rc := 12) (ml := 5) (cc := 0) (ss := 0) (nr := 0) (np := 755) (as := [x_r 75, iv_c (sv sc (j + 1)), iv_c (sv sc (j + 2))]) (rest := []) (lo1 := [x_r 75, iv_c (sv sc (j + 1)), iv_c (sv sc (j + 2)), 147573952589676412928, 147573952589676412928]) (by decide +kernel) (by decide) (x_cbV (by decide +kernel) (by show _ ≤ 600000; omega) (by show _ ≤ 7300000; omega)) (x_rb_of (by decide +kernel)) rfl rfl (x_wr (by decide) (x_wi sv_lt (x_wi sv_lt x_wn))) x_wn (by decide) rfl (c226_75 j7 (by omega) (by omega) m17) (fun r27 h25 l28 q26 => ?_)
  obtain ⟨j29, f30, g31⟩ := q26
  have q32 : h25 0 11 = h3 0 11 := f30 0 11 (by decide +kernel)
  have q33 : h25 75 11 = h3 75 11 := f30 75 11 (by decide +kernel)
  have q34 : h25 1 1 = h3 1 1 := f30 1 1 (by decide +kernel)
  have q35 : h25 75 6 = h3 75 6 := f30 75 6 (by decide +kernel)
  have q36 : h25 76 1 = h3 76 1 := f30 76 1 (by decide +kernel)
  have q37 : h25 0 10 = h3 0 10 := f30 0 10 (by decide +kernel)
  have q38 : h25 75 4 = h3 75 4 := f30 75 4 (by decide +kernel)
  have m39 := WT.fr m17 j7 f30 (by decide)
  have m40 := WT.fr7 m18 j7 f30 (by decide)
  have m41 : h25 75 4 = 2147483649 → 2147483650 ≤ h25 77 0 := by
    rw [f30 75 4 (by decide +kernel), f30 77 0 (by decide +kernel)]
    exact m19
  have s43 := St.fr s21 f30 j7 (by decide) (by decide) (by decide) (by decide) (by decide) (by decide)
  have u44 : h25 0 11 = h25 75 11 := by omega
  have t42 := Ty.fr t20 f30 (by decide) (by decide)
  refine x_istore (np := 757) (x := 6) (lo' := [55340232221128654849, x_r 0, x_r 75, x_r 97, iv_c (2147483648 + j), iv_c r5, iv_c r27]) (by decide +kernel) l28 (Nat.le_of_ble_eq_true rfl) rfl ?_
  refine x_goto (np := 760) (x := 1369) (by decide +kernel) ?_
  exact k (c0 + 2) (s0 + 12) (iv_c r5) (iv_c r27) h25 (by omega) (by omega) ⟨⟨j29, by omega, m39, m40, m41, by omega⟩, t42, s43, u44⟩
set_option maxHeartbeats 0 in
theorem lc_15 {sc : Nat × Nat} {d j c0 s0 w5 w6 : Nat} {h : xh} {Q : Nat → xh → Prop} (hs : scOK sc) (hI : INV5 h) (hj : j + 6 ≤ sc.1) (hc : c0 + 2 ≤ 600000) (hz : s0 + 12 ≤ 7300000) (k : ∀ c1 s1 v5 v6 h', c1 ≤ c0 + 2 → s1 ≤ s0 + 12 → INV5 h' → X sc 309 (d + 60) Q c1 s1 1369 [55340232221128654849, x_r 0, x_r 75, x_r 97, iv_c (2147483648 + j), v5, v6] [] h') : X sc 309 (d + 60) Q c0 s0 760 [55340232221128654849, x_r 0, x_r 75, x_r 97, iv_c (2147483648 + j), w5, w6] [] h := by
  obtain ⟨⟨hJ, hE, w76, w77, hB, hG⟩, hY, hS, hF⟩ := hI
  have h384 := hs.1
  have hS1 := hS.2.1 1 (by decide)
  have hS3 := hS.2.2.1
  refine x_aload (np := 761) (x := 1) (by decide +kernel) rfl (x_nc_le (by decide)) ?_
  refine x_aloadS (np := 762) (x := 0) (by decide +kernel) rfl ?_
  refine x_iload (np := 764) (x := 4) (by decide +kernel) rfl (by omega) ?_
  refine x_const (np := 765) (x := 9223372043297226753) (a := 2147483649) (by decide +kernel) (by decide) (by decide) ?_
  refine x_iadd (np := 766) (x := 0) (v := (2147483648 + (j + 1))) (by decide +kernel) (by omega) (by decide) (by omega) (by omega) ?_
  refine x_scr (j := (j + 1)) hs (np := 767) (x := 0) (by decide +kernel) rfl (by omega) (by omega) ?_
  refine x_aload (np := 768) (x := 3) (by decide +kernel) rfl (x_nc_le (by decide)) ?_
  have b1 : (sv sc (j + 1)) < 4294967296 := sv_lt
  refine x_cIc (t := 0) (mj := 294) (n := 3) (rc := 0) (ml := 4) (cc := 1) (ss := 6) (nr := 0) (np := 771) (as := [x_r 0, iv_c (sv sc (j + 1)), x_r 97]) (rest := []) (lo1 := [x_r 0, iv_c (sv sc (j + 1)), x_r 97, 147573952589676412928]) (by decide +kernel) (by decide) (x_cbV (by decide +kernel) (by show _ ≤ 600000; omega) (by show _ ≤ 7300000; omega)) (Or.inl rfl) rfl rfl (x_wr (by decide) (x_wi sv_lt (x_wr (by decide) x_wn))) x_wn (by decide) rfl (c294_0_97 hJ (by omega)) (fun r4 h2 l5 q3 => ?_)
  obtain ⟨j6, f7, g8⟩ := q3
  have q9 : h2 0 11 = h 0 11 := f7 0 11 (by decide +kernel)
  have q10 : h2 75 11 = h 75 11 := f7 75 11 (by decide +kernel)
  have q11 : h2 1 1 = h 1 1 := f7 1 1 (by decide +kernel)
  have q12 : h2 75 6 = h 75 6 := f7 75 6 (by decide +kernel)
  have q13 : h2 76 1 = h 76 1 := f7 76 1 (by decide +kernel)
  have q14 : h2 0 10 = h 0 10 := f7 0 10 (by decide +kernel)
  have q15 : h2 75 4 = h 75 4 := f7 75 4 (by decide +kernel)
  have m16 := WT.fr w76 hJ f7 (by decide)
  have m17 := WT.fr7 w77 hJ f7 (by decide)
  have m18 : h2 75 4 = 2147483649 → 2147483650 ≤ h2 77 0 := by
    rw [f7 75 4 (by decide +kernel), f7 77 0 (by decide +kernel)]
    exact hB
  have s20 := St.fr hS f7 hJ (by decide) (by decide) (by decide) (by decide) (by decide) (by decide)
  have u21 : h2 0 11 = h2 75 11 := by omega
  have t19 := Ty.fr hY f7 (by decide) (by decide)
  refine x_istore (np := 773) (x := 5) (lo' := [55340232221128654849, x_r 0, x_r 75, x_r 97, iv_c (2147483648 + j), iv_c r4, w6]) (by decide +kernel) l5 (Nat.le_of_ble_eq_true rfl) rfl ?_
  refine x_aload (np := 774) (x := 2) (by decide +kernel) rfl (x_nc_le (by decide)) ?_
  refine x_aloadS (np := 775) (x := 0) (by decide +kernel) rfl ?_
  refine x_iload (np := 777) (x := 4) (by decide +kernel) rfl (by omega) ?_
  refine x_const (np := 778) (x := 9223372043297226753) (a := 2147483649) (by decide +kernel) (by decide) (by decide) ?_
  refine x_iadd (np := 779) (x := 0) (v := (2147483648 + (j + 1))) (by decide +kernel) (by omega) (by decide) (by omega) (by omega) ?_
  refine x_scr (j := (j + 1)) hs (np := 780) (x := 0) (by decide +kernel) rfl (by omega) (by omega) ?_
  have b22 : (sv sc (j + 1)) < 4294967296 := sv_lt
  refine x_cIc (t := 6) (mj := 229) (n := 2) (rc := 12) (ml := 2) (cc := 0) (ss := 0) (nr := 0) (np := 783) (as := [x_r 75, iv_c (sv sc (j + 1))]) (rest := []) (lo1 := [x_r 75, iv_c (sv sc (j + 1))]) (by decide +kernel) (by decide) (x_cbV (by decide +kernel) (by show _ ≤ 600000; omega) (by show _ ≤ 7300000; omega)) (x_rb_of (by decide +kernel)) rfl rfl (x_wr (by decide) (x_wi sv_lt x_wn)) x_wn (by decide) rfl (c229_75 j6 (by omega) m16) (fun r25 h23 l26 q24 => ?_)
  obtain ⟨j27, f28, g29⟩ := q24
  have q30 : h23 0 11 = h2 0 11 := f28 0 11 (by decide +kernel)
  have q31 : h23 75 11 = h2 75 11 := f28 75 11 (by decide +kernel)
  have q32 : h23 1 1 = h2 1 1 := f28 1 1 (by decide +kernel)
  have q33 : h23 75 6 = h2 75 6 := f28 75 6 (by decide +kernel)
  have q34 : h23 76 1 = h2 76 1 := f28 76 1 (by decide +kernel)
  have q35 : h23 0 10 = h2 0 10 := f28 0 10 (by decide +kernel)
  have q36 : h23 75 4 = h2 75 4 := f28 75 4 (by decide +kernel)
  have m37 := WT.fr m16 j6 f28 (by decide)
  have m38 := WT.fr7 m17 j6 f28 (by decide)
  have m39 : h23 75 4 = 2147483649 → 2147483650 ≤ h23 77 0 := by
    rw [f28 75 4 (by decide +kernel), f28 77 0 (by decide +kernel)]
    exact m18
  have s41 := St.fr s20 f28 j6 (by decide) (by decide) (by decide) (by decide) (by decide) (by decide)
  have u42 : h23 0 11 = h23 75 11 := by omega
  have t40 := Ty.fr t19 f28 (by decide) (by decide)
  refine x_istore (np := 785) (x := 6) (lo' := [55340232221128654849, x_r 0, x_r 75, x_r 97, iv_c (2147483648 + j), iv_c r4, iv_c r25]) (by decide +kernel) l26 (Nat.le_of_ble_eq_true rfl) rfl ?_
  refine x_goto (np := 788) (x := 1369) (by decide +kernel) ?_
  exact k (c0 + 1) (s0 + 6) (iv_c r4) (iv_c r25) h23 (by omega) (by omega) ⟨⟨j27, by omega, m37, m38, m39, by omega⟩, t40, s41, u42⟩
set_option maxHeartbeats 0 in
theorem lc_16 {sc : Nat × Nat} {d j c0 s0 w5 w6 : Nat} {h : xh} {Q : Nat → xh → Prop} (hs : scOK sc) (hI : INV5 h) (hj : j + 6 ≤ sc.1) (hc : c0 + 2 ≤ 600000) (hz : s0 + 12 ≤ 7300000) (k : ∀ c1 s1 v5 v6 h', c1 ≤ c0 + 2 → s1 ≤ s0 + 12 → INV5 h' → X sc 309 (d + 60) Q c1 s1 1369 [55340232221128654849, x_r 0, x_r 75, x_r 97, iv_c (2147483648 + j), v5, v6] [] h') : X sc 309 (d + 60) Q c0 s0 788 [55340232221128654849, x_r 0, x_r 75, x_r 97, iv_c (2147483648 + j), w5, w6] [] h := by
  obtain ⟨⟨hJ, hE, w76, w77, hB, hG⟩, hY, hS, hF⟩ := hI
  have h384 := hs.1
  have hS1 := hS.2.1 1 (by decide)
  have hS3 := hS.2.2.1
  refine x_aload (np := 789) (x := 1) (by decide +kernel) rfl (x_nc_le (by decide)) ?_
  refine x_aloadS (np := 790) (x := 0) (by decide +kernel) rfl ?_
  refine x_iload (np := 792) (x := 4) (by decide +kernel) rfl (by omega) ?_
  refine x_const (np := 793) (x := 9223372043297226753) (a := 2147483649) (by decide +kernel) (by decide) (by decide) ?_
  refine x_iadd (np := 794) (x := 0) (v := (2147483648 + (j + 1))) (by decide +kernel) (by omega) (by decide) (by omega) (by omega) ?_
  refine x_scr (j := (j + 1)) hs (np := 795) (x := 0) (by decide +kernel) rfl (by omega) (by omega) ?_
  refine x_aload (np := 796) (x := 3) (by decide +kernel) rfl (x_nc_le (by decide)) ?_
  have b1 : (sv sc (j + 1)) < 4294967296 := sv_lt
  refine x_cIc (t := 0) (mj := 295) (n := 3) (rc := 0) (ml := 4) (cc := 1) (ss := 6) (nr := 0) (np := 799) (as := [x_r 0, iv_c (sv sc (j + 1)), x_r 97]) (rest := []) (lo1 := [x_r 0, iv_c (sv sc (j + 1)), x_r 97, 147573952589676412928]) (by decide +kernel) (by decide) (x_cbV (by decide +kernel) (by show _ ≤ 600000; omega) (by show _ ≤ 7300000; omega)) (Or.inl rfl) rfl rfl (x_wr (by decide) (x_wi sv_lt (x_wr (by decide) x_wn))) x_wn (by decide) rfl (c295_0_97 hJ (by omega)) (fun r4 h2 l5 q3 => ?_)
  obtain ⟨j6, f7, g8⟩ := q3
  have q9 : h2 0 11 = h 0 11 := f7 0 11 (by decide +kernel)
  have q10 : h2 75 11 = h 75 11 := f7 75 11 (by decide +kernel)
  have q11 : h2 1 1 = h 1 1 := f7 1 1 (by decide +kernel)
  have q12 : h2 75 6 = h 75 6 := f7 75 6 (by decide +kernel)
  have q13 : h2 76 1 = h 76 1 := f7 76 1 (by decide +kernel)
  have q14 : h2 0 10 = h 0 10 := f7 0 10 (by decide +kernel)
  have q15 : h2 75 4 = h 75 4 := f7 75 4 (by decide +kernel)
  have m16 := WT.fr w76 hJ f7 (by decide)
  have m17 := WT.fr7 w77 hJ f7 (by decide)
  have m18 : h2 75 4 = 2147483649 → 2147483650 ≤ h2 77 0 := by
    rw [f7 75 4 (by decide +kernel), f7 77 0 (by decide +kernel)]
    exact hB
  have s20 := St.fr hS f7 hJ (by decide) (by decide) (by decide) (by decide) (by decide) (by decide)
  have u21 : h2 0 11 = h2 75 11 := by omega
  have t19 := Ty.fr hY f7 (by decide) (by decide)
  refine x_istore (np := 801) (x := 5) (lo' := [55340232221128654849, x_r 0, x_r 75, x_r 97, iv_c (2147483648 + j), iv_c r4, w6]) (by decide +kernel) l5 (Nat.le_of_ble_eq_true rfl) rfl ?_
  refine x_aload (np := 802) (x := 2) (by decide +kernel) rfl (x_nc_le (by decide)) ?_
  refine x_aloadS (np := 803) (x := 0) (by decide +kernel) rfl ?_
  refine x_iload (np := 805) (x := 4) (by decide +kernel) rfl (by omega) ?_
  refine x_const (np := 806) (x := 9223372043297226753) (a := 2147483649) (by decide +kernel) (by decide) (by decide) ?_
  refine x_iadd (np := 807) (x := 0) (v := (2147483648 + (j + 1))) (by decide +kernel) (by omega) (by decide) (by omega) (by omega) ?_
  refine x_scr (j := (j + 1)) hs (np := 808) (x := 0) (by decide +kernel) rfl (by omega) (by omega) ?_
  have b22 : (sv sc (j + 1)) < 4294967296 := sv_lt
  refine x_cIc (t := 6) (mj := 230) (n := 2) (rc := 12) (ml := 4) (cc := 0) (ss := 0) (nr := 0) (np := 811) (as := [x_r 75, iv_c (sv sc (j + 1))]) (rest := []) (lo1 := [x_r 75, iv_c (sv sc (j + 1)), 147573952589676412928, 147573952589676412928]) (by decide +kernel) (by decide) (x_cbV (by decide +kernel) (by show _ ≤ 600000; omega) (by show _ ≤ 7300000; omega)) (x_rb_of (by decide +kernel)) rfl rfl (x_wr (by decide) (x_wi sv_lt x_wn)) x_wn (by decide) rfl (c230_75 j6 (by omega) m16) (fun r25 h23 l26 q24 => ?_)
  obtain ⟨j27, f28, g29⟩ := q24
  have q30 : h23 0 11 = h2 0 11 := f28 0 11 (by decide +kernel)
  have q31 : h23 75 11 = h2 75 11 := f28 75 11 (by decide +kernel)
  have q32 : h23 1 1 = h2 1 1 := f28 1 1 (by decide +kernel)
  have q33 : h23 75 6 = h2 75 6 := f28 75 6 (by decide +kernel)
  have q34 : h23 76 1 = h2 76 1 := f28 76 1 (by decide +kernel)
  have q35 : h23 0 10 = h2 0 10 := f28 0 10 (by decide +kernel)
  have q36 : h23 75 4 = h2 75 4 := f28 75 4 (by decide +kernel)
  have m37 := WT.fr m16 j6 f28 (by decide)
  have m38 := WT.fr7 m17 j6 f28 (by decide)
  have m39 : h23 75 4 = 2147483649 → 2147483650 ≤ h23 77 0 := by
    rw [f28 75 4 (by decide +kernel), f28 77 0 (by decide +kernel)]
    exact m18
  have s41 := St.fr s20 f28 j6 (by decide) (by decide) (by decide) (by decide) (by decide) (by decide)
  have u42 : h23 0 11 = h23 75 11 := by omega
  have t40 := Ty.fr t19 f28 (by decide) (by decide)
  refine x_istore (np := 813) (x := 6) (lo' := [55340232221128654849, x_r 0, x_r 75, x_r 97, iv_c (2147483648 + j), iv_c r4, iv_c r25]) (by decide +kernel) l26 (Nat.le_of_ble_eq_true rfl) rfl ?_
  refine x_goto (np := 816) (x := 1369) (by decide +kernel) ?_
  exact k (c0 + 1) (s0 + 6) (iv_c r4) (iv_c r25) h23 (by omega) (by omega) ⟨⟨j27, by omega, m37, m38, m39, by omega⟩, t40, s41, u42⟩
set_option maxHeartbeats 0 in
theorem lc_17 {sc : Nat × Nat} {d j c0 s0 w5 w6 : Nat} {h : xh} {Q : Nat → xh → Prop} (hs : scOK sc) (hI : INV5 h) (hj : j + 6 ≤ sc.1) (hc : c0 + 2 ≤ 600000) (hz : s0 + 12 ≤ 7300000) (k : ∀ c1 s1 v5 v6 h', c1 ≤ c0 + 2 → s1 ≤ s0 + 12 → INV5 h' → X sc 309 (d + 60) Q c1 s1 1369 [55340232221128654849, x_r 0, x_r 75, x_r 97, iv_c (2147483648 + j), v5, v6] [] h') : X sc 309 (d + 60) Q c0 s0 816 [55340232221128654849, x_r 0, x_r 75, x_r 97, iv_c (2147483648 + j), w5, w6] [] h := by
  obtain ⟨⟨hJ, hE, w76, w77, hB, hG⟩, hY, hS, hF⟩ := hI
  have h384 := hs.1
  have hS1 := hS.2.1 1 (by decide)
  have hS3 := hS.2.2.1
  refine x_aload (np := 817) (x := 1) (by decide +kernel) rfl (x_nc_le (by decide)) ?_
  refine x_aload (np := 818) (x := 3) (by decide +kernel) rfl (x_nc_le (by decide)) ?_
  refine x_cIc (t := 0) (mj := 296) (n := 2) (rc := 0) (ml := 3) (cc := 1) (ss := 6) (nr := 0) (np := 821) (as := [x_r 0, x_r 97]) (rest := []) (lo1 := [x_r 0, x_r 97, 147573952589676412928]) (by decide +kernel) (by decide) (x_cbV (by decide +kernel) (by show _ ≤ 600000; omega) (by show _ ≤ 7300000; omega)) (Or.inl rfl) rfl rfl (x_wr (by decide) (x_wr (by decide) x_wn)) x_wn (by decide) rfl (c296_0_97 hJ (Ty.tp (h := h)) hS.1) (fun r3 h1 l4 q2 => ?_)
  obtain ⟨j5, f6, g7, g8, g9, g10, g11, g12⟩ := q2
  have q13 : h1 75 11 = h 75 11 := f6 75 11 (by decide +kernel)
  have q14 : h1 75 6 = h 75 6 := f6 75 6 (by decide +kernel)
  have q15 : h1 76 1 = h 76 1 := f6 76 1 (by decide +kernel)
  have q16 : h1 0 10 = h 0 10 := f6 0 10 (by decide +kernel)
  have q17 : h1 75 4 = h 75 4 := f6 75 4 (by decide +kernel)
  have m18 := WT.fr w76 hJ f6 (by decide)
  have m19 := WT.fr7 w77 hJ f6 (by decide)
  have m20 : h1 75 4 = 2147483649 → 2147483650 ≤ h1 77 0 := by
    rw [f6 75 4 (by decide +kernel), f6 77 0 (by decide +kernel)]
    exact hB
  have t21 := Ty.fr hY f6 (by decide) (by decide)
  refine x_istore (np := 823) (x := 5) (lo' := [55340232221128654849, x_r 0, x_r 75, x_r 97, iv_c (2147483648 + j), iv_c r3, w6]) (by decide +kernel) l4 (Nat.le_of_ble_eq_true rfl) rfl ?_
  refine x_aload (np := 824) (x := 2) (by decide +kernel) rfl (x_nc_le (by decide)) ?_
  refine x_cIc (t := 6) (mj := 196) (n := 1) (rc := 12) (ml := 3) (cc := 0) (ss := 0) (nr := 0) (np := 827) (as := [x_r 75]) (rest := []) (lo1 := [x_r 75, 147573952589676412928, 147573952589676412928]) (by decide +kernel) (by decide) (x_cbV (by decide +kernel) (by show _ ≤ 600000; omega) (by show _ ≤ 7300000; omega)) (x_rb_of (by decide +kernel)) rfl rfl (x_wr (by decide) x_wn) x_wn (by decide) rfl (c196_75 j5 m18 (Ty.tr (n := h 1 1) hY f6 (by decide) (by omega))) (fun r26 h24 l27 q25 => ?_)
  obtain ⟨j28, f29, g30, g31, g32, g33, g34⟩ := q25
  have q35 : h24 0 11 = h1 0 11 := f29 0 11 (by decide +kernel)
  have q36 : h24 1 1 = h1 1 1 := f29 1 1 (by decide +kernel)
  have q37 : h24 76 1 = h1 76 1 := f29 76 1 (by decide +kernel)
  have q38 : h24 0 10 = h1 0 10 := f29 0 10 (by decide +kernel)
  have q39 : h24 75 4 = h1 75 4 := f29 75 4 (by decide +kernel)
  have m41 := WT.fr7 m19 j5 f29 (by decide)
  have m42 : h24 75 4 = 2147483649 → 2147483650 ≤ h24 77 0 := by
    rw [f29 75 4 (by decide +kernel), f29 77 0 (by decide +kernel)]
    exact m20
  obtain ⟨al8, al9⟩ := cu_alike g9 g33
  have q44 : h24 97 0 = h1 97 0 := f29 97 0 (by decide +kernel)
  have s45 := St.custom hS g10 g11 j5 f6 (by decide) (by decide) (by decide) (by decide) f29 (by decide) (by decide) (by decide) (by decide) (by decide) (by decide)
  have u46 := Fo.cu g12 g34 al8 f29 (by decide)
  have t43 := Ty.fr t21 f29 (by decide) (by decide)
  refine x_istore (np := 829) (x := 6) (lo' := [55340232221128654849, x_r 0, x_r 75, x_r 97, iv_c (2147483648 + j), iv_c r3, iv_c r26]) (by decide +kernel) l27 (Nat.le_of_ble_eq_true rfl) rfl ?_
  refine x_goto (np := 832) (x := 1369) (by decide +kernel) ?_
  exact k (c0 + 1) (s0 + 6) (iv_c r3) (iv_c r26) h24 (by omega) (by omega) ⟨⟨j28, by omega, g32, m41, m42, by omega⟩, t43, s45, u46⟩
set_option maxHeartbeats 0 in
theorem lc_18 {sc : Nat × Nat} {d j c0 s0 w5 w6 : Nat} {h : xh} {Q : Nat → xh → Prop} (hs : scOK sc) (hI : INV5 h) (hj : j + 6 ≤ sc.1) (hc : c0 + 2 ≤ 600000) (hz : s0 + 12 ≤ 7300000) (k : ∀ c1 s1 v5 v6 h', c1 ≤ c0 + 2 → s1 ≤ s0 + 12 → INV5 h' → X sc 309 (d + 60) Q c1 s1 1369 [55340232221128654849, x_r 0, x_r 75, x_r 97, iv_c (2147483648 + j), v5, v6] [] h') : X sc 309 (d + 60) Q c0 s0 832 [55340232221128654849, x_r 0, x_r 75, x_r 97, iv_c (2147483648 + j), w5, w6] [] h := by
  obtain ⟨⟨hJ, hE, w76, w77, hB, hG⟩, hY, hS, hF⟩ := hI
  have h384 := hs.1
  have hS1 := hS.2.1 1 (by decide)
  have hS3 := hS.2.2.1
  refine x_aload (np := 833) (x := 1) (by decide +kernel) rfl (x_nc_le (by decide)) ?_
  refine x_aloadS (np := 834) (x := 0) (by decide +kernel) rfl ?_
  refine x_iload (np := 836) (x := 4) (by decide +kernel) rfl (by omega) ?_
  refine x_const (np := 837) (x := 9223372043297226753) (a := 2147483649) (by decide +kernel) (by decide) (by decide) ?_
  refine x_iadd (np := 838) (x := 0) (v := (2147483648 + (j + 1))) (by decide +kernel) (by omega) (by decide) (by omega) (by omega) ?_
  refine x_scr (j := (j + 1)) hs (np := 839) (x := 0) (by decide +kernel) rfl (by omega) (by omega) ?_
  refine x_aloadS (np := 840) (x := 0) (by decide +kernel) rfl ?_
  refine x_iload (np := 842) (x := 4) (by decide +kernel) rfl (by omega) ?_
  refine x_const (np := 843) (x := 9223372047592194050) (a := 2147483650) (by decide +kernel) (by decide) (by decide) ?_
  refine x_iadd (np := 844) (x := 0) (v := (2147483648 + (j + 2))) (by decide +kernel) (by omega) (by decide) (by omega) (by omega) ?_
  refine x_scr (j := (j + 2)) hs (np := 845) (x := 0) (by decide +kernel) rfl (by omega) (by omega) ?_
  refine x_aload (np := 846) (x := 3) (by decide +kernel) rfl (x_nc_le (by decide)) ?_
  have b1 : (sv sc (j + 1)) < 4294967296 := sv_lt
  have b2 : (sv sc (j + 2)) < 4294967296 := sv_lt
  refine x_cIc (t := 0) (mj := 297) (n := 4) (rc := 0) (ml := 5) (cc := 2) (ss := 12) (nr := 0) (np := 849) (as := [x_r 0, iv_c (sv sc (j + 1)), iv_c (sv sc (j + 2)), x_r 97]) (rest := []) (lo1 := [x_r 0, iv_c (sv sc (j + 1)), iv_c (sv sc (j + 2)), x_r 97, 147573952589676412928]) (by decide +kernel) (by decide) (x_cbV (by decide +kernel) (by show _ ≤ 600000; omega) (by show _ ≤ 7300000; omega)) (Or.inl rfl) rfl rfl (x_wr (by decide) (x_wi sv_lt (x_wi sv_lt (x_wr (by decide) x_wn)))) x_wn (by decide) rfl (c297_0_97 hJ (by omega) (by omega)) (fun r5 h3 l6 q4 => ?_)
  obtain ⟨j7, f8, g9⟩ := q4
  have q10 : h3 0 11 = h 0 11 := f8 0 11 (by decide +kernel)
  have q11 : h3 75 11 = h 75 11 := f8 75 11 (by decide +kernel)
  have q12 : h3 1 1 = h 1 1 := f8 1 1 (by decide +kernel)
  have q13 : h3 75 6 = h 75 6 := f8 75 6 (by decide +kernel)
  have q14 : h3 76 1 = h 76 1 := f8 76 1 (by decide +kernel)
  have q15 : h3 0 10 = h 0 10 := f8 0 10 (by decide +kernel)
  have q16 : h3 75 4 = h 75 4 := f8 75 4 (by decide +kernel)
  have m17 := WT.fr w76 hJ f8 (by decide)
  have m18 := WT.fr7 w77 hJ f8 (by decide)
  have m19 : h3 75 4 = 2147483649 → 2147483650 ≤ h3 77 0 := by
    rw [f8 75 4 (by decide +kernel), f8 77 0 (by decide +kernel)]
    exact hB
  have s21 := St.fr hS f8 hJ (by decide) (by decide) (by decide) (by decide) (by decide) (by decide)
  have u22 : h3 0 11 = h3 75 11 := by omega
  have t20 := Ty.fr hY f8 (by decide) (by decide)
  refine x_istore (np := 851) (x := 5) (lo' := [55340232221128654849, x_r 0, x_r 75, x_r 97, iv_c (2147483648 + j), iv_c r5, w6]) (by decide +kernel) l6 (Nat.le_of_ble_eq_true rfl) rfl ?_
  refine x_aload (np := 852) (x := 2) (by decide +kernel) rfl (x_nc_le (by decide)) ?_
  refine x_aloadS (np := 853) (x := 0) (by decide +kernel) rfl ?_
  refine x_iload (np := 855) (x := 4) (by decide +kernel) rfl (by omega) ?_
  refine x_const (np := 856) (x := 9223372043297226753) (a := 2147483649) (by decide +kernel) (by decide) (by decide) ?_
  refine x_iadd (np := 857) (x := 0) (v := (2147483648 + (j + 1))) (by decide +kernel) (by omega) (by decide) (by omega) (by omega) ?_
  refine x_scr (j := (j + 1)) hs (np := 858) (x := 0) (by decide +kernel) rfl (by omega) (by omega) ?_
  refine x_aloadS (np := 859) (x := 0) (by decide +kernel) rfl ?_
  refine x_iload (np := 861) (x := 4) (by decide +kernel) rfl (by omega) ?_
  refine x_const (np := 862) (x := 9223372047592194050) (a := 2147483650) (by decide +kernel) (by decide) (by decide) ?_
  refine x_iadd (np := 863) (x := 0) (v := (2147483648 + (j + 2))) (by decide +kernel) (by omega) (by decide) (by omega) (by omega) ?_
  refine x_scr (j := (j + 2)) hs (np := 864) (x := 0) (by decide +kernel) rfl (by omega) (by omega) ?_
  have b23 : (sv sc (j + 1)) < 4294967296 := sv_lt
  have b24 : (sv sc (j + 2)) < 4294967296 := sv_lt
  refine x_cIc (t := 6) (mj := 231) (n := 3) (rc := 12) (ml := 4) (cc := 0) (ss := 0) (nr := 0) (np := 867) (as := [x_r 75, iv_c (sv sc (j + 1)), iv_c (sv sc (j + 2))]) (rest := []) (lo1 := [x_r 75, iv_c (sv sc (j + 1)), iv_c (sv sc (j + 2)), 147573952589676412928]) (by decide +kernel) (by decide) (x_cbV (by decide +kernel) (by show _ ≤ 600000; omega) (by show _ ≤ 7300000; omega)) (x_rb_of (by decide +kernel)) rfl rfl (x_wr (by decide) (x_wi sv_lt (x_wi sv_lt x_wn))) x_wn (by decide) rfl (c231_75 j7 (by omega) (by omega) m17) (fun r27 h25 l28 q26 => ?_)
  obtain ⟨j29, f30, g31, g32⟩ := q26
  have q33 : h25 0 11 = h3 0 11 := f30 0 11 (by decide +kernel)
  have q34 : h25 75 11 = h3 75 11 := f30 75 11 (by decide +kernel)
  have q35 : h25 1 1 = h3 1 1 := f30 1 1 (by decide +kernel)
  have q36 : h25 75 6 = h3 75 6 := f30 75 6 (by decide +kernel)
  have q37 : h25 76 1 = h3 76 1 := f30 76 1 (by decide +kernel)
  have q38 : h25 0 10 = h3 0 10 := f30 0 10 (by decide +kernel)
  have q39 : h25 75 4 = h3 75 4 := f30 75 4 (by decide +kernel)
  have m40 := WT.fr m17 j7 f30 (by decide)
  have m41 := WT.fr7 m18 j7 f30 (by decide)
  have m42 : h25 75 4 = 2147483649 → 2147483650 ≤ h25 77 0 := by
    rw [f30 75 4 (by decide +kernel), f30 77 0 (by decide +kernel)]
    exact m19
  have s44 := St.fr s21 f30 j7 (by decide) (by decide) (by decide) (by decide) (by decide) (by decide)
  have u45 : h25 0 11 = h25 75 11 := by omega
  have t43 := Ty.fr t20 f30 (by decide) (by decide)
  refine x_istore (np := 869) (x := 6) (lo' := [55340232221128654849, x_r 0, x_r 75, x_r 97, iv_c (2147483648 + j), iv_c r5, iv_c r27]) (by decide +kernel) l28 (Nat.le_of_ble_eq_true rfl) rfl ?_
  refine x_goto (np := 872) (x := 1369) (by decide +kernel) ?_
  exact k (c0 + 2) (s0 + 12) (iv_c r5) (iv_c r27) h25 (by omega) (by omega) ⟨⟨j29, by omega, m40, m41, m42, by omega⟩, t43, s44, u45⟩
set_option maxHeartbeats 0 in
theorem lc_19 {sc : Nat × Nat} {d j c0 s0 w5 w6 : Nat} {h : xh} {Q : Nat → xh → Prop} (hs : scOK sc) (hI : INV5 h) (hj : j + 6 ≤ sc.1) (hc : c0 + 2 ≤ 600000) (hz : s0 + 12 ≤ 7300000) (k : ∀ c1 s1 v5 v6 h', c1 ≤ c0 + 2 → s1 ≤ s0 + 12 → INV5 h' → X sc 309 (d + 60) Q c1 s1 1369 [55340232221128654849, x_r 0, x_r 75, x_r 97, iv_c (2147483648 + j), v5, v6] [] h') : X sc 309 (d + 60) Q c0 s0 872 [55340232221128654849, x_r 0, x_r 75, x_r 97, iv_c (2147483648 + j), w5, w6] [] h := by
  obtain ⟨⟨hJ, hE, w76, w77, hB, hG⟩, hY, hS, hF⟩ := hI
  have h384 := hs.1
  have hS1 := hS.2.1 1 (by decide)
  have hS3 := hS.2.2.1
  refine x_aload (np := 873) (x := 1) (by decide +kernel) rfl (x_nc_le (by decide)) ?_
  refine x_aloadS (np := 874) (x := 0) (by decide +kernel) rfl ?_
  refine x_iload (np := 876) (x := 4) (by decide +kernel) rfl (by omega) ?_
  refine x_const (np := 877) (x := 9223372043297226753) (a := 2147483649) (by decide +kernel) (by decide) (by decide) ?_
  refine x_iadd (np := 878) (x := 0) (v := (2147483648 + (j + 1))) (by decide +kernel) (by omega) (by decide) (by omega) (by omega) ?_
  refine x_scr (j := (j + 1)) hs (np := 879) (x := 0) (by decide +kernel) rfl (by omega) (by omega) ?_
  refine x_aload (np := 880) (x := 3) (by decide +kernel) rfl (x_nc_le (by decide)) ?_
  have b1 : (sv sc (j + 1)) < 4294967296 := sv_lt
  refine x_cIc (t := 0) (mj := 298) (n := 3) (rc := 0) (ml := 4) (cc := 1) (ss := 6) (nr := 0) (np := 883) (as := [x_r 0, iv_c (sv sc (j + 1)), x_r 97]) (rest := []) (lo1 := [x_r 0, iv_c (sv sc (j + 1)), x_r 97, 147573952589676412928]) (by decide +kernel) (by decide) (x_cbV (by decide +kernel) (by show _ ≤ 600000; omega) (by show _ ≤ 7300000; omega)) (Or.inl rfl) rfl rfl (x_wr (by decide) (x_wi sv_lt (x_wr (by decide) x_wn))) x_wn (by decide) rfl (c298_0_97 hJ (by omega)) (fun r4 h2 l5 q3 => ?_)
  obtain ⟨j6, f7, g8⟩ := q3
  have q9 : h2 0 11 = h 0 11 := f7 0 11 (by decide +kernel)
  have q10 : h2 75 11 = h 75 11 := f7 75 11 (by decide +kernel)
  have q11 : h2 1 1 = h 1 1 := f7 1 1 (by decide +kernel)
  have q12 : h2 75 6 = h 75 6 := f7 75 6 (by decide +kernel)
  have q13 : h2 76 1 = h 76 1 := f7 76 1 (by decide +kernel)
  have q14 : h2 0 10 = h 0 10 := f7 0 10 (by decide +kernel)
  have q15 : h2 75 4 = h 75 4 := f7 75 4 (by decide +kernel)
  have m16 := WT.fr w76 hJ f7 (by decide)
  have m17 := WT.fr7 w77 hJ f7 (by decide)
  have m18 : h2 75 4 = 2147483649 → 2147483650 ≤ h2 77 0 := by
    rw [f7 75 4 (by decide +kernel), f7 77 0 (by decide +kernel)]
    exact hB
  have s20 := St.fr hS f7 hJ (by decide) (by decide) (by decide) (by decide) (by decide) (by decide)
  have u21 : h2 0 11 = h2 75 11 := by omega
  have t19 := Ty.fr hY f7 (by decide) (by decide)
  refine x_istore (np := 885) (x := 5) (lo' := [55340232221128654849, x_r 0, x_r 75, x_r 97, iv_c (2147483648 + j), iv_c r4, w6]) (by decide +kernel) l5 (Nat.le_of_ble_eq_true rfl) rfl ?_
  refine x_aload (np := 886) (x := 2) (by decide +kernel) rfl (x_nc_le (by decide)) ?_
  refine x_aloadS (np := 887) (x := 0) (by decide +kernel) rfl ?_
  refine x_iload (np := 889) (x := 4) (by decide +kernel) rfl (by omega) ?_
  refine x_const (np := 890) (x := 9223372043297226753) (a := 2147483649) (by decide +kernel) (by decide) (by decide) ?_
  refine x_iadd (np := 891) (x := 0) (v := (2147483648 + (j + 1))) (by decide +kernel) (by omega) (by decide) (by omega) (by omega) ?_
  refine x_scr (j := (j + 1)) hs (np := 892) (x := 0) (by decide +kernel) rfl (by omega) (by omega) ?_
  have b22 : (sv sc (j + 1)) < 4294967296 := sv_lt
  refine x_cIc (t := 6) (mj := 233) (n := 2) (rc := 12) (ml := 2) (cc := 0) (ss := 0) (nr := 0) (np := 895) (as := [x_r 75, iv_c (sv sc (j + 1))]) (rest := []) (lo1 := [x_r 75, iv_c (sv sc (j + 1))]) (by decide +kernel) (by decide) (x_cbV (by decide +kernel) (by show _ ≤ 600000; omega) (by show _ ≤ 7300000; omega)) (x_rb_of (by decide +kernel)) rfl rfl (x_wr (by decide) (x_wi sv_lt x_wn)) x_wn (by decide) rfl (c233_75 j6 (by omega) m16) (fun r25 h23 l26 q24 => ?_)
  obtain ⟨j27, f28, g29⟩ := q24
  have q30 : h23 0 11 = h2 0 11 := f28 0 11 (by decide +kernel)
  have q31 : h23 75 11 = h2 75 11 := f28 75 11 (by decide +kernel)
  have q32 : h23 1 1 = h2 1 1 := f28 1 1 (by decide +kernel)
  have q33 : h23 75 6 = h2 75 6 := f28 75 6 (by decide +kernel)
  have q34 : h23 76 1 = h2 76 1 := f28 76 1 (by decide +kernel)
  have q35 : h23 0 10 = h2 0 10 := f28 0 10 (by decide +kernel)
  have q36 : h23 75 4 = h2 75 4 := f28 75 4 (by decide +kernel)
  have m37 := WT.fr m16 j6 f28 (by decide)
  have m38 := WT.fr7 m17 j6 f28 (by decide)
  have m39 : h23 75 4 = 2147483649 → 2147483650 ≤ h23 77 0 := by
    rw [f28 75 4 (by decide +kernel), f28 77 0 (by decide +kernel)]
    exact m18
  have s41 := St.fr s20 f28 j6 (by decide) (by decide) (by decide) (by decide) (by decide) (by decide)
  have u42 : h23 0 11 = h23 75 11 := by omega
  have t40 := Ty.fr t19 f28 (by decide) (by decide)
  refine x_istore (np := 897) (x := 6) (lo' := [55340232221128654849, x_r 0, x_r 75, x_r 97, iv_c (2147483648 + j), iv_c r4, iv_c r25]) (by decide +kernel) l26 (Nat.le_of_ble_eq_true rfl) rfl ?_
  refine x_goto (np := 900) (x := 1369) (by decide +kernel) ?_
  exact k (c0 + 1) (s0 + 6) (iv_c r4) (iv_c r25) h23 (by omega) (by omega) ⟨⟨j27, by omega, m37, m38, m39, by omega⟩, t40, s41, u42⟩
set_option maxHeartbeats 0 in
theorem lc_20 {sc : Nat × Nat} {d j c0 s0 w5 w6 : Nat} {h : xh} {Q : Nat → xh → Prop} (hs : scOK sc) (hI : INV5 h) (hj : j + 6 ≤ sc.1) (hc : c0 + 2 ≤ 600000) (hz : s0 + 12 ≤ 7300000) (k : ∀ c1 s1 v5 v6 h', c1 ≤ c0 + 2 → s1 ≤ s0 + 12 → INV5 h' → X sc 309 (d + 60) Q c1 s1 1369 [55340232221128654849, x_r 0, x_r 75, x_r 97, iv_c (2147483648 + j), v5, v6] [] h') : X sc 309 (d + 60) Q c0 s0 900 [55340232221128654849, x_r 0, x_r 75, x_r 97, iv_c (2147483648 + j), w5, w6] [] h := by
  obtain ⟨⟨hJ, hE, w76, w77, hB, hG⟩, hY, hS, hF⟩ := hI
  have h384 := hs.1
  have hS1 := hS.2.1 1 (by decide)
  have hS3 := hS.2.2.1
  refine x_aload (np := 901) (x := 1) (by decide +kernel) rfl (x_nc_le (by decide)) ?_
  refine x_cIc (t := 6) (mj := 132) (n := 1) (rc := 11) (ml := 1) (cc := 0) (ss := 0) (nr := 0) (np := 904) (as := [x_r 0]) (rest := []) (lo1 := [x_r 0]) (by decide +kernel) (by decide) (x_cbV (by decide +kernel) (by show _ ≤ 600000; omega) (by show _ ≤ 7300000; omega)) (x_rb_of (by decide +kernel)) rfl rfl (x_wr (by decide) x_wn) x_wn (by decide) rfl (c132_0 hJ) (fun r3 h1 l4 q2 => ?_)
  obtain ⟨j5, f6, g7⟩ := q2
  have q8 : h1 0 11 = h 0 11 := f6 0 11 (by decide +kernel)
  have q9 : h1 75 11 = h 75 11 := f6 75 11 (by decide +kernel)
  have q10 : h1 1 1 = h 1 1 := f6 1 1 (by decide +kernel)
  have q11 : h1 75 6 = h 75 6 := f6 75 6 (by decide +kernel)
  have q12 : h1 76 1 = h 76 1 := f6 76 1 (by decide +kernel)
  have q13 : h1 0 10 = h 0 10 := f6 0 10 (by decide +kernel)
  have q14 : h1 75 4 = h 75 4 := f6 75 4 (by decide +kernel)
  have m15 := WT.fr w76 hJ f6 (by decide)
  have m16 := WT.fr7 w77 hJ f6 (by decide)
  have m17 : h1 75 4 = 2147483649 → 2147483650 ≤ h1 77 0 := by
    rw [f6 75 4 (by decide +kernel), f6 77 0 (by decide +kernel)]
    exact hB
  have s19 := St.fr hS f6 hJ (by decide) (by decide) (by decide) (by decide) (by decide) (by decide)
  have u20 : h1 0 11 = h1 75 11 := by omega
  have t18 := Ty.fr hY f6 (by decide) (by decide)
  refine x_pop (by decide +kernel) l4 ?_
  refine x_aload (np := 906) (x := 2) (by decide +kernel) rfl (x_nc_le (by decide)) ?_
  refine x_cIc (t := 6) (mj := 234) (n := 1) (rc := 12) (ml := 1) (cc := 0) (ss := 0) (nr := 0) (np := 909) (as := [x_r 75]) (rest := []) (lo1 := [x_r 75]) (by decide +kernel) (by decide) (x_cbV (by decide +kernel) (by show _ ≤ 600000; omega) (by show _ ≤ 7300000; omega)) (x_rb_of (by decide +kernel)) rfl rfl (x_wr (by decide) x_wn) x_wn (by decide) rfl (c234_75 j5 m15) (fun r23 h21 l24 q22 => ?_)
  obtain ⟨j25, f26, g27⟩ := q22
  have q28 : h21 0 11 = h1 0 11 := f26 0 11 (by decide +kernel)
  have q29 : h21 75 11 = h1 75 11 := f26 75 11 (by decide +kernel)
  have q30 : h21 1 1 = h1 1 1 := f26 1 1 (by decide +kernel)
  have q31 : h21 75 6 = h1 75 6 := f26 75 6 (by decide +kernel)
  have q32 : h21 76 1 = h1 76 1 := f26 76 1 (by decide +kernel)
  have q33 : h21 0 10 = h1 0 10 := f26 0 10 (by decide +kernel)
  have q34 : h21 75 4 = h1 75 4 := f26 75 4 (by decide +kernel)
  have m35 := WT.fr m15 j5 f26 (by decide)
  have m36 := WT.fr7 m16 j5 f26 (by decide)
  have m37 : h21 75 4 = 2147483649 → 2147483650 ≤ h21 77 0 := by
    rw [f26 75 4 (by decide +kernel), f26 77 0 (by decide +kernel)]
    exact m17
  have s39 := St.fr s19 f26 j5 (by decide) (by decide) (by decide) (by decide) (by decide) (by decide)
  have u40 : h21 0 11 = h21 75 11 := by omega
  have t38 := Ty.fr t18 f26 (by decide) (by decide)
  refine x_pop (by decide +kernel) l24 ?_
  refine x_goto (np := 913) (x := 1369) (by decide +kernel) ?_
  exact k c0 s0 w5 w6 h21 (by omega) (by omega) ⟨⟨j25, by omega, m35, m36, m37, by omega⟩, t38, s39, u40⟩
set_option maxHeartbeats 0 in
theorem lc_21 {sc : Nat × Nat} {d j c0 s0 w5 w6 : Nat} {h : xh} {Q : Nat → xh → Prop} (hs : scOK sc) (hI : INV5 h) (hj : j + 6 ≤ sc.1) (hc : c0 + 2 ≤ 600000) (hz : s0 + 12 ≤ 7300000) (k : ∀ c1 s1 v5 v6 h', c1 ≤ c0 + 2 → s1 ≤ s0 + 12 → INV5 h' → X sc 309 (d + 60) Q c1 s1 1369 [55340232221128654849, x_r 0, x_r 75, x_r 97, iv_c (2147483648 + j), v5, v6] [] h') : X sc 309 (d + 60) Q c0 s0 913 [55340232221128654849, x_r 0, x_r 75, x_r 97, iv_c (2147483648 + j), w5, w6] [] h := by
  obtain ⟨⟨hJ, hE, w76, w77, hB, hG⟩, hY, hS, hF⟩ := hI
  have h384 := hs.1
  have hS1 := hS.2.1 1 (by decide)
  have hS3 := hS.2.2.1
  refine x_aload (np := 914) (x := 1) (by decide +kernel) rfl (x_nc_le (by decide)) ?_
  refine x_aloadS (np := 915) (x := 0) (by decide +kernel) rfl ?_
  refine x_iload (np := 917) (x := 4) (by decide +kernel) rfl (by omega) ?_
  refine x_const (np := 918) (x := 9223372043297226753) (a := 2147483649) (by decide +kernel) (by decide) (by decide) ?_
  refine x_iadd (np := 919) (x := 0) (v := (2147483648 + (j + 1))) (by decide +kernel) (by omega) (by decide) (by omega) (by omega) ?_
  refine x_scr (j := (j + 1)) hs (np := 920) (x := 0) (by decide +kernel) rfl (by omega) (by omega) ?_
  refine x_aload (np := 921) (x := 3) (by decide +kernel) rfl (x_nc_le (by decide)) ?_
  have b1 : (sv sc (j + 1)) < 4294967296 := sv_lt
  refine x_cIc (t := 0) (mj := 299) (n := 3) (rc := 0) (ml := 4) (cc := 1) (ss := 6) (nr := 0) (np := 924) (as := [x_r 0, iv_c (sv sc (j + 1)), x_r 97]) (rest := []) (lo1 := [x_r 0, iv_c (sv sc (j + 1)), x_r 97, 147573952589676412928]) (by decide +kernel) (by decide) (x_cbV (by decide +kernel) (by show _ ≤ 600000; omega) (by show _ ≤ 7300000; omega)) (Or.inl rfl) rfl rfl (x_wr (by decide) (x_wi sv_lt (x_wr (by decide) x_wn))) x_wn (by decide) rfl (c299_0_97 hJ (by omega)) (fun r4 h2 l5 q3 => ?_)
  obtain ⟨j6, f7, g8⟩ := q3
  have q9 : h2 0 11 = h 0 11 := f7 0 11 (by decide +kernel)
  have q10 : h2 75 11 = h 75 11 := f7 75 11 (by decide +kernel)
  have q11 : h2 1 1 = h 1 1 := f7 1 1 (by decide +kernel)
  have q12 : h2 75 6 = h 75 6 := f7 75 6 (by decide +kernel)
  have q13 : h2 76 1 = h 76 1 := f7 76 1 (by decide +kernel)
  have q14 : h2 0 10 = h 0 10 := f7 0 10 (by decide +kernel)
  have q15 : h2 75 4 = h 75 4 := f7 75 4 (by decide +kernel)
  have m16 := WT.fr w76 hJ f7 (by decide)
  have m17 := WT.fr7 w77 hJ f7 (by decide)
  have m18 : h2 75 4 = 2147483649 → 2147483650 ≤ h2 77 0 := by
    rw [f7 75 4 (by decide +kernel), f7 77 0 (by decide +kernel)]
    exact hB
  have s20 := St.fr hS f7 hJ (by decide) (by decide) (by decide) (by decide) (by decide) (by decide)
  have u21 : h2 0 11 = h2 75 11 := by omega
  have t19 := Ty.fr hY f7 (by decide) (by decide)
  refine x_istore (np := 926) (x := 5) (lo' := [55340232221128654849, x_r 0, x_r 75, x_r 97, iv_c (2147483648 + j), iv_c r4, w6]) (by decide +kernel) l5 (Nat.le_of_ble_eq_true rfl) rfl ?_
  refine x_aload (np := 927) (x := 2) (by decide +kernel) rfl (x_nc_le (by decide)) ?_
  refine x_aloadS (np := 928) (x := 0) (by decide +kernel) rfl ?_
  refine x_iload (np := 930) (x := 4) (by decide +kernel) rfl (by omega) ?_
  refine x_const (np := 931) (x := 9223372043297226753) (a := 2147483649) (by decide +kernel) (by decide) (by decide) ?_
  refine x_iadd (np := 932) (x := 0) (v := (2147483648 + (j + 1))) (by decide +kernel) (by omega) (by decide) (by omega) (by omega) ?_
  refine x_scr (j := (j + 1)) hs (np := 933) (x := 0) (by decide +kernel) rfl (by omega) (by omega) ?_
  have b22 : (sv sc (j + 1)) < 4294967296 := sv_lt
  refine x_cIc (t := 6) (mj := 235) (n := 2) (rc := 12) (ml := 4) (cc := 0) (ss := 0) (nr := 0) (np := 936) (as := [x_r 75, iv_c (sv sc (j + 1))]) (rest := []) (lo1 := [x_r 75, iv_c (sv sc (j + 1)), 147573952589676412928, 147573952589676412928]) (by decide +kernel) (by decide) (x_cbV (by decide +kernel) (by show _ ≤ 600000; omega) (by show _ ≤ 7300000; omega)) (x_rb_of (by decide +kernel)) rfl rfl (x_wr (by decide) (x_wi sv_lt x_wn)) x_wn (by decide) rfl (c235_75 j6 (by omega) m16) (fun r25 h23 l26 q24 => ?_)
  obtain ⟨j27, f28, g29⟩ := q24
  have q30 : h23 0 11 = h2 0 11 := f28 0 11 (by decide +kernel)
  have q31 : h23 75 11 = h2 75 11 := f28 75 11 (by decide +kernel)
  have q32 : h23 1 1 = h2 1 1 := f28 1 1 (by decide +kernel)
  have q33 : h23 75 6 = h2 75 6 := f28 75 6 (by decide +kernel)
  have q34 : h23 76 1 = h2 76 1 := f28 76 1 (by decide +kernel)
  have q35 : h23 0 10 = h2 0 10 := f28 0 10 (by decide +kernel)
  have q36 : h23 75 4 = h2 75 4 := f28 75 4 (by decide +kernel)
  have m37 := WT.fr m16 j6 f28 (by decide)
  have m38 := WT.fr7 m17 j6 f28 (by decide)
  have m39 : h23 75 4 = 2147483649 → 2147483650 ≤ h23 77 0 := by
    rw [f28 75 4 (by decide +kernel), f28 77 0 (by decide +kernel)]
    exact m18
  have s41 := St.fr s20 f28 j6 (by decide) (by decide) (by decide) (by decide) (by decide) (by decide)
  have u42 : h23 0 11 = h23 75 11 := by omega
  have t40 := Ty.fr t19 f28 (by decide) (by decide)
  refine x_istore (np := 938) (x := 6) (lo' := [55340232221128654849, x_r 0, x_r 75, x_r 97, iv_c (2147483648 + j), iv_c r4, iv_c r25]) (by decide +kernel) l26 (Nat.le_of_ble_eq_true rfl) rfl ?_
  refine x_goto (np := 941) (x := 1369) (by decide +kernel) ?_
  exact k (c0 + 1) (s0 + 6) (iv_c r4) (iv_c r25) h23 (by omega) (by omega) ⟨⟨j27, by omega, m37, m38, m39, by omega⟩, t40, s41, u42⟩
set_option maxHeartbeats 0 in
theorem lc_22 {sc : Nat × Nat} {d j c0 s0 w5 w6 : Nat} {h : xh} {Q : Nat → xh → Prop} (hs : scOK sc) (hI : INV5 h) (hj : j + 6 ≤ sc.1) (hc : c0 + 2 ≤ 600000) (hz : s0 + 12 ≤ 7300000) (k : ∀ c1 s1 v5 v6 h', c1 ≤ c0 + 2 → s1 ≤ s0 + 12 → INV5 h' → X sc 309 (d + 60) Q c1 s1 1369 [55340232221128654849, x_r 0, x_r 75, x_r 97, iv_c (2147483648 + j), v5, v6] [] h') : X sc 309 (d + 60) Q c0 s0 941 [55340232221128654849, x_r 0, x_r 75, x_r 97, iv_c (2147483648 + j), w5, w6] [] h := by
  obtain ⟨⟨hJ, hE, w76, w77, hB, hG⟩, hY, hS, hF⟩ := hI
  have h384 := hs.1
  have hS1 := hS.2.1 1 (by decide)
  have hS3 := hS.2.2.1
  refine x_aload (np := 942) (x := 1) (by decide +kernel) rfl (x_nc_le (by decide)) ?_
  refine x_aloadS (np := 943) (x := 0) (by decide +kernel) rfl ?_
  refine x_iload (np := 945) (x := 4) (by decide +kernel) rfl (by omega) ?_
  refine x_const (np := 946) (x := 9223372043297226753) (a := 2147483649) (by decide +kernel) (by decide) (by decide) ?_
  refine x_iadd (np := 947) (x := 0) (v := (2147483648 + (j + 1))) (by decide +kernel) (by omega) (by decide) (by omega) (by omega) ?_
  refine x_scr (j := (j + 1)) hs (np := 948) (x := 0) (by decide +kernel) rfl (by omega) (by omega) ?_
  refine x_aloadS (np := 949) (x := 0) (by decide +kernel) rfl ?_
  refine x_iload (np := 951) (x := 4) (by decide +kernel) rfl (by omega) ?_
  refine x_const (np := 952) (x := 9223372047592194050) (a := 2147483650) (by decide +kernel) (by decide) (by decide) ?_
  refine x_iadd (np := 953) (x := 0) (v := (2147483648 + (j + 2))) (by decide +kernel) (by omega) (by decide) (by omega) (by omega) ?_
  refine x_scr (j := (j + 2)) hs (np := 954) (x := 0) (by decide +kernel) rfl (by omega) (by omega) ?_
  refine x_ifz (k := 0) (tg := 961) (np := 957) (by decide +kernel) (by decide) sv_lt (fun q1 => ?_) (fun q1 => ?_)
  · skip
    have q1 : (sv sc (j + 2)) = 2147483648 := q1
    refine x_const (np := 962) (x := 9223372039002259456) (a := 2147483648) (by decide +kernel) (by decide) (by decide) ?_
    refine x_aload (np := 963) (x := 3) (by decide +kernel) rfl (x_nc_le (by decide)) ?_
    have b2 : (sv sc (j + 1)) < 4294967296 := sv_lt
    refine x_cIc (t := 0) (mj := 300) (n := 4) (rc := 0) (ml := 5) (cc := 1) (ss := 6) (nr := 0) (np := 966) (as := [x_r 0, iv_c (sv sc (j + 1)), iv_c 2147483648, x_r 97]) (rest := []) (lo1 := [x_r 0, iv_c (sv sc (j + 1)), iv_c 2147483648, x_r 97, 147573952589676412928]) (by decide +kernel) (by decide) (x_cbV (by decide +kernel) (by show _ ≤ 600000; omega) (by show _ ≤ 7300000; omega)) (Or.inl rfl) rfl rfl (x_wr (by decide) (x_wi sv_lt (x_wi (by decide) (x_wr (by decide) x_wn)))) x_wn (by decide) rfl (c300_0_97 hJ (by omega) (by omega)) (fun r5 h3 l6 q4 => ?_)
    obtain ⟨j7, f8, g9⟩ := q4
    have q10 : h3 0 11 = h 0 11 := f8 0 11 (by decide +kernel)
    have q11 : h3 75 11 = h 75 11 := f8 75 11 (by decide +kernel)
    have q12 : h3 1 1 = h 1 1 := f8 1 1 (by decide +kernel)
    have q13 : h3 75 6 = h 75 6 := f8 75 6 (by decide +kernel)
    have q14 : h3 76 1 = h 76 1 := f8 76 1 (by decide +kernel)
    have q15 : h3 0 10 = h 0 10 := f8 0 10 (by decide +kernel)
    have q16 : h3 75 4 = h 75 4 := f8 75 4 (by decide +kernel)
    have m17 := WT.fr w76 hJ f8 (by decide)
    have m18 := WT.fr7 w77 hJ f8 (by decide)
    have m19 : h3 75 4 = 2147483649 → 2147483650 ≤ h3 77 0 := by
      rw [f8 75 4 (by decide +kernel), f8 77 0 (by decide +kernel)]
      exact hB
    have s21 := St.fr hS f8 hJ (by decide) (by decide) (by decide) (by decide) (by decide) (by decide)
    have u22 : h3 0 11 = h3 75 11 := by omega
    have t20 := Ty.fr hY f8 (by decide) (by decide)
    refine x_istore (np := 968) (x := 5) (lo' := [55340232221128654849, x_r 0, x_r 75, x_r 97, iv_c (2147483648 + j), iv_c r5, w6]) (by decide +kernel) l6 (Nat.le_of_ble_eq_true rfl) rfl ?_
    refine x_aload (np := 969) (x := 2) (by decide +kernel) rfl (x_nc_le (by decide)) ?_
    refine x_aloadS (np := 970) (x := 0) (by decide +kernel) rfl ?_
    refine x_iload (np := 972) (x := 4) (by decide +kernel) rfl (by omega) ?_
    refine x_const (np := 973) (x := 9223372043297226753) (a := 2147483649) (by decide +kernel) (by decide) (by decide) ?_
    refine x_iadd (np := 974) (x := 0) (v := (2147483648 + (j + 1))) (by decide +kernel) (by omega) (by decide) (by omega) (by omega) ?_
    refine x_scr (j := (j + 1)) hs (np := 975) (x := 0) (by decide +kernel) rfl (by omega) (by omega) ?_
    refine x_aloadS (np := 976) (x := 0) (by decide +kernel) rfl ?_
    refine x_iload (np := 978) (x := 4) (by decide +kernel) rfl (by omega) ?_
    refine x_const (np := 979) (x := 9223372047592194050) (a := 2147483650) (by decide +kernel) (by decide) (by decide) ?_
    refine x_iadd (np := 980) (x := 0) (v := (2147483648 + (j + 2))) (by decide +kernel) (by omega) (by decide) (by omega) (by omega) ?_
    refine x_scr (j := (j + 2)) hs (np := 981) (x := 0) (by decide +kernel) rfl (by omega) (by omega) ?_
    refine x_ifz (k := 0) (tg := 988) (np := 984) (by decide +kernel) (by decide) sv_lt (fun q23 => ?_) (fun q23 => ?_)
    · skip
      have q23 : (sv sc (j + 2)) = 2147483648 := q23
      refine x_const (np := 989) (x := 9223372039002259456) (a := 2147483648) (by decide +kernel) (by decide) (by decide) ?_
      have b24 : (sv sc (j + 1)) < 4294967296 := sv_lt
      refine x_cIc (t := 6) (mj := 237) (n := 3) (rc := 12) (ml := 5) (cc := 0) (ss := 0) (nr := 0) (np := 992) (as := [x_r 75, iv_c (sv sc (j + 1)), iv_c 2147483648]) (rest := []) (lo1 := [x_r 75, iv_c (sv sc (j + 1)), iv_c 2147483648, 147573952589676412928, 147573952589676412928]) (by decide +kernel) (by decide) (x_cbV (by decide +kernel) (by show _ ≤ 600000; omega) (by show _ ≤ 7300000; omega)) (x_rb_of (by decide +kernel)) rfl rfl (x_wr (by decide) (x_wi sv_lt (x_wi (by decide) x_wn))) x_wn (by decide) rfl (c237_75 j7 (by omega) (by omega) m17) (fun r27 h25 l28 q26 => ?_)
      obtain ⟨j29, f30, g31⟩ := q26
      have q32 : h25 0 11 = h3 0 11 := f30 0 11 (by decide +kernel)
      have q33 : h25 75 11 = h3 75 11 := f30 75 11 (by decide +kernel)
      have q34 : h25 1 1 = h3 1 1 := f30 1 1 (by decide +kernel)
      have q35 : h25 75 6 = h3 75 6 := f30 75 6 (by decide +kernel)
      have q36 : h25 76 1 = h3 76 1 := f30 76 1 (by decide +kernel)
      have q37 : h25 0 10 = h3 0 10 := f30 0 10 (by decide +kernel)
      have q38 : h25 75 4 = h3 75 4 := f30 75 4 (by decide +kernel)
      have m39 := WT.fr m17 j7 f30 (by decide)
      have m40 := WT.fr7 m18 j7 f30 (by decide)
      have m41 : h25 75 4 = 2147483649 → 2147483650 ≤ h25 77 0 := by
        rw [f30 75 4 (by decide +kernel), f30 77 0 (by decide +kernel)]
        exact m19
      have s43 := St.fr s21 f30 j7 (by decide) (by decide) (by decide) (by decide) (by decide) (by decide)
      have u44 : h25 0 11 = h25 75 11 := by omega
      have t42 := Ty.fr t20 f30 (by decide) (by decide)
      refine x_istore (np := 994) (x := 6) (lo' := [55340232221128654849, x_r 0, x_r 75, x_r 97, iv_c (2147483648 + j), iv_c r5, iv_c r27]) (by decide +kernel) l28 (Nat.le_of_ble_eq_true rfl) rfl ?_
      refine x_goto (np := 997) (x := 1369) (by decide +kernel) ?_
      exact k (c0 + 1) (s0 + 6) (iv_c r5) (iv_c r27) h25 (by omega) (by omega) ⟨⟨j29, by omega, m39, m40, m41, by omega⟩, t42, s43, u44⟩
    have q23 : ¬ ((sv sc (j + 2)) = 2147483648) := q23
    refine x_const (np := 985) (x := 9223372043297226753) (a := 2147483649) (by decide +kernel) (by decide) (by decide) ?_
    refine x_goto (np := 988) (x := 989) (by decide +kernel) ?_
    have b45 : (sv sc (j + 1)) < 4294967296 := sv_lt
    refine x_cIc (t := 6) (mj := 237) (n := 3) (rc := 12) (ml := 5) (cc := 0) (ss := 0) (nr := 0) (np := 992) (as := [x_r 75, iv_c (sv sc (j + 1)), iv_c 2147483649]) (rest := []) (lo1 := [x_r 75, iv_c (sv sc (j + 1)), iv_c 2147483649, 147573952589676412928, 147573952589676412928]) (by decide +kernel) (by decide) (x_cbV (by decide +kernel) (by show _ ≤ 600000; omega) (by show _ ≤ 7300000; omega)) (x_rb_of (by decide +kernel)) rfl rfl (x_wr (by decide) (x_wi sv_lt (x_wi (by decide) x_wn))) x_wn (by decide) rfl (c237_75 j7 (by omega) (by omega) m17) (fun r48 h46 l49 q47 => ?_)
    obtain ⟨j50, f51, g52⟩ := q47
    have q53 : h46 0 11 = h3 0 11 := f51 0 11 (by decide +kernel)
    have q54 : h46 75 11 = h3 75 11 := f51 75 11 (by decide +kernel)
    have q55 : h46 1 1 = h3 1 1 := f51 1 1 (by decide +kernel)
    have q56 : h46 75 6 = h3 75 6 := f51 75 6 (by decide +kernel)
    have q57 : h46 76 1 = h3 76 1 := f51 76 1 (by decide +kernel)
    have q58 : h46 0 10 = h3 0 10 := f51 0 10 (by decide +kernel)
    have q59 : h46 75 4 = h3 75 4 := f51 75 4 (by decide +kernel)
    have m60 := WT.fr m17 j7 f51 (by decide)
    have m61 := WT.fr7 m18 j7 f51 (by decide)
    have m62 : h46 75 4 = 2147483649 → 2147483650 ≤ h46 77 0 := by
      rw [f51 75 4 (by decide +kernel), f51 77 0 (by decide +kernel)]
      exact m19
    have s64 := St.fr s21 f51 j7 (by decide) (by decide) (by decide) (by decide) (by decide) (by decide)
    have u65 : h46 0 11 = h46 75 11 := by omega
    have t63 := Ty.fr t20 f51 (by decide) (by decide)
    refine x_istore (np := 994) (x := 6) (lo' := [55340232221128654849, x_r 0, x_r 75, x_r 97, iv_c (2147483648 + j), iv_c r5, iv_c r48]) (by decide +kernel) l49 (Nat.le_of_ble_eq_true rfl) rfl ?_
    refine x_goto (np := 997) (x := 1369) (by decide +kernel) ?_
    exact k (c0 + 1) (s0 + 6) (iv_c r5) (iv_c r48) h46 (by omega) (by omega) ⟨⟨j50, by omega, m60, m61, m62, by omega⟩, t63, s64, u65⟩
  have q1 : ¬ ((sv sc (j + 2)) = 2147483648) := q1
  refine x_const (np := 958) (x := 9223372043297226753) (a := 2147483649) (by decide +kernel) (by decide) (by decide) ?_
  refine x_goto (np := 961) (x := 962) (by decide +kernel) ?_
  refine x_aload (np := 963) (x := 3) (by decide +kernel) rfl (x_nc_le (by decide)) ?_
  have b66 : (sv sc (j + 1)) < 4294967296 := sv_lt
  refine x_cIc (t := 0) (mj := 300) (n := 4) (rc := 0) (ml := 5) (cc := 1) (ss := 6) (nr := 0) (np := 966) (as := [x_r 0, iv_c (sv sc (j + 1)), iv_c 2147483649, x_r 97]) (rest := []) (lo1 := [x_r 0, iv_c (sv sc (j + 1)), iv_c 2147483649, x_r 97, 147573952589676412928]) (by decide +kernel) (by decide) (x_cbV (by decide +kernel) (by show _ ≤ 600000; omega) (by show _ ≤ 7300000; omega)) (Or.inl rfl) rfl rfl (x_wr (by decide) (x_wi sv_lt (x_wi (by decide) (x_wr (by decide) x_wn)))) x_wn (by decide) rfl (c300_0_97 hJ (by omega) (by omega)) (fun r69 h67 l70 q68 => ?_)
  obtain ⟨j71, f72, g73⟩ := q68
  have q74 : h67 0 11 = h 0 11 := f72 0 11 (by decide +kernel)
  have q75 : h67 75 11 = h 75 11 := f72 75 11 (by decide +kernel)
  have q76 : h67 1 1 = h 1 1 := f72 1 1 (by decide +kernel)
  have q77 : h67 75 6 = h 75 6 := f72 75 6 (by decide +kernel)
  have q78 : h67 76 1 = h 76 1 := f72 76 1 (by decide +kernel)
  have q79 : h67 0 10 = h 0 10 := f72 0 10 (by decide +kernel)
  have q80 : h67 75 4 = h 75 4 := f72 75 4 (by decide +kernel)
  have m81 := WT.fr w76 hJ f72 (by decide)
  have m82 := WT.fr7 w77 hJ f72 (by decide)
  have m83 : h67 75 4 = 2147483649 → 2147483650 ≤ h67 77 0 := by
    rw [f72 75 4 (by decide +kernel), f72 77 0 (by decide +kernel)]
    exact hB
  have s85 := St.fr hS f72 hJ (by decide) (by decide) (by decide) (by decide) (by decide) (by decide)
  have u86 : h67 0 11 = h67 75 11 := by omega
  have t84 := Ty.fr hY f72 (by decide) (by decide)
  refine x_istore (np := 968) (x := 5) (lo' := [55340232221128654849, x_r 0, x_r 75, x_r 97, iv_c (2147483648 + j), iv_c r69, w6]) (by decide +kernel) l70 (Nat.le_of_ble_eq_true rfl) rfl ?_
  refine x_aload (np := 969) (x := 2) (by decide +kernel) rfl (x_nc_le (by decide)) ?_
  refine x_aloadS (np := 970) (x := 0) (by decide +kernel) rfl ?_
  refine x_iload (np := 972) (x := 4) (by decide +kernel) rfl (by omega) ?_
  refine x_const (np := 973) (x := 9223372043297226753) (a := 2147483649) (by decide +kernel) (by decide) (by decide) ?_
  refine x_iadd (np := 974) (x := 0) (v := (2147483648 + (j + 1))) (by decide +kernel) (by omega) (by decide) (by omega) (by omega) ?_
  refine x_scr (j := (j + 1)) hs (np := 975) (x := 0) (by decide +kernel) rfl (by omega) (by omega) ?_
  refine x_aloadS (np := 976) (x := 0) (by decide +kernel) rfl ?_
  refine x_iload (np := 978) (x := 4) (by decide +kernel) rfl (by omega) ?_
  refine x_const (np := 979) (x := 9223372047592194050) (a := 2147483650) (by decide +kernel) (by decide) (by decide) ?_
  refine x_iadd (np := 980) (x := 0) (v := (2147483648 + (j + 2))) (by decide +kernel) (by omega) (by decide) (by omega) (by omega) ?_
  refine x_scr (j := (j + 2)) hs (np := 981) (x := 0) (by decide +kernel) rfl (by omega) (by omega) ?_
  refine x_ifz (k := 0) (tg := 988) (np := 984) (by decide +kernel) (by decide) sv_lt (fun q87 => ?_) (fun q87 => ?_)
  · skip
    have q87 : (sv sc (j + 2)) = 2147483648 := q87
    refine x_const (np := 989) (x := 9223372039002259456) (a := 2147483648) (by decide +kernel) (by decide) (by decide) ?_
    have b88 : (sv sc (j + 1)) < 4294967296 := sv_lt
    refine x_cIc (t := 6) (mj := 237) (n := 3) (rc := 12) (ml := 5) (cc := 0) (ss := 0) (nr := 0) (np := 992) (as := [x_r 75, iv_c (sv sc (j + 1)), iv_c 2147483648]) (rest := []) (lo1 := [x_r 75, iv_c (sv sc (j + 1)), iv_c 2147483648, 147573952589676412928, 147573952589676412928]) (by decide +kernel) (by decide) (x_cbV (by decide +kernel) (by show _ ≤ 600000; omega) (by show _ ≤ 7300000; omega)) (x_rb_of (by decide +kernel)) rfl rfl (x_wr (by decide) (x_wi sv_lt (x_wi (by decide) x_wn))) x_wn (by decide) rfl (c237_75 j71 (by omega) (by omega) m81) (fun r91 h89 l92 q90 => ?_)
    obtain ⟨j93, f94, g95⟩ := q90
    have q96 : h89 0 11 = h67 0 11 := f94 0 11 (by decide +kernel)
    have q97 : h89 75 11 = h67 75 11 := f94 75 11 (by decide +kernel)
    have q98 : h89 1 1 = h67 1 1 := f94 1 1 (by decide +kernel)
    have q99 : h89 75 6 = h67 75 6 := f94 75 6 (by decide +kernel)
    have q100 : h89 76 1 = h67 76 1 := f94 76 1 (by decide +kernel)
    have q101 : h89 0 10 = h67 0 10 := f94 0 10 (by decide +kernel)
    have q102 : h89 75 4 = h67 75 4 := f94 75 4 (by decide +kernel)
    have m103 := WT.fr m81 j71 f94 (by decide)
    have m104 := WT.fr7 m82 j71 f94 (by decide)
    have m105 : h89 75 4 = 2147483649 → 2147483650 ≤ h89 77 0 := by
      rw [f94 75 4 (by decide +kernel), f94 77 0 (by decide +kernel)]
      exact m83
    have s107 := St.fr s85 f94 j71 (by decide) (by decide) (by decide) (by decide) (by decide) (by decide)
    have u108 : h89 0 11 = h89 75 11 := by omega
    have t106 := Ty.fr t84 f94 (by decide) (by decide)
    refine x_istore (np := 994) (x := 6) (lo' := [55340232221128654849, x_r 0, x_r 75, x_r 97, iv_c (2147483648 + j), iv_c r69, iv_c r91]) (by decide +kernel) l92 (Nat.le_of_ble_eq_true rfl) rfl ?_
    refine x_goto (np := 997) (x := 1369) (by decide +kernel) ?_
    exact k (c0 + 1) (s0 + 6) (iv_c r69) (iv_c r91) h89 (by omega) (by omega) ⟨⟨j93, by omega, m103, m104, m105, by omega⟩, t106, s107, u108⟩
  have q87 : ¬ ((sv sc (j + 2)) = 2147483648) := q87
  refine x_const (np := 985) (x := 9223372043297226753) (a := 2147483649) (by decide +kernel) (by decide) (by decide) ?_
  refine x_goto (np := 988) (x := 989) (by decide +kernel) ?_
  have b109 : (sv sc (j + 1)) < 4294967296 := sv_lt
  refine x_cIc (t := 6) (mj := 237) (n := 3) (rc := 12) (ml := 5) (cc := 0) (ss := 0) (nr := 0) (np := 992) (as := [x_r 75, iv_c (sv sc (j + 1)), iv_c 2147483649]) (rest := []) (lo1 := [x_r 75, iv_c (sv sc (j + 1)), iv_c 2147483649, 147573952589676412928, 147573952589676412928]) (by decide +kernel) (by decide) (x_cbV (by decide +kernel) (by show _ ≤ 600000; omega) (by show _ ≤ 7300000; omega)) (x_rb_of (by decide +kernel)) rfl rfl (x_wr (by decide) (x_wi sv_lt (x_wi (by decide) x_wn))) x_wn (by decide) rfl (c237_75 j71 (by omega) (by omega) m81) (fun r112 h110 l113 q111 => ?_)
  obtain ⟨j114, f115, g116⟩ := q111
  have q117 : h110 0 11 = h67 0 11 := f115 0 11 (by decide +kernel)
  have q118 : h110 75 11 = h67 75 11 := f115 75 11 (by decide +kernel)
  have q119 : h110 1 1 = h67 1 1 := f115 1 1 (by decide +kernel)
  have q120 : h110 75 6 = h67 75 6 := f115 75 6 (by decide +kernel)
  have q121 : h110 76 1 = h67 76 1 := f115 76 1 (by decide +kernel)
  have q122 : h110 0 10 = h67 0 10 := f115 0 10 (by decide +kernel)
  have q123 : h110 75 4 = h67 75 4 := f115 75 4 (by decide +kernel)
  have m124 := WT.fr m81 j71 f115 (by decide)
  have m125 := WT.fr7 m82 j71 f115 (by decide)
  have m126 : h110 75 4 = 2147483649 → 2147483650 ≤ h110 77 0 := by
    rw [f115 75 4 (by decide +kernel), f115 77 0 (by decide +kernel)]
    exact m83
  have s128 := St.fr s85 f115 j71 (by decide) (by decide) (by decide) (by decide) (by decide) (by decide)
  have u129 : h110 0 11 = h110 75 11 := by omega
  have t127 := Ty.fr t84 f115 (by decide) (by decide)
  refine x_istore (np := 994) (x := 6) (lo' := [55340232221128654849, x_r 0, x_r 75, x_r 97, iv_c (2147483648 + j), iv_c r69, iv_c r112]) (by decide +kernel) l113 (Nat.le_of_ble_eq_true rfl) rfl ?_
  refine x_goto (np := 997) (x := 1369) (by decide +kernel) ?_
  exact k (c0 + 1) (s0 + 6) (iv_c r69) (iv_c r112) h110 (by omega) (by omega) ⟨⟨j114, by omega, m124, m125, m126, by omega⟩, t127, s128, u129⟩
set_option maxHeartbeats 0 in
theorem lc_23 {sc : Nat × Nat} {d j c0 s0 w5 w6 : Nat} {h : xh} {Q : Nat → xh → Prop} (hs : scOK sc) (hI : INV5 h) (hj : j + 6 ≤ sc.1) (hc : c0 + 2 ≤ 600000) (hz : s0 + 12 ≤ 7300000) (k : ∀ c1 s1 v5 v6 h', c1 ≤ c0 + 2 → s1 ≤ s0 + 12 → INV5 h' → X sc 309 (d + 60) Q c1 s1 1369 [55340232221128654849, x_r 0, x_r 75, x_r 97, iv_c (2147483648 + j), v5, v6] [] h') : X sc 309 (d + 60) Q c0 s0 997 [55340232221128654849, x_r 0, x_r 75, x_r 97, iv_c (2147483648 + j), w5, w6] [] h := by
  obtain ⟨⟨hJ, hE, w76, w77, hB, hG⟩, hY, hS, hF⟩ := hI
  have h384 := hs.1
  have hS1 := hS.2.1 1 (by decide)
  have hS3 := hS.2.2.1
  refine x_aload (np := 998) (x := 1) (by decide +kernel) rfl (x_nc_le (by decide)) ?_
  refine x_cIc (t := 6) (mj := 121) (n := 1) (rc := 11) (ml := 3) (cc := 0) (ss := 0) (nr := 0) (np := 1001) (as := [x_r 0]) (rest := []) (lo1 := [x_r 0, 147573952589676412928, 147573952589676412928]) (by decide +kernel) (by decide) (x_cbV (by decide +kernel) (by show _ ≤ 600000; omega) (by show _ ≤ 7300000; omega)) (x_rb_of (by decide +kernel)) rfl rfl (x_wr (by decide) x_wn) x_wn (by decide) rfl (c121_0 hJ) (fun r3 h1 l4 q2 => ?_)
  obtain ⟨q5, b6⟩ := q2
  rw [q5]
  refine x_pop (by decide +kernel) l4 ?_
  refine x_aload (np := 1003) (x := 2) (by decide +kernel) rfl (x_nc_le (by decide)) ?_
  refine x_cIc (t := 6) (mj := 238) (n := 1) (rc := 12) (ml := 3) (cc := 0) (ss := 0) (nr := 0) (np := 1006) (as := [x_r 75]) (rest := []) (lo1 := [x_r 75, 147573952589676412928, 147573952589676412928]) (by decide +kernel) (by decide) (x_cbV (by decide +kernel) (by show _ ≤ 600000; omega) (by show _ ≤ 7300000; omega)) (x_rb_of (by decide +kernel)) rfl rfl (x_wr (by decide) x_wn) x_wn (by decide) rfl (c238_75 hJ w76) (fun r9 h7 l10 q8 => ?_)
  obtain ⟨j11, f12, g13⟩ := q8
  have q14 : h7 0 11 = h 0 11 := f12 0 11 (by decide +kernel)
  have q15 : h7 75 11 = h 75 11 := f12 75 11 (by decide +kernel)
  have q16 : h7 1 1 = h 1 1 := f12 1 1 (by decide +kernel)
  have q17 : h7 75 6 = h 75 6 := f12 75 6 (by decide +kernel)
  have q18 : h7 76 1 = h 76 1 := f12 76 1 (by decide +kernel)
  have q19 : h7 0 10 = h 0 10 := f12 0 10 (by decide +kernel)
  have q20 : h7 75 4 = h 75 4 := f12 75 4 (by decide +kernel)
  have m21 := WT.fr w76 hJ f12 (by decide)
  have m22 := WT.fr7 w77 hJ f12 (by decide)
  have m23 : h7 75 4 = 2147483649 → 2147483650 ≤ h7 77 0 := by
    rw [f12 75 4 (by decide +kernel), f12 77 0 (by decide +kernel)]
    exact hB
  have s25 := St.fr hS f12 hJ (by decide) (by decide) (by decide) (by decide) (by decide) (by decide)
  have u26 : h7 0 11 = h7 75 11 := by omega
  have t24 := Ty.fr hY f12 (by decide) (by decide)
  refine x_pop (by decide +kernel) l10 ?_
  refine x_goto (np := 1010) (x := 1369) (by decide +kernel) ?_
  exact k c0 s0 w5 w6 h7 (by omega) (by omega) ⟨⟨j11, by omega, m21, m22, m23, by omega⟩, t24, s25, u26⟩
set_option maxHeartbeats 0 in
theorem lc_24 {sc : Nat × Nat} {d j c0 s0 w5 w6 : Nat} {h : xh} {Q : Nat → xh → Prop} (hs : scOK sc) (hI : INV5 h) (hj : j + 6 ≤ sc.1) (hc : c0 + 2 ≤ 600000) (hz : s0 + 12 ≤ 7300000) (k : ∀ c1 s1 v5 v6 h', c1 ≤ c0 + 2 → s1 ≤ s0 + 12 → INV5 h' → X sc 309 (d + 60) Q c1 s1 1369 [55340232221128654849, x_r 0, x_r 75, x_r 97, iv_c (2147483648 + j), v5, v6] [] h') : X sc 309 (d + 60) Q c0 s0 1010 [55340232221128654849, x_r 0, x_r 75, x_r 97, iv_c (2147483648 + j), w5, w6] [] h := by
  obtain ⟨⟨hJ, hE, w76, w77, hB, hG⟩, hY, hS, hF⟩ := hI
  have h384 := hs.1
  have hS1 := hS.2.1 1 (by decide)
  have hS3 := hS.2.2.1
  refine x_aload (np := 1011) (x := 1) (by decide +kernel) rfl (x_nc_le (by decide)) ?_
  refine x_aloadS (np := 1012) (x := 0) (by decide +kernel) rfl ?_
  refine x_iload (np := 1014) (x := 4) (by decide +kernel) rfl (by omega) ?_
  refine x_const (np := 1015) (x := 9223372043297226753) (a := 2147483649) (by decide +kernel) (by decide) (by decide) ?_
  refine x_iadd (np := 1016) (x := 0) (v := (2147483648 + (j + 1))) (by decide +kernel) (by omega) (by decide) (by omega) (by omega) ?_
  refine x_scr (j := (j + 1)) hs (np := 1017) (x := 0) (by decide +kernel) rfl (by omega) (by omega) ?_
  refine x_aloadS (np := 1018) (x := 0) (by decide +kernel) rfl ?_
  refine x_iload (np := 1020) (x := 4) (by decide +kernel) rfl (by omega) ?_
  refine x_const (np := 1021) (x := 9223372047592194050) (a := 2147483650) (by decide +kernel) (by decide) (by decide) ?_
  refine x_iadd (np := 1022) (x := 0) (v := (2147483648 + (j + 2))) (by decide +kernel) (by omega) (by decide) (by omega) (by omega) ?_
  refine x_scr (j := (j + 2)) hs (np := 1023) (x := 0) (by decide +kernel) rfl (by omega) (by omega) ?_
  refine x_aload (np := 1024) (x := 3) (by decide +kernel) rfl (x_nc_le (by decide)) ?_
  have b1 : (sv sc (j + 1)) < 4294967296 := sv_lt
  have b2 : (sv sc (j + 2)) < 4294967296 := sv_lt
  refine x_cIc (t := 0) (mj := 301) (n := 4) (rc := 0) (ml := 5) (cc := 2) (ss := 12) (nr := 0) (np := 1027) (as := [x_r 0, iv_c (sv sc (j + 1)), iv_c (sv sc (j + 2)), x_r 97]) (rest := []) (lo1 := [x_r 0, iv_c (sv sc (j + 1)), iv_c (sv sc (j + 2)), x_r 97, 147573952589676412928]) (by decide +kernel) (by decide) (x_cbV (by decide +kernel) (by show _ ≤ 600000; omega) (by show _ ≤ 7300000; omega)) (Or.inl rfl) rfl rfl (x_wr (by decide) (x_wi sv_lt (x_wi sv_lt (x_wr (by decide) x_wn)))) x_wn (by decide) rfl (c301_0_97 hJ (by omega) (by omega)) (fun r5 h3 l6 q4 => ?_)
  obtain ⟨j7, f8, g9⟩ := q4
  have q10 : h3 0 11 = h 0 11 := f8 0 11 (by decide +kernel)
  have q11 : h3 75 11 = h 75 11 := f8 75 11 (by decide +kernel)
  have q12 : h3 1 1 = h 1 1 := f8 1 1 (by decide +kernel)
  have q13 : h3 75 6 = h 75 6 := f8 75 6 (by decide +kernel)
  have q14 : h3 76 1 = h 76 1 := f8 76 1 (by decide +kernel)
  have q15 : h3 0 10 = h 0 10 := f8 0 10 (by decide +kernel)
  have q16 : h3 75 4 = h 75 4 := f8 75 4 (by decide +kernel)
  have m17 := WT.fr w76 hJ f8 (by decide)
  have m18 := WT.fr7 w77 hJ f8 (by decide)
  have m19 : h3 75 4 = 2147483649 → 2147483650 ≤ h3 77 0 := by
    rw [f8 75 4 (by decide +kernel), f8 77 0 (by decide +kernel)]
    exact hB
  have s21 := St.fr hS f8 hJ (by decide) (by decide) (by decide) (by decide) (by decide) (by decide)
  have u22 : h3 0 11 = h3 75 11 := by omega
  have t20 := Ty.fr hY f8 (by decide) (by decide)
  refine x_istore (np := 1029) (x := 5) (lo' := [55340232221128654849, x_r 0, x_r 75, x_r 97, iv_c (2147483648 + j), iv_c r5, w6]) (by decide +kernel) l6 (Nat.le_of_ble_eq_true rfl) rfl ?_
  refine x_aload (np := 1030) (x := 2) (by decide +kernel) rfl (x_nc_le (by decide)) ?_
  refine x_aloadS (np := 1031) (x := 0) (by decide +kernel) rfl ?_
  refine x_iload (np := 1033) (x := 4) (by decide +kernel) rfl (by omega) ?_
  refine x_const (np := 1034) (x := 9223372043297226753) (a := 2147483649) (by decide +kernel) (by decide) (by decide) ?_
  refine x_iadd (np := 1035) (x := 0) (v := (2147483648 + (j + 1))) (by decide +kernel) (by omega) (by decide) (by omega) (by omega) ?_
  refine x_scr (j := (j + 1)) hs (np := 1036) (x := 0) (by decide +kernel) rfl (by omega) (by omega) ?_
  refine x_aloadS (np := 1037) (x := 0) (by decide +kernel) rfl ?_
  refine x_iload (np := 1039) (x := 4) (by decide +kernel) rfl (by omega) ?_
  refine x_const (np := 1040) (x := 9223372047592194050) (a := 2147483650) (by decide +kernel) (by decide) (by decide) ?_
  refine x_iadd (np := 1041) (x := 0) (v := (2147483648 + (j + 2))) (by decide +kernel) (by omega) (by decide) (by omega) (by omega) ?_
  refine x_scr (j := (j + 2)) hs (np := 1042) (x := 0) (by decide +kernel) rfl (by omega) (by omega) ?_
  have b23 : (sv sc (j + 1)) < 4294967296 := sv_lt
  have b24 : (sv sc (j + 2)) < 4294967296 := sv_lt
  refine x_cIc (t := 6) (mj := 261) (n := 3) (rc := 12) (ml := 4) (cc := 0) (ss := 0) (nr := 0) (np := 1045) (as := [x_r 75, iv_c (sv sc (j + 1)), iv_c (sv sc (j + 2))]) (rest := []) (lo1 := [x_r 75, iv_c (sv sc (j + 1)), iv_c (sv sc (j + 2)), 147573952589676412928]) (by decide +kernel) (by decide) (x_cbV (by decide +kernel) (by show _ ≤ 600000; omega) (by show _ ≤ 7300000; omega)) (x_rb_of (by decide +kernel)) rfl rfl (x_wr (by decide) (x_wi sv_lt (x_wi sv_lt x_wn))) x_wn (by decide) rfl (c261_75 j7 (by omega) (by omega) m17) (fun r27 h25 l28 q26 => ?_)
  obtain ⟨j29, f30, g31, g32⟩ := q26
  have q33 : h25 0 11 = h3 0 11 := f30 0 11 (by decide +kernel)
  have q34 : h25 75 11 = h3 75 11 := f30 75 11 (by decide +kernel)
  have q35 : h25 1 1 = h3 1 1 := f30 1 1 (by decide +kernel)
  have q36 : h25 75 6 = h3 75 6 := f30 75 6 (by decide +kernel)
  have q37 : h25 76 1 = h3 76 1 := f30 76 1 (by decide +kernel)
  have q38 : h25 0 10 = h3 0 10 := f30 0 10 (by decide +kernel)
  have q39 : h25 75 4 = h3 75 4 := f30 75 4 (by decide +kernel)
  have m41 := WT.fr7 m18 j7 f30 (by decide)
  have m42 : h25 75 4 = 2147483649 → 2147483650 ≤ h25 77 0 := by
    rw [f30 75 4 (by decide +kernel), f30 77 0 (by decide +kernel)]
    exact m19
  have s44 := St.fr s21 f30 j7 (by decide) (by decide) (by decide) (by decide) (by decide) (by decide)
  have u45 : h25 0 11 = h25 75 11 := by omega
  have t43 := Ty.fr t20 f30 (by decide) (by decide)
  refine x_istore (np := 1047) (x := 6) (lo' := [55340232221128654849, x_r 0, x_r 75, x_r 97, iv_c (2147483648 + j), iv_c r5, iv_c r27]) (by decide +kernel) l28 (Nat.le_of_ble_eq_true rfl) rfl ?_
  refine x_goto (np := 1050) (x := 1369) (by decide +kernel) ?_
  exact k (c0 + 2) (s0 + 12) (iv_c r5) (iv_c r27) h25 (by omega) (by omega) ⟨⟨j29, by omega, g32, m41, m42, by omega⟩, t43, s44, u45⟩
set_option maxHeartbeats 0 in
theorem lc_25 {sc : Nat × Nat} {d j c0 s0 w5 w6 : Nat} {h : xh} {Q : Nat → xh → Prop} (hs : scOK sc) (hI : INV5 h) (hj : j + 6 ≤ sc.1) (hc : c0 + 2 ≤ 600000) (hz : s0 + 12 ≤ 7300000) (k : ∀ c1 s1 v5 v6 h', c1 ≤ c0 + 2 → s1 ≤ s0 + 12 → INV5 h' → X sc 309 (d + 60) Q c1 s1 1369 [55340232221128654849, x_r 0, x_r 75, x_r 97, iv_c (2147483648 + j), v5, v6] [] h') : X sc 309 (d + 60) Q c0 s0 1050 [55340232221128654849, x_r 0, x_r 75, x_r 97, iv_c (2147483648 + j), w5, w6] [] h := by
  obtain ⟨⟨hJ, hE, w76, w77, hB, hG⟩, hY, hS, hF⟩ := hI
  have h384 := hs.1
  have hS1 := hS.2.1 1 (by decide)
  have hS3 := hS.2.2.1
  refine x_aload (np := 1051) (x := 1) (by decide +kernel) rfl (x_nc_le (by decide)) ?_
  refine x_cIc (t := 6) (mj := 126) (n := 1) (rc := 11) (ml := 6) (cc := 0) (ss := 0) (nr := 0) (np := 1054) (as := [x_r 0]) (rest := []) (lo1 := [x_r 0, 147573952589676412928, 147573952589676412928, 147573952589676412928, 147573952589676412928, 147573952589676412928]) (by decide +kernel) (by decide) (x_cbV (by decide +kernel) (by show _ ≤ 600000; omega) (by show _ ≤ 7300000; omega)) (x_rb_of (by decide +kernel)) rfl rfl (x_wr (by decide) x_wn) x_wn (by decide) rfl (c126_0 hJ) (fun r3 h1 l4 q2 => ?_)
  obtain ⟨q5, b6⟩ := q2
  rw [q5]
  refine x_pop (by decide +kernel) l4 ?_
  refine x_aload (np := 1056) (x := 2) (by decide +kernel) rfl (x_nc_le (by decide)) ?_
  refine x_cIc (t := 6) (mj := 262) (n := 1) (rc := 12) (ml := 3) (cc := 0) (ss := 0) (nr := 0) (np := 1059) (as := [x_r 75]) (rest := []) (lo1 := [x_r 75, 147573952589676412928, 147573952589676412928]) (by decide +kernel) (by decide) (x_cbV (by decide +kernel) (by show _ ≤ 600000; omega) (by show _ ≤ 7300000; omega)) (x_rb_of (by decide +kernel)) rfl rfl (x_wr (by decide) x_wn) x_wn (by decide) rfl (c262_75 hJ w76) (fun r9 h7 l10 q8 => ?_)
  obtain ⟨j11, f12, g13⟩ := q8
  have q14 : h7 0 11 = h 0 11 := f12 0 11 (by decide +kernel)
  have q15 : h7 75 11 = h 75 11 := f12 75 11 (by decide +kernel)
  have q16 : h7 1 1 = h 1 1 := f12 1 1 (by decide +kernel)
  have q17 : h7 75 6 = h 75 6 := f12 75 6 (by decide +kernel)
  have q18 : h7 76 1 = h 76 1 := f12 76 1 (by decide +kernel)
  have q19 : h7 0 10 = h 0 10 := f12 0 10 (by decide +kernel)
  have q20 : h7 75 4 = h 75 4 := f12 75 4 (by decide +kernel)
  have m21 := WT.fr w76 hJ f12 (by decide)
  have m22 := WT.fr7 w77 hJ f12 (by decide)
  have m23 : h7 75 4 = 2147483649 → 2147483650 ≤ h7 77 0 := by
    rw [f12 75 4 (by decide +kernel), f12 77 0 (by decide +kernel)]
    exact hB
  have s25 := St.fr hS f12 hJ (by decide) (by decide) (by decide) (by decide) (by decide) (by decide)
  have u26 : h7 0 11 = h7 75 11 := by omega
  have t24 := Ty.fr hY f12 (by decide) (by decide)
  refine x_pop (by decide +kernel) l10 ?_
  refine x_goto (np := 1063) (x := 1369) (by decide +kernel) ?_
  exact k c0 s0 w5 w6 h7 (by omega) (by omega) ⟨⟨j11, by omega, m21, m22, m23, by omega⟩, t24, s25, u26⟩
set_option maxHeartbeats 0 in
theorem lc_26 {sc : Nat × Nat} {d j c0 s0 w5 w6 : Nat} {h : xh} {Q : Nat → xh → Prop} (hs : scOK sc) (hI : INV5 h) (hj : j + 6 ≤ sc.1) (hc : c0 + 2 ≤ 600000) (hz : s0 + 12 ≤ 7300000) (k : ∀ c1 s1 v5 v6 h', c1 ≤ c0 + 2 → s1 ≤ s0 + 12 → INV5 h' → X sc 309 (d + 60) Q c1 s1 1369 [55340232221128654849, x_r 0, x_r 75, x_r 97, iv_c (2147483648 + j), v5, v6] [] h') : X sc 309 (d + 60) Q c0 s0 1063 [55340232221128654849, x_r 0, x_r 75, x_r 97, iv_c (2147483648 + j), w5, w6] [] h := by
  obtain ⟨⟨hJ, hE, w76, w77, hB, hG⟩, hY, hS, hF⟩ := hI
  have h384 := hs.1
  have hS1 := hS.2.1 1 (by decide)
  have hS3 := hS.2.2.1
  refine x_aload (np := 1064) (x := 1) (by decide +kernel) rfl (x_nc_le (by decide)) ?_
  refine x_aloadS (np := 1065) (x := 0) (by decide +kernel) rfl ?_
  refine x_iload (np := 1067) (x := 4) (by decide +kernel) rfl (by omega) ?_
  refine x_const (np := 1068) (x := 9223372043297226753) (a := 2147483649) (by decide +kernel) (by decide) (by decide) ?_
  refine x_iadd (np := 1069) (x := 0) (v := (2147483648 + (j + 1))) (by decide +kernel) (by omega) (by decide) (by omega) (by omega) ?_
  refine x_scr (j := (j + 1)) hs (np := 1070) (x := 0) (by decide +kernel) rfl (by omega) (by omega) ?_
  refine x_aloadS (np := 1071) (x := 0) (by decide +kernel) rfl ?_
  refine x_iload (np := 1073) (x := 4) (by decide +kernel) rfl (by omega) ?_
  refine x_const (np := 1074) (x := 9223372047592194050) (a := 2147483650) (by decide +kernel) (by decide) (by decide) ?_
  refine x_iadd (np := 1075) (x := 0) (v := (2147483648 + (j + 2))) (by decide +kernel) (by omega) (by decide) (by omega) (by omega) ?_
  refine x_scr (j := (j + 2)) hs (np := 1076) (x := 0) (by decide +kernel) rfl (by omega) (by omega) ?_
  refine x_aload (np := 1077) (x := 3) (by decide +kernel) rfl (x_nc_le (by decide)) ?_
  have b1 : (sv sc (j + 1)) < 4294967296 := sv_lt
  have b2 : (sv sc (j + 2)) < 4294967296 := sv_lt
  refine x_cIc (t := 0) (mj := 302) (n := 4) (rc := 0) (ml := 5) (cc := 1) (ss := 6) (nr := 0) (np := 1080) (as := [x_r 0, iv_c (sv sc (j + 1)), iv_c (sv sc (j + 2)), x_r 97]) (rest := []) (lo1 := [x_r 0, iv_c (sv sc (j + 1)), iv_c (sv sc (j + 2)), x_r 97, 147573952589676412928]) (by decide +kernel) (by decide) (x_cbV (by decide +kernel) (by show _ ≤ 600000; omega) (by show _ ≤ 7300000; omega)) (Or.inl rfl) rfl rfl (x_wr (by decide) (x_wi sv_lt (x_wi sv_lt (x_wr (by decide) x_wn)))) x_wn (by decide) rfl (c302_0_97 hJ (by omega) (by omega)) (fun r5 h3 l6 q4 => ?_)
  obtain ⟨j7, f8, g9⟩ := q4
  have q10 : h3 0 11 = h 0 11 := f8 0 11 (by decide +kernel)
  have q11 : h3 75 11 = h 75 11 := f8 75 11 (by decide +kernel)
  have q12 : h3 1 1 = h 1 1 := f8 1 1 (by decide +kernel)
  have q13 : h3 75 6 = h 75 6 := f8 75 6 (by decide +kernel)
  have q14 : h3 76 1 = h 76 1 := f8 76 1 (by decide +kernel)
  have q15 : h3 0 10 = h 0 10 := f8 0 10 (by decide +kernel)
  have q16 : h3 75 4 = h 75 4 := f8 75 4 (by decide +kernel)
  have m17 := WT.fr w76 hJ f8 (by decide)
  have m18 := WT.fr7 w77 hJ f8 (by decide)
  have m19 : h3 75 4 = 2147483649 → 2147483650 ≤ h3 77 0 := by
    rw [f8 75 4 (by decide +kernel), f8 77 0 (by decide +kernel)]
    exact hB
  have s21 := St.fr hS f8 hJ (by decide) (by decide) (by decide) (by decide) (by decide) (by decide)
  have u22 : h3 0 11 = h3 75 11 := by omega
  have t20 := Ty.fr hY f8 (by decide) (by decide)
  refine x_istore (np := 1082) (x := 5) (lo' := [55340232221128654849, x_r 0, x_r 75, x_r 97, iv_c (2147483648 + j), iv_c r5, w6]) (by decide +kernel) l6 (Nat.le_of_ble_eq_true rfl) rfl ?_
  refine x_aload (np := 1083) (x := 2) (by decide +kernel) rfl (x_nc_le (by decide)) ?_
  refine x_aloadS (np := 1084) (x := 0) (by decide +kernel) rfl ?_
  refine x_iload (np := 1086) (x := 4) (by decide +kernel) rfl (by omega) ?_
  refine x_const (np := 1087) (x := 9223372043297226753) (a := 2147483649) (by decide +kernel) (by decide) (by decide) ?_
  refine x_iadd (np := 1088) (x := 0) (v := (2147483648 + (j + 1))) (by decide +kernel) (by omega) (by decide) (by omega) (by omega) ?_
  refine x_scr (j := (j + 1)) hs (np := 1089) (x := 0) (by decide +kernel) rfl (by omega) (by omega) ?_
  refine x_aloadS (np := 1090) (x := 0) (by decide +kernel) rfl ?_
  refine x_iload (np := 1092) (x := 4) (by decide +kernel) rfl (by omega) ?_
  refine x_const (np := 1093) (x := 9223372047592194050) (a := 2147483650) (by decide +kernel) (by decide) (by decide) ?_
  refine x_iadd (np := 1094) (x := 0) (v := (2147483648 + (j + 2))) (by decide +kernel) (by omega) (by decide) (by omega) (by omega) ?_
  refine x_scr (j := (j + 2)) hs (np := 1095) (x := 0) (by decide +kernel) rfl (by omega) (by omega) ?_
  have b23 : (sv sc (j + 1)) < 4294967296 := sv_lt
  have b24 : (sv sc (j + 2)) < 4294967296 := sv_lt
  refine x_cIc (t := 6) (mj := 263) (n := 3) (rc := 12) (ml := 4) (cc := 0) (ss := 0) (nr := 0) (np := 1098) (as := [x_r 75, iv_c (sv sc (j + 1)), iv_c (sv sc (j + 2))]) (rest := []) (lo1 := [x_r 75, iv_c (sv sc (j + 1)), iv_c (sv sc (j + 2)), 147573952589676412928]) (by decide +kernel) (by decide) (x_cbV (by decide +kernel) (by show _ ≤ 600000; omega) (by show _ ≤ 7300000; omega)) (x_rb_of (by decide +kernel)) rfl rfl (x_wr (by decide) (x_wi sv_lt (x_wi sv_lt x_wn))) x_wn (by decide) rfl (c263_75 j7 (by omega) (by omega) m17) (fun r27 h25 l28 q26 => ?_)
  obtain ⟨j29, f30, g31⟩ := q26
  have q32 : h25 0 11 = h3 0 11 := f30 0 11 (by decide +kernel)
  have q33 : h25 75 11 = h3 75 11 := f30 75 11 (by decide +kernel)
  have q34 : h25 1 1 = h3 1 1 := f30 1 1 (by decide +kernel)
  have q35 : h25 75 6 = h3 75 6 := f30 75 6 (by decide +kernel)
  have q36 : h25 76 1 = h3 76 1 := f30 76 1 (by decide +kernel)
  have q37 : h25 0 10 = h3 0 10 := f30 0 10 (by decide +kernel)
  have q38 : h25 75 4 = h3 75 4 := f30 75 4 (by decide +kernel)
  have m39 := WT.fr m17 j7 f30 (by decide)
  have m40 := WT.fr7 m18 j7 f30 (by decide)
  have m41 : h25 75 4 = 2147483649 → 2147483650 ≤ h25 77 0 := by
    rw [f30 75 4 (by decide +kernel), f30 77 0 (by decide +kernel)]
    exact m19
  have s43 := St.fr s21 f30 j7 (by decide) (by decide) (by decide) (by decide) (by decide) (by decide)
  have u44 : h25 0 11 = h25 75 11 := by omega
  have t42 := Ty.fr t20 f30 (by decide) (by decide)
  refine x_istore (np := 1100) (x := 6) (lo' := [55340232221128654849, x_r 0, x_r 75, x_r 97, iv_c (2147483648 + j), iv_c r5, iv_c r27]) (by decide +kernel) l28 (Nat.le_of_ble_eq_true rfl) rfl ?_
  refine x_goto (np := 1103) (x := 1369) (by decide +kernel) ?_
  exact k (c0 + 1) (s0 + 6) (iv_c r5) (iv_c r27) h25 (by omega) (by omega) ⟨⟨j29, by omega, m39, m40, m41, by omega⟩, t42, s43, u44⟩
set_option maxHeartbeats 0 in
theorem lc_27 {sc : Nat × Nat} {d j c0 s0 w5 w6 : Nat} {h : xh} {Q : Nat → xh → Prop} (hs : scOK sc) (hI : INV5 h) (hj : j + 6 ≤ sc.1) (hc : c0 + 2 ≤ 600000) (hz : s0 + 12 ≤ 7300000) (k : ∀ c1 s1 v5 v6 h', c1 ≤ c0 + 2 → s1 ≤ s0 + 12 → INV5 h' → X sc 309 (d + 60) Q c1 s1 1369 [55340232221128654849, x_r 0, x_r 75, x_r 97, iv_c (2147483648 + j), v5, v6] [] h') : X sc 309 (d + 60) Q c0 s0 1103 [55340232221128654849, x_r 0, x_r 75, x_r 97, iv_c (2147483648 + j), w5, w6] [] h := by
  obtain ⟨⟨hJ, hE, w76, w77, hB, hG⟩, hY, hS, hF⟩ := hI
  have h384 := hs.1
  have hS1 := hS.2.1 1 (by decide)
  have hS3 := hS.2.2.1
  refine x_aload (np := 1104) (x := 1) (by decide +kernel) rfl (x_nc_le (by decide)) ?_
  refine x_cIc (t := 6) (mj := 134) (n := 1) (rc := 11) (ml := 3) (cc := 0) (ss := 0) (nr := 0) (np := 1107) (as := [x_r 0]) (rest := []) (lo1 := [x_r 0, 147573952589676412928, 147573952589676412928]) (by decide +kernel) (by decide) (x_cbV (by decide +kernel) (by show _ ≤ 600000; omega) (by show _ ≤ 7300000; omega)) (x_rb_of (by decide +kernel)) rfl rfl (x_wr (by decide) x_wn) x_wn (by decide) rfl (c134_0 hJ) (fun r3 h1 l4 q2 => ?_)
  obtain ⟨q5, b6⟩ := q2
  rw [q5]
  refine x_pop (by decide +kernel) l4 ?_
  refine x_aload (np := 1109) (x := 2) (by decide +kernel) rfl (x_nc_le (by decide)) ?_
  refine x_cIc (t := 6) (mj := 264) (n := 1) (rc := 12) (ml := 3) (cc := 0) (ss := 0) (nr := 0) (np := 1112) (as := [x_r 75]) (rest := []) (lo1 := [x_r 75, 147573952589676412928, 147573952589676412928]) (by decide +kernel) (by decide) (x_cbV (by decide +kernel) (by show _ ≤ 600000; omega) (by show _ ≤ 7300000; omega)) (x_rb_of (by decide +kernel)) rfl rfl (x_wr (by decide) x_wn) x_wn (by decide) rfl (c264_75 hJ w76) (fun r9 h7 l10 q8 => ?_)
  obtain ⟨j11, f12, g13⟩ := q8
  have q14 : h7 0 11 = h 0 11 := f12 0 11 (by decide +kernel)
  have q15 : h7 75 11 = h 75 11 := f12 75 11 (by decide +kernel)
  have q16 : h7 1 1 = h 1 1 := f12 1 1 (by decide +kernel)
  have q17 : h7 75 6 = h 75 6 := f12 75 6 (by decide +kernel)
  have q18 : h7 76 1 = h 76 1 := f12 76 1 (by decide +kernel)
  have q19 : h7 0 10 = h 0 10 := f12 0 10 (by decide +kernel)
  have q20 : h7 75 4 = h 75 4 := f12 75 4 (by decide +kernel)
  have m21 := WT.fr w76 hJ f12 (by decide)
  have m22 := WT.fr7 w77 hJ f12 (by decide)
  have m23 : h7 75 4 = 2147483649 → 2147483650 ≤ h7 77 0 := by
    rw [f12 75 4 (by decide +kernel), f12 77 0 (by decide +kernel)]
    exact hB
  have s25 := St.fr hS f12 hJ (by decide) (by decide) (by decide) (by decide) (by decide) (by decide)
  have u26 : h7 0 11 = h7 75 11 := by omega
  have t24 := Ty.fr hY f12 (by decide) (by decide)
  refine x_pop (by decide +kernel) l10 ?_
  refine x_goto (np := 1116) (x := 1369) (by decide +kernel) ?_
  exact k c0 s0 w5 w6 h7 (by omega) (by omega) ⟨⟨j11, by omega, m21, m22, m23, by omega⟩, t24, s25, u26⟩
set_option maxHeartbeats 0 in
theorem lc_28 {sc : Nat × Nat} {d j c0 s0 w5 w6 : Nat} {h : xh} {Q : Nat → xh → Prop} (hs : scOK sc) (hI : INV5 h) (hj : j + 6 ≤ sc.1) (hc : c0 + 2 ≤ 600000) (hz : s0 + 12 ≤ 7300000) (k : ∀ c1 s1 v5 v6 h', c1 ≤ c0 + 2 → s1 ≤ s0 + 12 → INV5 h' → X sc 309 (d + 60) Q c1 s1 1369 [55340232221128654849, x_r 0, x_r 75, x_r 97, iv_c (2147483648 + j), v5, v6] [] h') : X sc 309 (d + 60) Q c0 s0 1116 [55340232221128654849, x_r 0, x_r 75, x_r 97, iv_c (2147483648 + j), w5, w6] [] h := by
  obtain ⟨⟨hJ, hE, w76, w77, hB, hG⟩, hY, hS, hF⟩ := hI
  have h384 := hs.1
  have hS1 := hS.2.1 1 (by decide)
  have hS3 := hS.2.2.1
  refine x_aload (np := 1117) (x := 1) (by decide +kernel) rfl (x_nc_le (by decide)) ?_
  refine x_aloadS (np := 1118) (x := 0) (by decide +kernel) rfl ?_
  refine x_iload (np := 1120) (x := 4) (by decide +kernel) rfl (by omega) ?_
  refine x_const (np := 1121) (x := 9223372043297226753) (a := 2147483649) (by decide +kernel) (by decide) (by decide) ?_
  refine x_iadd (np := 1122) (x := 0) (v := (2147483648 + (j + 1))) (by decide +kernel) (by omega) (by decide) (by omega) (by omega) ?_
  refine x_scr (j := (j + 1)) hs (np := 1123) (x := 0) (by decide +kernel) rfl (by omega) (by omega) ?_
  refine x_aload (np := 1124) (x := 3) (by decide +kernel) rfl (x_nc_le (by decide)) ?_
  have b1 : (sv sc (j + 1)) < 4294967296 := sv_lt
  refine x_cIc (t := 0) (mj := 303) (n := 3) (rc := 0) (ml := 4) (cc := 1) (ss := 6) (nr := 0) (np := 1127) (as := [x_r 0, iv_c (sv sc (j + 1)), x_r 97]) (rest := []) (lo1 := [x_r 0, iv_c (sv sc (j + 1)), x_r 97, 147573952589676412928]) (by decide +kernel) (by decide) (x_cbV (by decide +kernel) (by show _ ≤ 600000; omega) (by show _ ≤ 7300000; omega)) (Or.inl rfl) rfl rfl (x_wr (by decide) (x_wi sv_lt (x_wr (by decide) x_wn))) x_wn (by decide) rfl (c303_0_97 hJ (by omega)) (fun r4 h2 l5 q3 => ?_)
  obtain ⟨j6, f7, g8⟩ := q3
  have q9 : h2 0 11 = h 0 11 := f7 0 11 (by decide +kernel)
  have q10 : h2 75 11 = h 75 11 := f7 75 11 (by decide +kernel)
  have q11 : h2 1 1 = h 1 1 := f7 1 1 (by decide +kernel)
  have q12 : h2 75 6 = h 75 6 := f7 75 6 (by decide +kernel)
  have q13 : h2 76 1 = h 76 1 := f7 76 1 (by decide +kernel)
  have q14 : h2 0 10 = h 0 10 := f7 0 10 (by decide +kernel)
  have q15 : h2 75 4 = h 75 4 := f7 75 4 (by decide +kernel)
  have m16 := WT.fr w76 hJ f7 (by decide)
  have m17 := WT.fr7 w77 hJ f7 (by decide)
  have m18 : h2 75 4 = 2147483649 → 2147483650 ≤ h2 77 0 := by
    rw [f7 75 4 (by decide +kernel), f7 77 0 (by decide +kernel)]
    exact hB
  have s20 := St.fr hS f7 hJ (by decide) (by decide) (by decide) (by decide) (by decide) (by decide)
  have u21 : h2 0 11 = h2 75 11 := by omega
  have t19 := Ty.fr hY f7 (by decide) (by decide)
  refine x_istore (np := 1129) (x := 5) (lo' := [55340232221128654849, x_r 0, x_r 75, x_r 97, iv_c (2147483648 + j), iv_c r4, w6]) (by decide +kernel) l5 (Nat.le_of_ble_eq_true rfl) rfl ?_
  refine x_aload (np := 1130) (x := 2) (by decide +kernel) rfl (x_nc_le (by decide)) ?_
  refine x_aloadS (np := 1131) (x := 0) (by decide +kernel) rfl ?_
  refine x_iload (np := 1133) (x := 4) (by decide +kernel) rfl (by omega) ?_
  refine x_const (np := 1134) (x := 9223372043297226753) (a := 2147483649) (by decide +kernel) (by decide) (by decide) ?_
  refine x_iadd (np := 1135) (x := 0) (v := (2147483648 + (j + 1))) (by decide +kernel) (by omega) (by decide) (by omega) (by omega) ?_
  refine x_scr (j := (j + 1)) hs (np := 1136) (x := 0) (by decide +kernel) rfl (by omega) (by omega) ?_
  have b22 : (sv sc (j + 1)) < 4294967296 := sv_lt
  refine x_cIc (t := 6) (mj := 265) (n := 2) (rc := 12) (ml := 4) (cc := 0) (ss := 0) (nr := 0) (np := 1139) (as := [x_r 75, iv_c (sv sc (j + 1))]) (rest := []) (lo1 := [x_r 75, iv_c (sv sc (j + 1)), 147573952589676412928, 147573952589676412928]) (by decide +kernel) (by decide) (x_cbV (by decide +kernel) (by show _ ≤ 600000; omega) (by show _ ≤ 7300000; omega)) (x_rb_of (by decide +kernel)) rfl rfl (x_wr (by decide) (x_wi sv_lt x_wn)) x_wn (by decide) rfl (c265_75 j6 (by omega)) (fun r25 h23 l26 q24 => ?_)
  obtain ⟨j27, f28, g29⟩ := q24
  have q30 : h23 0 11 = h2 0 11 := f28 0 11 (by decide +kernel)
  have q31 : h23 75 11 = h2 75 11 := f28 75 11 (by decide +kernel)
  have q32 : h23 1 1 = h2 1 1 := f28 1 1 (by decide +kernel)
  have q33 : h23 75 6 = h2 75 6 := f28 75 6 (by decide +kernel)
  have q34 : h23 76 1 = h2 76 1 := f28 76 1 (by decide +kernel)
  have q35 : h23 0 10 = h2 0 10 := f28 0 10 (by decide +kernel)
  have q36 : h23 75 4 = h2 75 4 := f28 75 4 (by decide +kernel)
  have m37 := WT.fr m16 j6 f28 (by decide)
  have m38 := WT.fr7 m17 j6 f28 (by decide)
  have m39 : h23 75 4 = 2147483649 → 2147483650 ≤ h23 77 0 := by
    rw [f28 75 4 (by decide +kernel), f28 77 0 (by decide +kernel)]
    exact m18
  have s41 := St.fr s20 f28 j6 (by decide) (by decide) (by decide) (by decide) (by decide) (by decide)
  have u42 : h23 0 11 = h23 75 11 := by omega
  have t40 := Ty.fr t19 f28 (by decide) (by decide)
  refine x_istore (np := 1141) (x := 6) (lo' := [55340232221128654849, x_r 0, x_r 75, x_r 97, iv_c (2147483648 + j), iv_c r4, iv_c r25]) (by decide +kernel) l26 (Nat.le_of_ble_eq_true rfl) rfl ?_
  refine x_goto (np := 1144) (x := 1369) (by decide +kernel) ?_
  exact k (c0 + 1) (s0 + 6) (iv_c r4) (iv_c r25) h23 (by omega) (by omega) ⟨⟨j27, by omega, m37, m38, m39, by omega⟩, t40, s41, u42⟩
set_option maxHeartbeats 0 in
theorem lc_29 {sc : Nat × Nat} {d j c0 s0 w5 w6 : Nat} {h : xh} {Q : Nat → xh → Prop} (hs : scOK sc) (hI : INV5 h) (hj : j + 6 ≤ sc.1) (hc : c0 + 2 ≤ 600000) (hz : s0 + 12 ≤ 7300000) (k : ∀ c1 s1 v5 v6 h', c1 ≤ c0 + 2 → s1 ≤ s0 + 12 → INV5 h' → X sc 309 (d + 60) Q c1 s1 1369 [55340232221128654849, x_r 0, x_r 75, x_r 97, iv_c (2147483648 + j), v5, v6] [] h') : X sc 309 (d + 60) Q c0 s0 1144 [55340232221128654849, x_r 0, x_r 75, x_r 97, iv_c (2147483648 + j), w5, w6] [] h := by
  obtain ⟨⟨hJ, hE, w76, w77, hB, hG⟩, hY, hS, hF⟩ := hI
  have h384 := hs.1
  have hS1 := hS.2.1 1 (by decide)
  have hS3 := hS.2.2.1
  refine x_aload (np := 1145) (x := 1) (by decide +kernel) rfl (x_nc_le (by decide)) ?_
  refine x_aloadS (np := 1146) (x := 0) (by decide +kernel) rfl ?_
  refine x_iload (np := 1148) (x := 4) (by decide +kernel) rfl (by omega) ?_
  refine x_const (np := 1149) (x := 9223372043297226753) (a := 2147483649) (by decide +kernel) (by decide) (by decide) ?_
  refine x_iadd (np := 1150) (x := 0) (v := (2147483648 + (j + 1))) (by decide +kernel) (by omega) (by decide) (by omega) (by omega) ?_
  refine x_scr (j := (j + 1)) hs (np := 1151) (x := 0) (by decide +kernel) rfl (by omega) (by omega) ?_
  refine x_aloadS (np := 1152) (x := 0) (by decide +kernel) rfl ?_
  refine x_iload (np := 1154) (x := 4) (by decide +kernel) rfl (by omega) ?_
  refine x_const (np := 1155) (x := 9223372047592194050) (a := 2147483650) (by decide +kernel) (by decide) (by decide) ?_
  refine x_iadd (np := 1156) (x := 0) (v := (2147483648 + (j + 2))) (by decide +kernel) (by omega) (by decide) (by omega) (by omega) ?_
  refine x_scr (j := (j + 2)) hs (np := 1157) (x := 0) (by decide +kernel) rfl (by omega) (by omega) ?_
  refine x_aload (np := 1158) (x := 3) (by decide +kernel) rfl (x_nc_le (by decide)) ?_
  have b1 : (sv sc (j + 1)) < 4294967296 := sv_lt
  have b2 : (sv sc (j + 2)) < 4294967296 := sv_lt
  refine x_cIc (t := 0) (mj := 304) (n := 4) (rc := 0) (ml := 5) (cc := 2) (ss := 12) (nr := 0) (np := 1161) (as := [x_r 0, iv_c (sv sc (j + 1)), iv_c (sv sc (j + 2)), x_r 97]) (rest := []) (lo1 := [x_r 0, iv_c (sv sc (j + 1)), iv_c (sv sc (j + 2)), x_r 97, 147573952589676412928]) (by decide +kernel) (by decide) (x_cbV (by decide +kernel) (by show _ ≤ 600000; omega) (by show _ ≤ 7300000; omega)) (Or.inl rfl) rfl rfl (x_wr (by decide) (x_wi sv_lt (x_wi sv_lt (x_wr (by decide) x_wn)))) x_wn (by decide) rfl (c304_0_97 hJ (by omega) (by omega)) (fun r5 h3 l6 q4 => ?_)
  obtain ⟨j7, f8, g9⟩ := q4
  have q10 : h3 0 11 = h 0 11 := f8 0 11 (by decide +kernel)
  have q11 : h3 75 11 = h 75 11 := f8 75 11 (by decide +kernel)
  have q12 : h3 1 1 = h 1 1 := f8 1 1 (by decide +kernel)
  have q13 : h3 75 6 = h 75 6 := f8 75 6 (by decide +kernel)
  have q14 : h3 76 1 = h 76 1 := f8 76 1 (by decide +kernel)
  have q15 : h3 0 10 = h 0 10 := f8 0 10 (by decide +kernel)
  have q16 : h3 75 4 = h 75 4 := f8 75 4 (by decide +kernel)
  have m17 := WT.fr w76 hJ f8 (by decide)
  have m18 := WT.fr7 w77 hJ f8 (by decide)
  have m19 : h3 75 4 = 2147483649 → 2147483650 ≤ h3 77 0 := by
    rw [f8 75 4 (by decide +kernel), f8 77 0 (by decide +kernel)]
    exact hB
  have s21 := St.fr hS f8 hJ (by decide) (by decide) (by decide) (by decide) (by decide) (by decide)
  have u22 : h3 0 11 = h3 75 11 := by omega
  have t20 := Ty.fr hY f8 (by decide) (by decide)
  refine x_istore (np := 1163) (x := 5) (lo' := [55340232221128654849, x_r 0, x_r 75, x_r 97, iv_c (2147483648 + j), iv_c r5, w6]) (by decide +kernel) l6 (Nat.le_of_ble_eq_true rfl) rfl ?_
  refine x_aload (np := 1164) (x := 2) (by decide +kernel) rfl (x_nc_le (by decide)) ?_
  refine x_aloadS (np := 1165) (x := 0) (by decide +kernel) rfl ?_
  refine x_iload (np := 1167) (x := 4) (by decide +kernel) rfl (by omega) ?_
  refine x_const (np := 1168) (x := 9223372043297226753) (a := 2147483649) (by decide +kernel) (by decide) (by decide) ?_
  refine x_iadd (np := 1169) (x := 0) (v := (2147483648 + (j + 1))) (by decide +kernel) (by omega) (by decide) (by omega) (by omega) ?_
  refine x_scr (j := (j + 1)) hs (np := 1170) (x := 0) (by decide +kernel) rfl (by omega) (by omega) ?_
  refine x_aloadS (np := 1171) (x := 0) (by decide +kernel) rfl ?_
  refine x_iload (np := 1173) (x := 4) (by decide +kernel) rfl (by omega) ?_
  refine x_const (np := 1174) (x := 9223372047592194050) (a := 2147483650) (by decide +kernel) (by decide) (by decide) ?_
  refine x_iadd (np := 1175) (x := 0) (v := (2147483648 + (j + 2))) (by decide +kernel) (by omega) (by decide) (by omega) (by omega) ?_
  refine x_scr (j := (j + 2)) hs (np := 1176) (x := 0) (by decide +kernel) rfl (by omega) (by omega) ?_
  have b23 : (sv sc (j + 1)) < 4294967296 := sv_lt
  have b24 : (sv sc (j + 2)) < 4294967296 := sv_lt
  refine x_cIc (t := 6) (mj := 266) (n := 3) (rc := 12) (ml := 4) (cc := 0) (ss := 0) (nr := 0) (np := 1179) (as := [x_r 75, iv_c (sv sc (j + 1)), iv_c (sv sc (j + 2))]) (rest := []) (lo1 := [x_r 75, iv_c (sv sc (j + 1)), iv_c (sv sc (j + 2)), 147573952589676412928]) (by decide +kernel) (by decide) (x_cbV (by decide +kernel) (by show _ ≤ 600000; omega) (by show _ ≤ 7300000; omega)) (x_rb_of (by decide +kernel)) rfl rfl (x_wr (by decide) (x_wi sv_lt (x_wi sv_lt x_wn))) x_wn (by decide) rfl (c266_75 j7 (by omega) (by omega) m17) (fun r27 h25 l28 q26 => ?_)
  obtain ⟨j29, f30, g31⟩ := q26
  have q32 : h25 0 11 = h3 0 11 := f30 0 11 (by decide +kernel)
  have q33 : h25 75 11 = h3 75 11 := f30 75 11 (by decide +kernel)
  have q34 : h25 1 1 = h3 1 1 := f30 1 1 (by decide +kernel)
  have q35 : h25 75 6 = h3 75 6 := f30 75 6 (by decide +kernel)
  have q36 : h25 76 1 = h3 76 1 := f30 76 1 (by decide +kernel)
  have q37 : h25 0 10 = h3 0 10 := f30 0 10 (by decide +kernel)
  have q38 : h25 75 4 = h3 75 4 := f30 75 4 (by decide +kernel)
  have m39 := WT.fr m17 j7 f30 (by decide)
  have m40 := WT.fr7 m18 j7 f30 (by decide)
  have m41 : h25 75 4 = 2147483649 → 2147483650 ≤ h25 77 0 := by
    rw [f30 75 4 (by decide +kernel), f30 77 0 (by decide +kernel)]
    exact m19
  have s43 := St.fr s21 f30 j7 (by decide) (by decide) (by decide) (by decide) (by decide) (by decide)
  have u44 : h25 0 11 = h25 75 11 := by omega
  have t42 := Ty.fr t20 f30 (by decide) (by decide)
  refine x_istore (np := 1181) (x := 6) (lo' := [55340232221128654849, x_r 0, x_r 75, x_r 97, iv_c (2147483648 + j), iv_c r5, iv_c r27]) (by decide +kernel) l28 (Nat.le_of_ble_eq_true rfl) rfl ?_
  refine x_goto (np := 1184) (x := 1369) (by decide +kernel) ?_
  exact k (c0 + 2) (s0 + 12) (iv_c r5) (iv_c r27) h25 (by omega) (by omega) ⟨⟨j29, by omega, m39, m40, m41, by omega⟩, t42, s43, u44⟩
set_option maxHeartbeats 0 in
theorem lc_30 {sc : Nat × Nat} {d j c0 s0 w5 w6 : Nat} {h : xh} {Q : Nat → xh → Prop} (hs : scOK sc) (hI : INV5 h) (hj : j + 6 ≤ sc.1) (hc : c0 + 2 ≤ 600000) (hz : s0 + 12 ≤ 7300000) (k : ∀ c1 s1 v5 v6 h', c1 ≤ c0 + 2 → s1 ≤ s0 + 12 → INV5 h' → X sc 309 (d + 60) Q c1 s1 1369 [55340232221128654849, x_r 0, x_r 75, x_r 97, iv_c (2147483648 + j), v5, v6] [] h') : X sc 309 (d + 60) Q c0 s0 1184 [55340232221128654849, x_r 0, x_r 75, x_r 97, iv_c (2147483648 + j), w5, w6] [] h := by
  obtain ⟨⟨hJ, hE, w76, w77, hB, hG⟩, hY, hS, hF⟩ := hI
  have h384 := hs.1
  have hS1 := hS.2.1 1 (by decide)
  have hS3 := hS.2.2.1
  refine x_aload (np := 1185) (x := 1) (by decide +kernel) rfl (x_nc_le (by decide)) ?_
  refine x_aloadS (np := 1186) (x := 0) (by decide +kernel) rfl ?_
  refine x_iload (np := 1188) (x := 4) (by decide +kernel) rfl (by omega) ?_
  refine x_const (np := 1189) (x := 9223372043297226753) (a := 2147483649) (by decide +kernel) (by decide) (by decide) ?_
  refine x_iadd (np := 1190) (x := 0) (v := (2147483648 + (j + 1))) (by decide +kernel) (by omega) (by decide) (by omega) (by omega) ?_
  refine x_scr (j := (j + 1)) hs (np := 1191) (x := 0) (by decide +kernel) rfl (by omega) (by omega) ?_
  refine x_aload (np := 1192) (x := 3) (by decide +kernel) rfl (x_nc_le (by decide)) ?_
  have b1 : (sv sc (j + 1)) < 4294967296 := sv_lt
  refine x_cIc (t := 0) (mj := 305) (n := 3) (rc := 0) (ml := 4) (cc := 1) (ss := 6) (nr := 0) (np := 1195) (as := [x_r 0, iv_c (sv sc (j + 1)), x_r 97]) (rest := []) (lo1 := [x_r 0, iv_c (sv sc (j + 1)), x_r 97, 147573952589676412928]) (by decide +kernel) (by decide) (x_cbV (by decide +kernel) (by show _ ≤ 600000; omega) (by show _ ≤ 7300000; omega)) (Or.inl rfl) rfl rfl (x_wr (by decide) (x_wi sv_lt (x_wr (by decide) x_wn))) x_wn (by decide) rfl (c305_0_97 hJ (by omega)) (fun r4 h2 l5 q3 => ?_)
  obtain ⟨j6, f7, g8⟩ := q3
  have q9 : h2 0 11 = h 0 11 := f7 0 11 (by decide +kernel)
  have q10 : h2 75 11 = h 75 11 := f7 75 11 (by decide +kernel)
  have q11 : h2 1 1 = h 1 1 := f7 1 1 (by decide +kernel)
  have q12 : h2 75 6 = h 75 6 := f7 75 6 (by decide +kernel)
  have q13 : h2 76 1 = h 76 1 := f7 76 1 (by decide +kernel)
  have q14 : h2 0 10 = h 0 10 := f7 0 10 (by decide +kernel)
  have q15 : h2 75 4 = h 75 4 := f7 75 4 (by decide +kernel)
  have m16 := WT.fr w76 hJ f7 (by decide)
  have m17 := WT.fr7 w77 hJ f7 (by decide)
  have m18 : h2 75 4 = 2147483649 → 2147483650 ≤ h2 77 0 := by
    rw [f7 75 4 (by decide +kernel), f7 77 0 (by decide +kernel)]
    exact hB
  have s20 := St.fr hS f7 hJ (by decide) (by decide) (by decide) (by decide) (by decide) (by decide)
  have u21 : h2 0 11 = h2 75 11 := by omega
  have t19 := Ty.fr hY f7 (by decide) (by decide)
  refine x_istore (np := 1197) (x := 5) (lo' := [55340232221128654849, x_r 0, x_r 75, x_r 97, iv_c (2147483648 + j), iv_c r4, w6]) (by decide +kernel) l5 (Nat.le_of_ble_eq_true rfl) rfl ?_
  refine x_aload (np := 1198) (x := 2) (by decide +kernel) rfl (x_nc_le (by decide)) ?_
  refine x_aloadS (np := 1199) (x := 0) (by decide +kernel) rfl ?_
  refine x_iload (np := 1201) (x := 4) (by decide +kernel) rfl (by omega) ?_
  refine x_const (np := 1202) (x := 9223372043297226753) (a := 2147483649) (by decide +kernel) (by decide) (by decide) ?_
  refine x_iadd (np := 1203) (x := 0) (v := (2147483648 + (j + 1))) (by decide +kernel) (by omega) (by decide) (by omega) (by omega) ?_
  refine x_scr (j := (j + 1)) hs (np := 1204) (x := 0) (by decide +kernel) rfl (by omega) (by omega) ?_
  have b22 : (sv sc (j + 1)) < 4294967296 := sv_lt
  refine x_cIc (t := 6) (mj := 267) (n := 2) (rc := 12) (ml := 6) (cc := 0) (ss := 0) (nr := 0) (np := 1207) (as := [x_r 75, iv_c (sv sc (j + 1))]) (rest := []) (lo1 := [x_r 75, iv_c (sv sc (j + 1)), 147573952589676412928, 147573952589676412928, 147573952589676412928, 147573952589676412928]) (by decide +kernel) (by decide) (x_cbV (by decide +kernel) (by show _ ≤ 600000; omega) (by show _ ≤ 7300000; omega)) (x_rb_of (by decide +kernel)) rfl rfl (x_wr (by decide) (x_wi sv_lt x_wn)) x_wn (by decide) rfl (c267_75 j6 (by omega) m16) (fun r25 h23 l26 q24 => ?_)
  obtain ⟨j27, f28, g29⟩ := q24
  have q30 : h23 0 11 = h2 0 11 := f28 0 11 (by decide +kernel)
  have q31 : h23 75 11 = h2 75 11 := f28 75 11 (by decide +kernel)
  have q32 : h23 1 1 = h2 1 1 := f28 1 1 (by decide +kernel)
  have q33 : h23 75 6 = h2 75 6 := f28 75 6 (by decide +kernel)
  have q34 : h23 76 1 = h2 76 1 := f28 76 1 (by decide +kernel)
  have q35 : h23 0 10 = h2 0 10 := f28 0 10 (by decide +kernel)
  have q36 : h23 75 4 = h2 75 4 := f28 75 4 (by decide +kernel)
  have m37 := WT.fr m16 j6 f28 (by decide)
  have m38 := WT.fr7 m17 j6 f28 (by decide)
  have m39 : h23 75 4 = 2147483649 → 2147483650 ≤ h23 77 0 := by
    rw [f28 75 4 (by decide +kernel), f28 77 0 (by decide +kernel)]
    exact m18
  have s41 := St.fr s20 f28 j6 (by decide) (by decide) (by decide) (by decide) (by decide) (by decide)
  have u42 : h23 0 11 = h23 75 11 := by omega
  have t40 := Ty.fr t19 f28 (by decide) (by decide)
  refine x_istore (np := 1209) (x := 6) (lo' := [55340232221128654849, x_r 0, x_r 75, x_r 97, iv_c (2147483648 + j), iv_c r4, iv_c r25]) (by decide +kernel) l26 (Nat.le_of_ble_eq_true rfl) rfl ?_
  refine x_goto (np := 1212) (x := 1369) (by decide +kernel) ?_
  exact k (c0 + 1) (s0 + 6) (iv_c r4) (iv_c r25) h23 (by omega) (by omega) ⟨⟨j27, by omega, m37, m38, m39, by omega⟩, t40, s41, u42⟩
set_option maxHeartbeats 0 in
theorem lc_31 {sc : Nat × Nat} {d j c0 s0 w5 w6 : Nat} {h : xh} {Q : Nat → xh → Prop} (hs : scOK sc) (hI : INV5 h) (hj : j + 6 ≤ sc.1) (hc : c0 + 2 ≤ 600000) (hz : s0 + 12 ≤ 7300000) (k : ∀ c1 s1 v5 v6 h', c1 ≤ c0 + 2 → s1 ≤ s0 + 12 → INV5 h' → X sc 309 (d + 60) Q c1 s1 1369 [55340232221128654849, x_r 0, x_r 75, x_r 97, iv_c (2147483648 + j), v5, v6] [] h') : X sc 309 (d + 60) Q c0 s0 1212 [55340232221128654849, x_r 0, x_r 75, x_r 97, iv_c (2147483648 + j), w5, w6] [] h := by
  obtain ⟨⟨hJ, hE, w76, w77, hB, hG⟩, hY, hS, hF⟩ := hI
  have h384 := hs.1
  have hS1 := hS.2.1 1 (by decide)
  have hS3 := hS.2.2.1
  refine x_aload (np := 1213) (x := 1) (by decide +kernel) rfl (x_nc_le (by decide)) ?_
  refine x_aloadS (np := 1214) (x := 0) (by decide +kernel) rfl ?_
  refine x_iload (np := 1216) (x := 4) (by decide +kernel) rfl (by omega) ?_
  refine x_const (np := 1217) (x := 9223372043297226753) (a := 2147483649) (by decide +kernel) (by decide) (by decide) ?_
  refine x_iadd (np := 1218) (x := 0) (v := (2147483648 + (j + 1))) (by decide +kernel) (by omega) (by decide) (by omega) (by omega) ?_
  refine x_scr (j := (j + 1)) hs (np := 1219) (x := 0) (by decide +kernel) rfl (by omega) (by omega) ?_
  refine x_aload (np := 1220) (x := 3) (by decide +kernel) rfl (x_nc_le (by decide)) ?_
  have b1 : (sv sc (j + 1)) < 4294967296 := sv_lt
  refine x_cIc (t := 0) (mj := 306) (n := 3) (rc := 0) (ml := 4) (cc := 1) (ss := 6) (nr := 0) (np := 1223) (as := [x_r 0, iv_c (sv sc (j + 1)), x_r 97]) (rest := []) (lo1 := [x_r 0, iv_c (sv sc (j + 1)), x_r 97, 147573952589676412928]) (by decide +kernel) (by decide) (x_cbV (by decide +kernel) (by show _ ≤ 600000; omega) (by show _ ≤ 7300000; omega)) (Or.inl rfl) rfl rfl (x_wr (by decide) (x_wi sv_lt (x_wr (by decide) x_wn))) x_wn (by decide) rfl (c306_0_97 hJ (by omega)) (fun r4 h2 l5 q3 => ?_)
  obtain ⟨j6, f7, g8⟩ := q3
  have q9 : h2 0 11 = h 0 11 := f7 0 11 (by decide +kernel)
  have q10 : h2 75 11 = h 75 11 := f7 75 11 (by decide +kernel)
  have q11 : h2 1 1 = h 1 1 := f7 1 1 (by decide +kernel)
  have q12 : h2 75 6 = h 75 6 := f7 75 6 (by decide +kernel)
  have q13 : h2 76 1 = h 76 1 := f7 76 1 (by decide +kernel)
  have q14 : h2 0 10 = h 0 10 := f7 0 10 (by decide +kernel)
  have q15 : h2 75 4 = h 75 4 := f7 75 4 (by decide +kernel)
  have m16 := WT.fr w76 hJ f7 (by decide)
  have m17 := WT.fr7 w77 hJ f7 (by decide)
  have m18 : h2 75 4 = 2147483649 → 2147483650 ≤ h2 77 0 := by
    rw [f7 75 4 (by decide +kernel), f7 77 0 (by decide +kernel)]
    exact hB
  have s20 := St.fr hS f7 hJ (by decide) (by decide) (by decide) (by decide) (by decide) (by decide)
  have u21 : h2 0 11 = h2 75 11 := by omega
  have t19 := Ty.fr hY f7 (by decide) (by decide)
  refine x_istore (np := 1225) (x := 5) (lo' := [55340232221128654849, x_r 0, x_r 75, x_r 97, iv_c (2147483648 + j), iv_c r4, w6]) (by decide +kernel) l5 (Nat.le_of_ble_eq_true rfl) rfl ?_
  refine x_aload (np := 1226) (x := 2) (by decide +kernel) rfl (x_nc_le (by decide)) ?_
  refine x_aloadS (np := 1227) (x := 0) (by decide +kernel) rfl ?_
  refine x_iload (np := 1229) (x := 4) (by decide +kernel) rfl (by omega) ?_
  refine x_const (np := 1230) (x := 9223372043297226753) (a := 2147483649) (by decide +kernel) (by decide) (by decide) ?_
  refine x_iadd (np := 1231) (x := 0) (v := (2147483648 + (j + 1))) (by decide +kernel) (by omega) (by decide) (by omega) (by omega) ?_
  refine x_scr (j := (j + 1)) hs (np := 1232) (x := 0) (by decide +kernel) rfl (by omega) (by omega) ?_
  have b22 : (sv sc (j + 1)) < 4294967296 := sv_lt
  refine x_cIc (t := 6) (mj := 239) (n := 2) (rc := 12) (ml := 4) (cc := 0) (ss := 0) (nr := 0) (np := 1235) (as := [x_r 75, iv_c (sv sc (j + 1))]) (rest := []) (lo1 := [x_r 75, iv_c (sv sc (j + 1)), 147573952589676412928, 147573952589676412928]) (by decide +kernel) (by decide) (x_cbV (by decide +kernel) (by show _ ≤ 600000; omega) (by show _ ≤ 7300000; omega)) (x_rb_of (by decide +kernel)) rfl rfl (x_wr (by decide) (x_wi sv_lt x_wn)) x_wn (by decide) rfl (c239_75 j6 (by omega) m16) (fun r25 h23 l26 q24 => ?_)
  obtain ⟨j27, f28, g29⟩ := q24
  have q30 : h23 0 11 = h2 0 11 := f28 0 11 (by decide +kernel)
  have q31 : h23 75 11 = h2 75 11 := f28 75 11 (by decide +kernel)
  have q32 : h23 1 1 = h2 1 1 := f28 1 1 (by decide +kernel)
  have q33 : h23 75 6 = h2 75 6 := f28 75 6 (by decide +kernel)
  have q34 : h23 76 1 = h2 76 1 := f28 76 1 (by decide +kernel)
  have q35 : h23 0 10 = h2 0 10 := f28 0 10 (by decide +kernel)
  have q36 : h23 75 4 = h2 75 4 := f28 75 4 (by decide +kernel)
  have m37 := WT.fr m16 j6 f28 (by decide)
  have m38 := WT.fr7 m17 j6 f28 (by decide)
  have m39 : h23 75 4 = 2147483649 → 2147483650 ≤ h23 77 0 := by
    rw [f28 75 4 (by decide +kernel), f28 77 0 (by decide +kernel)]
    exact m18
  have s41 := St.fr s20 f28 j6 (by decide) (by decide) (by decide) (by decide) (by decide) (by decide)
  have u42 : h23 0 11 = h23 75 11 := by omega
  have t40 := Ty.fr t19 f28 (by decide) (by decide)
  refine x_istore (np := 1237) (x := 6) (lo' := [55340232221128654849, x_r 0, x_r 75, x_r 97, iv_c (2147483648 + j), iv_c r4, iv_c r25]) (by decide +kernel) l26 (Nat.le_of_ble_eq_true rfl) rfl ?_
  refine x_goto (np := 1240) (x := 1369) (by decide +kernel) ?_
  exact k (c0 + 1) (s0 + 6) (iv_c r4) (iv_c r25) h23 (by omega) (by omega) ⟨⟨j27, by omega, m37, m38, m39, by omega⟩, t40, s41, u42⟩
set_option maxHeartbeats 0 in
theorem lc_32 {sc : Nat × Nat} {d j c0 s0 w5 w6 : Nat} {h : xh} {Q : Nat → xh → Prop} (hs : scOK sc) (hI : INV5 h) (hj : j + 6 ≤ sc.1) (hc : c0 + 2 ≤ 600000) (hz : s0 + 12 ≤ 7300000) (k : ∀ c1 s1 v5 v6 h', c1 ≤ c0 + 2 → s1 ≤ s0 + 12 → INV5 h' → X sc 309 (d + 60) Q c1 s1 1369 [55340232221128654849, x_r 0, x_r 75, x_r 97, iv_c (2147483648 + j), v5, v6] [] h') : X sc 309 (d + 60) Q c0 s0 1240 [55340232221128654849, x_r 0, x_r 75, x_r 97, iv_c (2147483648 + j), w5, w6] [] h := by
  obtain ⟨⟨hJ, hE, w76, w77, hB, hG⟩, hY, hS, hF⟩ := hI
  have h384 := hs.1
  have hS1 := hS.2.1 1 (by decide)
  have hS3 := hS.2.2.1
  refine x_aload (np := 1241) (x := 1) (by decide +kernel) rfl (x_nc_le (by decide)) ?_
  refine x_aloadS (np := 1242) (x := 0) (by decide +kernel) rfl ?_
  refine x_iload (np := 1244) (x := 4) (by decide +kernel) rfl (by omega) ?_
  refine x_const (np := 1245) (x := 9223372043297226753) (a := 2147483649) (by decide +kernel) (by decide) (by decide) ?_
  refine x_iadd (np := 1246) (x := 0) (v := (2147483648 + (j + 1))) (by decide +kernel) (by omega) (by decide) (by omega) (by omega) ?_
  refine x_scr (j := (j + 1)) hs (np := 1247) (x := 0) (by decide +kernel) rfl (by omega) (by omega) ?_
  refine x_aloadS (np := 1248) (x := 0) (by decide +kernel) rfl ?_
  refine x_iload (np := 1250) (x := 4) (by decide +kernel) rfl (by omega) ?_
  refine x_const (np := 1251) (x := 9223372047592194050) (a := 2147483650) (by decide +kernel) (by decide) (by decide) ?_
  refine x_iadd (np := 1252) (x := 0) (v := (2147483648 + (j + 2))) (by decide +kernel) (by omega) (by decide) (by omega) (by omega) ?_
  refine x_scr (j := (j + 2)) hs (np := 1253) (x := 0) (by decide +kernel) rfl (by omega) (by omega) ?_
  refine x_aload (np := 1254) (x := 3) (by decide +kernel) rfl (x_nc_le (by decide)) ?_
  have b1 : (sv sc (j + 1)) < 4294967296 := sv_lt
  have b2 : (sv sc (j + 2)) < 4294967296 := sv_lt
  refine x_cIc (t := 0) (mj := 307) (n := 4) (rc := 0) (ml := 5) (cc := 2) (ss := 12) (nr := 0) (np := 1257) (as := [x_r 0, iv_c (sv sc (j + 1)), iv_c (sv sc (j + 2)), x_r 97]) (rest := []) (lo1 := [x_r 0, iv_c (sv sc (j + 1)), iv_c (sv sc (j + 2)), x_r 97, 147573952589676412928]) (by decide +kernel) (by decide) (x_cbV (by decide +kernel) (by show _ ≤ 600000; omega) (by show _ ≤ 7300000; omega)) (Or.inl rfl) rfl rfl (x_wr (by decide) (x_wi sv_lt (x_wi sv_lt (x_wr (by decide) x_wn)))) x_wn (by decide) rfl (c307_0_97 hJ (by omega) (by omega)) (fun r5 h3 l6 q4 => ?_)
  obtain ⟨j7, f8, g9⟩ := q4
  have q10 : h3 0 11 = h 0 11 := f8 0 11 (by decide +kernel)
  have q11 : h3 75 11 = h 75 11 := f8 75 11 (by decide +kernel)
  have q12 : h3 1 1 = h 1 1 := f8 1 1 (by decide +kernel)
  have q13 : h3 75 6 = h 75 6 := f8 75 6 (by decide +kernel)
  have q14 : h3 76 1 = h 76 1 := f8 76 1 (by decide +kernel)
  have q15 : h3 0 10 = h 0 10 := f8 0 10 (by decide +kernel)
  have q16 : h3 75 4 = h 75 4 := f8 75 4 (by decide +kernel)
  have m17 := WT.fr w76 hJ f8 (by decide)
  have m18 := WT.fr7 w77 hJ f8 (by decide)
  have m19 : h3 75 4 = 2147483649 → 2147483650 ≤ h3 77 0 := by
    rw [f8 75 4 (by decide +kernel), f8 77 0 (by decide +kernel)]
    exact hB
  have s21 := St.fr hS f8 hJ (by decide) (by decide) (by decide) (by decide) (by decide) (by decide)
  have u22 : h3 0 11 = h3 75 11 := by omega
  have t20 := Ty.fr hY f8 (by decide) (by decide)
  refine x_istore (np := 1259) (x := 5) (lo' := [55340232221128654849, x_r 0, x_r 75, x_r 97, iv_c (2147483648 + j), iv_c r5, w6]) (by decide +kernel) l6 (Nat.le_of_ble_eq_true rfl) rfl ?_
  refine x_aload (np := 1260) (x := 2) (by decide +kernel) rfl (x_nc_le (by decide)) ?_
  refine x_aloadS (np := 1261) (x := 0) (by decide +kernel) rfl ?_
  refine x_iload (np := 1263) (x := 4) (by decide +kernel) rfl (by omega) ?_
  refine x_const (np := 1264) (x := 9223372043297226753) (a := 2147483649) (by decide +kernel) (by decide) (by decide) ?_
  refine x_iadd (np := 1265) (x := 0) (v := (2147483648 + (j + 1))) (by decide +kernel) (by omega) (by decide) (by omega) (by omega) ?_
  refine x_scr (j := (j + 1)) hs (np := 1266) (x := 0) (by decide +kernel) rfl (by omega) (by omega) ?_
  refine x_aloadS (np := 1267) (x := 0) (by decide +kernel) rfl ?_
  refine x_iload (np := 1269) (x := 4) (by decide +kernel) rfl (by omega) ?_
  refine x_const (np := 1270) (x := 9223372047592194050) (a := 2147483650) (by decide +kernel) (by decide) (by decide) ?_
  refine x_iadd (np := 1271) (x := 0) (v := (2147483648 + (j + 2))) (by decide +kernel) (by omega) (by decide) (by omega) (by omega) ?_
  refine x_scr (j := (j + 2)) hs (np := 1272) (x := 0) (by decide +kernel) rfl (by omega) (by omega) ?_
  have b23 : (sv sc (j + 1)) < 4294967296 := sv_lt
  have b24 : (sv sc (j + 2)) < 4294967296 := sv_lt
  refine x_cIc (t := 6) (mj := 240) (n := 3) (rc := 12) (ml := 5) (cc := 0) (ss := 0) (nr := 0) (np := 1275) (as := [x_r 75, iv_c (sv sc (j + 1)), iv_c (sv sc (j + 2))]) (rest := []) (lo1 := [x_r 75, iv_c (sv sc (j + 1)), iv_c (sv sc (j + 2)), 147573952589676412928, 147573952589676412928]) (by decide +kernel) (by decide) (x_cbV (by decide +kernel) (by show _ ≤ 600000; omega) (by show _ ≤ 7300000; omega)) (x_rb_of (by decide +kernel)) rfl rfl (x_wr (by decide) (x_wi sv_lt (x_wi sv_lt x_wn))) x_wn (by decide) rfl (c240_75 j7 (by omega) (by omega) m17) (fun r27 h25 l28 q26 => ?_)
  obtain ⟨j29, f30, g31⟩ := q26
  have q32 : h25 0 11 = h3 0 11 := f30 0 11 (by decide +kernel)
  have q33 : h25 75 11 = h3 75 11 := f30 75 11 (by decide +kernel)
  have q34 : h25 1 1 = h3 1 1 := f30 1 1 (by decide +kernel)
  have q35 : h25 75 6 = h3 75 6 := f30 75 6 (by decide +kernel)
  have q36 : h25 76 1 = h3 76 1 := f30 76 1 (by decide +kernel)
  have q37 : h25 0 10 = h3 0 10 := f30 0 10 (by decide +kernel)
  have q38 : h25 75 4 = h3 75 4 := f30 75 4 (by decide +kernel)
  have m39 := WT.fr m17 j7 f30 (by decide)
  have m40 := WT.fr7 m18 j7 f30 (by decide)
  have m41 : h25 75 4 = 2147483649 → 2147483650 ≤ h25 77 0 := by
    rw [f30 75 4 (by decide +kernel), f30 77 0 (by decide +kernel)]
    exact m19
  have s43 := St.fr s21 f30 j7 (by decide) (by decide) (by decide) (by decide) (by decide) (by decide)
  have u44 : h25 0 11 = h25 75 11 := by omega
  have t42 := Ty.fr t20 f30 (by decide) (by decide)
  refine x_istore (np := 1277) (x := 6) (lo' := [55340232221128654849, x_r 0, x_r 75, x_r 97, iv_c (2147483648 + j), iv_c r5, iv_c r27]) (by decide +kernel) l28 (Nat.le_of_ble_eq_true rfl) rfl ?_
  refine x_goto (np := 1280) (x := 1369) (by decide +kernel) ?_
  exact k (c0 + 2) (s0 + 12) (iv_c r5) (iv_c r27) h25 (by omega) (by omega) ⟨⟨j29, by omega, m39, m40, m41, by omega⟩, t42, s43, u44⟩
set_option maxHeartbeats 0 in
theorem lc_33 {sc : Nat × Nat} {d j c0 s0 w5 w6 : Nat} {h : xh} {Q : Nat → xh → Prop} (hs : scOK sc) (hI : INV5 h) (hj : j + 6 ≤ sc.1) (hc : c0 + 2 ≤ 600000) (hz : s0 + 12 ≤ 7300000) (k : ∀ c1 s1 v5 v6 h', c1 ≤ c0 + 2 → s1 ≤ s0 + 12 → INV5 h' → X sc 309 (d + 60) Q c1 s1 1369 [55340232221128654849, x_r 0, x_r 75, x_r 97, iv_c (2147483648 + j), v5, v6] [] h') : X sc 309 (d + 60) Q c0 s0 1280 [55340232221128654849, x_r 0, x_r 75, x_r 97, iv_c (2147483648 + j), w5, w6] [] h := by
  obtain ⟨⟨hJ, hE, w76, w77, hB, hG⟩, hY, hS, hF⟩ := hI
  have h384 := hs.1
  have hS1 := hS.2.1 1 (by decide)
  have hS3 := hS.2.2.1
  refine x_aload (np := 1281) (x := 1) (by decide +kernel) rfl (x_nc_le (by decide)) ?_
  refine x_aloadS (np := 1282) (x := 0) (by decide +kernel) rfl ?_
  refine x_iload (np := 1284) (x := 4) (by decide +kernel) rfl (by omega) ?_
  refine x_const (np := 1285) (x := 9223372043297226753) (a := 2147483649) (by decide +kernel) (by decide) (by decide) ?_
  refine x_iadd (np := 1286) (x := 0) (v := (2147483648 + (j + 1))) (by decide +kernel) (by omega) (by decide) (by omega) (by omega) ?_
  refine x_scr (j := (j + 1)) hs (np := 1287) (x := 0) (by decide +kernel) rfl (by omega) (by omega) ?_
  refine x_aloadS (np := 1288) (x := 0) (by decide +kernel) rfl ?_
  refine x_iload (np := 1290) (x := 4) (by decide +kernel) rfl (by omega) ?_
  refine x_const (np := 1291) (x := 9223372047592194050) (a := 2147483650) (by decide +kernel) (by decide) (by decide) ?_
  refine x_iadd (np := 1292) (x := 0) (v := (2147483648 + (j + 2))) (by decide +kernel) (by omega) (by decide) (by omega) (by omega) ?_
  refine x_scr (j := (j + 2)) hs (np := 1293) (x := 0) (by decide +kernel) rfl (by omega) (by omega) ?_
  refine x_aload (np := 1294) (x := 3) (by decide +kernel) rfl (x_nc_le (by decide)) ?_
  have b1 : (sv sc (j + 1)) < 4294967296 := sv_lt
  have b2 : (sv sc (j + 2)) < 4294967296 := sv_lt
  refine x_cIc (t := 0) (mj := 308) (n := 4) (rc := 0) (ml := 5) (cc := 2) (ss := 12) (nr := 0) (np := 1297) (as := [x_r 0, iv_c (sv sc (j + 1)), iv_c (sv sc (j + 2)), x_r 97]) (rest := []) (lo1 := [x_r 0, iv_c (sv sc (j + 1)), iv_c (sv sc (j + 2)), x_r 97, 147573952589676412928]) (by decide +kernel) (by decide) (x_cbV (by decide +kernel) (by show _ ≤ 600000; omega) (by show _ ≤ 7300000; omega)) (Or.inl rfl) rfl rfl (x_wr (by decide) (x_wi sv_lt (x_wi sv_lt (x_wr (by decide) x_wn)))) x_wn (by decide) rfl (c308_0_97 hJ (by omega) (by omega)) (fun r5 h3 l6 q4 => ?_)
  obtain ⟨j7, f8, g9⟩ := q4
  have q10 : h3 0 11 = h 0 11 := f8 0 11 (by decide +kernel)
  have q11 : h3 75 11 = h 75 11 := f8 75 11 (by decide +kernel)
  have q12 : h3 1 1 = h 1 1 := f8 1 1 (by decide +kernel)
  have q13 : h3 75 6 = h 75 6 := f8 75 6 (by decide +kernel)
  have q14 : h3 76 1 = h 76 1 := f8 76 1 (by decide +kernel)
  have q15 : h3 0 10 = h 0 10 := f8 0 10 (by decide +kernel)
  have q16 : h3 75 4 = h 75 4 := f8 75 4 (by decide +kernel)
  have m17 := WT.fr w76 hJ f8 (by decide)
  have m18 := WT.fr7 w77 hJ f8 (by decide)
  have m19 : h3 75 4 = 2147483649 → 2147483650 ≤ h3 77 0 := by
    rw [f8 75 4 (by decide +kernel), f8 77 0 (by decide +kernel)]
    exact hB
  have s21 := St.fr hS f8 hJ (by decide) (by decide) (by decide) (by decide) (by decide) (by decide)
  have u22 : h3 0 11 = h3 75 11 := by omega
  have t20 := Ty.fr hY f8 (by decide) (by decide)
  refine x_istore (np := 1299) (x := 5) (lo' := [55340232221128654849, x_r 0, x_r 75, x_r 97, iv_c (2147483648 + j), iv_c r5, w6]) (by decide +kernel) l6 (Nat.le_of_ble_eq_true rfl) rfl ?_
  refine x_aload (np := 1300) (x := 2) (by decide +kernel) rfl (x_nc_le (by decide)) ?_
  refine x_aloadS (np := 1301) (x := 0) (by decide +kernel) rfl ?_
  refine x_iload (np := 1303) (x := 4) (by decide +kernel) rfl (by omega) ?_
  refine x_const (np := 1304) (x := 9223372043297226753) (a := 2147483649) (by decide +kernel) (by decide) (by decide) ?_
  refine x_iadd (np := 1305) (x := 0) (v := (2147483648 + (j + 1))) (by decide +kernel) (by omega) (by decide) (by omega) (by omega) ?_
  refine x_scr (j := (j + 1)) hs (np := 1306) (x := 0) (by decide +kernel) rfl (by omega) (by omega) ?_
  refine x_aloadS (np := 1307) (x := 0) (by decide +kernel) rfl ?_
  refine x_iload (np := 1309) (x := 4) (by decide +kernel) rfl (by omega) ?_
  refine x_const (np := 1310) (x := 9223372047592194050) (a := 2147483650) (by decide +kernel) (by decide) (by decide) ?_
  refine x_iadd (np := 1311) (x := 0) (v := (2147483648 + (j + 2))) (by decide +kernel) (by omega) (by decide) (by omega) (by omega) ?_
  refine x_scr (j := (j + 2)) hs (np := 1312) (x := 0) (by decide +kernel) rfl (by omega) (by omega) ?_
  have b23 : (sv sc (j + 1)) < 4294967296 := sv_lt
  have b24 : (sv sc (j + 2)) < 4294967296 := sv_lt
  refine x_cIc (t := 6) (mj := 241) (n := 3) (rc := 12) (ml := 4) (cc := 0) (ss := 0) (nr := 0) (np := 1315) (as := [x_r 75, iv_c (sv sc (j + 1)), iv_c (sv sc (j + 2))]) (rest := []) (lo1 := [x_r 75, iv_c (sv sc (j + 1)), iv_c (sv sc (j + 2)), 147573952589676412928]) (by decide +kernel) (by decide) (x_cbV (by decide +kernel) (by show _ ≤ 600000; omega) (by show _ ≤ 7300000; omega)) (x_rb_of (by decide +kernel)) rfl rfl (x_wr (by decide) (x_wi sv_lt (x_wi sv_lt x_wn))) x_wn (by decide) rfl (c241_75 j7 (by omega) (by omega) m17) (fun r27 h25 l28 q26 => ?_)
  obtain ⟨j29, f30, g31⟩ := q26
  have q32 : h25 0 11 = h3 0 11 := f30 0 11 (by decide +kernel)
  have q33 : h25 75 11 = h3 75 11 := f30 75 11 (by decide +kernel)
  have q34 : h25 1 1 = h3 1 1 := f30 1 1 (by decide +kernel)
  have q35 : h25 75 6 = h3 75 6 := f30 75 6 (by decide +kernel)
  have q36 : h25 76 1 = h3 76 1 := f30 76 1 (by decide +kernel)
  have q37 : h25 0 10 = h3 0 10 := f30 0 10 (by decide +kernel)
  have q38 : h25 75 4 = h3 75 4 := f30 75 4 (by decide +kernel)
  have m39 := WT.fr m17 j7 f30 (by decide)
  have m40 := WT.fr7 m18 j7 f30 (by decide)
  have m41 : h25 75 4 = 2147483649 → 2147483650 ≤ h25 77 0 := by
    rw [f30 75 4 (by decide +kernel), f30 77 0 (by decide +kernel)]
    exact m19
  have s43 := St.fr s21 f30 j7 (by decide) (by decide) (by decide) (by decide) (by decide) (by decide)
  have u44 : h25 0 11 = h25 75 11 := by omega
  have t42 := Ty.fr t20 f30 (by decide) (by decide)
  refine x_istore (np := 1317) (x := 6) (lo' := [55340232221128654849, x_r 0, x_r 75, x_r 97, iv_c (2147483648 + j), iv_c r5, iv_c r27]) (by decide +kernel) l28 (Nat.le_of_ble_eq_true rfl) rfl ?_
  refine x_goto (np := 1320) (x := 1369) (by decide +kernel) ?_
  exact k (c0 + 2) (s0 + 12) (iv_c r5) (iv_c r27) h25 (by omega) (by omega) ⟨⟨j29, by omega, m39, m40, m41, by omega⟩, t42, s43, u44⟩
set_option maxHeartbeats 0 in
theorem lc_34 {sc : Nat × Nat} {d j c0 s0 w5 w6 : Nat} {h : xh} {Q : Nat → xh → Prop} (hs : scOK sc) (hI : INV5 h) (hj : j + 6 ≤ sc.1) (hc : c0 + 2 ≤ 600000) (hz : s0 + 12 ≤ 7300000) (k : ∀ c1 s1 v5 v6 h', c1 ≤ c0 + 2 → s1 ≤ s0 + 12 → INV5 h' → X sc 309 (d + 60) Q c1 s1 1369 [55340232221128654849, x_r 0, x_r 75, x_r 97, iv_c (2147483648 + j), v5, v6] [] h') : X sc 309 (d + 60) Q c0 s0 1320 [55340232221128654849, x_r 0, x_r 75, x_r 97, iv_c (2147483648 + j), w5, w6] [] h := by
  obtain ⟨⟨hJ, hE, w76, w77, hB, hG⟩, hY, hS, hF⟩ := hI
  have h384 := hs.1
  have hS1 := hS.2.1 1 (by decide)
  have hS3 := hS.2.2.1
  refine x_aload (np := 1321) (x := 1) (by decide +kernel) rfl (x_nc_le (by decide)) ?_
  refine x_cVc (t := 6) (mj := 138) (n := 1) (rc := 11) (ml := 1) (cc := 0) (ss := 0) (nr := 0) (np := 1324) (as := [x_r 0]) (rest := []) (lo1 := [x_r 0]) (by decide +kernel) (by decide) (x_cbV (by decide +kernel) (by show _ ≤ 600000; omega) (by show _ ≤ 7300000; omega)) (x_rb_of (by decide +kernel)) rfl rfl (x_wr (by decide) x_wn) x_wn (by decide) rfl (c138_0 hJ) (fun h1 q2 => ?_)
  obtain ⟨j5, f6, g7, g8, g9, g10, g11⟩ := q2
  have q12 : h1 0 11 = h 0 11 := f6 0 11 (by decide +kernel)
  have q13 : h1 75 11 = h 75 11 := f6 75 11 (by decide +kernel)
  have q14 : h1 1 1 = h 1 1 := f6 1 1 (by decide +kernel)
  have q15 : h1 75 6 = h 75 6 := f6 75 6 (by decide +kernel)
  have q16 : h1 76 1 = h 76 1 := f6 76 1 (by decide +kernel)
  have q17 : h1 75 4 = h 75 4 := f6 75 4 (by decide +kernel)
  have m18 := WT.fr w76 hJ f6 (by decide)
  have m19 := WT.fr7 w77 hJ f6 (by decide)
  have m20 : h1 75 4 = 2147483649 → 2147483650 ≤ h1 77 0 := by
    rw [f6 75 4 (by decide +kernel), f6 77 0 (by decide +kernel)]
    exact hB
  have u23 : h1 0 11 = h1 75 11 := by omega
  have t21 := Ty.fr hY f6 (by decide) (by decide)
  refine x_aload (np := 1325) (x := 2) (by decide +kernel) rfl (x_nc_le (by decide)) ?_
  refine x_cVc (t := 6) (mj := 155) (n := 1) (rc := 12) (ml := 2) (cc := 0) (ss := 0) (nr := 0) (np := 1328) (as := [x_r 75]) (rest := []) (lo1 := [x_r 75, 147573952589676412928]) (by decide +kernel) (by decide) (x_cbV (by decide +kernel) (by show _ ≤ 600000; omega) (by show _ ≤ 7300000; omega)) (x_rb_of (by decide +kernel)) rfl rfl (x_wr (by decide) x_wn) x_wn (by decide) rfl (c155_75 j5) (fun h24 q25 => ?_)
  obtain ⟨j28, f29, g30, g31⟩ := q25
  have q32 : h24 0 11 = h1 0 11 := f29 0 11 (by decide +kernel)
  have q33 : h24 75 11 = h1 75 11 := f29 75 11 (by decide +kernel)
  have q34 : h24 1 1 = h1 1 1 := f29 1 1 (by decide +kernel)
  have q35 : h24 75 6 = h1 75 6 := f29 75 6 (by decide +kernel)
  have q36 : h24 76 1 = h1 76 1 := f29 76 1 (by decide +kernel)
  have q37 : h24 0 10 = h1 0 10 := f29 0 10 (by decide +kernel)
  have m38 := WT.fr m18 j5 f29 (by decide)
  have m39 : WT 77 h24 := WT.of m18 j5 (Or.inl rfl) (fun i _ h9 => g31 i h9)
  have m40 : h24 75 4 = 2147483649 → 2147483650 ≤ h24 77 0 := fun _ => by
    rw [g31 0 (by decide)]
    have z := (j5.1 76 0 (by decide) (by decide +kernel)).1
    rw [show j_lo 76 0 = 2147483650 by decide +kernel] at z
    exact z
  have s42 := St.image hS g8 g9 g10 g11 g31 j5 f6 (by decide) f29 (by decide) (by decide) (by decide) (by decide)
  have u43 : h24 0 11 = h24 75 11 := by omega
  have t41 := Ty.fr t21 f29 (by decide) (by decide)
  refine x_goto (np := 1331) (x := 1369) (by decide +kernel) ?_
  exact k c0 s0 w5 w6 h24 (by omega) (by omega) ⟨⟨j28, by omega, m38, m39, m40, by omega⟩, t41, s42, u43⟩
set_option maxHeartbeats 0 in
theorem lc_35 {sc : Nat × Nat} {d j c0 s0 w5 w6 : Nat} {h : xh} {Q : Nat → xh → Prop} (hs : scOK sc) (hI : INV5 h) (hj : j + 6 ≤ sc.1) (hc : c0 + 2 ≤ 600000) (hz : s0 + 12 ≤ 7300000) (k : ∀ c1 s1 v5 v6 h', c1 ≤ c0 + 2 → s1 ≤ s0 + 12 → INV5 h' → X sc 309 (d + 60) Q c1 s1 1369 [55340232221128654849, x_r 0, x_r 75, x_r 97, iv_c (2147483648 + j), v5, v6] [] h') : X sc 309 (d + 60) Q c0 s0 1331 [55340232221128654849, x_r 0, x_r 75, x_r 97, iv_c (2147483648 + j), w5, w6] [] h := by
  obtain ⟨⟨hJ, hE, w76, w77, hB, hG⟩, hY, hS, hF⟩ := hI
  have h384 := hs.1
  have hS1 := hS.2.1 1 (by decide)
  have hS3 := hS.2.2.1
  refine x_aload (np := 1332) (x := 1) (by decide +kernel) rfl (x_nc_le (by decide)) ?_
  refine x_cIc (t := 6) (mj := 139) (n := 1) (rc := 11) (ml := 1) (cc := 0) (ss := 0) (nr := 0) (np := 1335) (as := [x_r 0]) (rest := []) (lo1 := [x_r 0]) (by decide +kernel) (by decide) (x_cbV (by decide +kernel) (by show _ ≤ 600000; omega) (by show _ ≤ 7300000; omega)) (x_rb_of (by decide +kernel)) rfl rfl (x_wr (by decide) x_wn) x_wn (by decide) rfl (c139_0 hJ) (fun r3 h1 l4 q2 => ?_)
  obtain ⟨j5, f6, g7, g8, g9, g10, g11, g12⟩ := q2
  have q13 : h1 0 11 = h 0 11 := f6 0 11 (by decide +kernel)
  have q14 : h1 75 11 = h 75 11 := f6 75 11 (by decide +kernel)
  have q15 : h1 1 1 = h 1 1 := f6 1 1 (by decide +kernel)
  have q16 : h1 75 6 = h 75 6 := f6 75 6 (by decide +kernel)
  have q17 : h1 76 1 = h 76 1 := f6 76 1 (by decide +kernel)
  have q18 : h1 0 10 = h 0 10 := f6 0 10 (by decide +kernel)
  have q19 : h1 75 4 = h 75 4 := f6 75 4 (by decide +kernel)
  have m20 := WT.fr w76 hJ f6 (by decide)
  have m21 := WT.fr7 w77 hJ f6 (by decide)
  have m22 : h1 75 4 = 2147483649 → 2147483650 ≤ h1 77 0 := by
    rw [f6 75 4 (by decide +kernel), f6 77 0 (by decide +kernel)]
    exact hB
  have u25 : h1 0 11 = h1 75 11 := by omega
  have t23 := Ty.fr hY f6 (by decide) (by decide)
  refine x_pop (by decide +kernel) l4 ?_
  refine x_aload (np := 1337) (x := 2) (by decide +kernel) rfl (x_nc_le (by decide)) ?_
  refine x_cIc (t := 6) (mj := 156) (n := 1) (rc := 12) (ml := 2) (cc := 0) (ss := 0) (nr := 0) (np := 1340) (as := [x_r 75]) (rest := []) (lo1 := [x_r 75, 147573952589676412928]) (by decide +kernel) (by decide) (x_cbV (by decide +kernel) (by show _ ≤ 600000; omega) (by show _ ≤ 7300000; omega)) (x_rb_of (by decide +kernel)) rfl rfl (x_wr (by decide) x_wn) x_wn (by decide) rfl (c156_75 j5 m22) (fun r28 h26 l29 q27 => ?_)
  obtain ⟨j30, f31, g32, g33, g34, g35⟩ := q27
  have q36 : h26 0 11 = h1 0 11 := f31 0 11 (by decide +kernel)
  have q37 : h26 75 11 = h1 75 11 := f31 75 11 (by decide +kernel)
  have q38 : h26 1 1 = h1 1 1 := f31 1 1 (by decide +kernel)
  have q39 : h26 75 6 = h1 75 6 := f31 75 6 (by decide +kernel)
  have q40 : h26 0 10 = h1 0 10 := f31 0 10 (by decide +kernel)
  have q41 : h26 75 4 = h1 75 4 := f31 75 4 (by decide +kernel)
  have m42 : WT 76 h26 := by
    rcases (show r28 = 2147483649 ∨ r28 = 2147483648 by omega) with z | z
    · exact WT.of m21 j5 (Or.inr rfl) (fun i _ h9 => g34 z i h9)
    · exact WT.of m20 j5 (Or.inl rfl) (fun i _ _ => g35 z i)
  have m43 := WT.fr7 m21 j5 f31 (by decide)
  have m44 : h26 75 4 = 2147483649 → 2147483650 ≤ h26 77 0 := by
    rw [f31 75 4 (by decide +kernel), f31 77 0 (by decide +kernel)]
    exact m22
  have s46 := St.back hS (by omega) (by omega) g9 g10 g11 g12 (by omega) g34 g35 j5 f6 (by decide) (by decide) (by decide) (by decide) f31 (by decide) (by decide) (by decide) (by decide) (by decide)
  have u47 : h26 0 11 = h26 75 11 := by omega
  have t45 := Ty.fr t23 f31 (by decide) (by decide)
  refine x_pop (by decide +kernel) l29 ?_
  refine x_goto (np := 1344) (x := 1369) (by decide +kernel) ?_
  exact k c0 s0 w5 w6 h26 (by omega) (by omega) ⟨⟨j30, by omega, m42, m43, m44, by omega⟩, t45, s46, u47⟩
set_option maxHeartbeats 0 in
theorem lc_36 {sc : Nat × Nat} {d j c0 s0 w5 w6 : Nat} {h : xh} {Q : Nat → xh → Prop} (hs : scOK sc) (hI : INV5 h) (hj : j + 6 ≤ sc.1) (hc : c0 + 2 ≤ 600000) (hz : s0 + 12 ≤ 7300000) (k : ∀ c1 s1 v5 v6 h', c1 ≤ c0 + 2 → s1 ≤ s0 + 12 → INV5 h' → X sc 309 (d + 60) Q c1 s1 1369 [55340232221128654849, x_r 0, x_r 75, x_r 97, iv_c (2147483648 + j), v5, v6] [] h') : X sc 309 (d + 60) Q c0 s0 1344 [55340232221128654849, x_r 0, x_r 75, x_r 97, iv_c (2147483648 + j), w5, w6] [] h := by
  obtain ⟨⟨hJ, hE, w76, w77, hB, hG⟩, hY, hS, hF⟩ := hI
  have h384 := hs.1
  have hS1 := hS.2.1 1 (by decide)
  have hS3 := hS.2.2.1
  refine x_aload (np := 1345) (x := 1) (by decide +kernel) rfl (x_nc_le (by decide)) ?_
  refine x_aloadS (np := 1346) (x := 0) (by decide +kernel) rfl ?_
  refine x_iload (np := 1348) (x := 4) (by decide +kernel) rfl (by omega) ?_
  refine x_const (np := 1349) (x := 9223372043297226753) (a := 2147483649) (by decide +kernel) (by decide) (by decide) ?_
  refine x_iadd (np := 1350) (x := 0) (v := (2147483648 + (j + 1))) (by decide +kernel) (by omega) (by decide) (by omega) (by omega) ?_
  refine x_scr (j := (j + 1)) hs (np := 1351) (x := 0) (by decide +kernel) rfl (by omega) (by omega) ?_
  have b1 : (sv sc (j + 1)) < 4294967296 := sv_lt
  refine x_cIc (t := 6) (mj := 140) (n := 2) (rc := 11) (ml := 2) (cc := 0) (ss := 0) (nr := 0) (np := 1354) (as := [x_r 0, iv_c (sv sc (j + 1))]) (rest := []) (lo1 := [x_r 0, iv_c (sv sc (j + 1))]) (by decide +kernel) (by decide) (x_cbV (by decide +kernel) (by show _ ≤ 600000; omega) (by show _ ≤ 7300000; omega)) (x_rb_of (by decide +kernel)) rfl rfl (x_wr (by decide) (x_wi sv_lt x_wn)) x_wn (by decide) rfl (c140_0 hJ (by omega)) (fun r4 h2 l5 q3 => ?_)
  obtain ⟨q6, b7⟩ := q3
  rw [q6]
  refine x_pop (by decide +kernel) l5 ?_
  refine x_aload (np := 1356) (x := 2) (by decide +kernel) rfl (x_nc_le (by decide)) ?_
  refine x_aloadS (np := 1357) (x := 0) (by decide +kernel) rfl ?_
  refine x_iload (np := 1359) (x := 4) (by decide +kernel) rfl (by omega) ?_
  refine x_const (np := 1360) (x := 9223372043297226753) (a := 2147483649) (by decide +kernel) (by decide) (by decide) ?_
  refine x_iadd (np := 1361) (x := 0) (v := (2147483648 + (j + 1))) (by decide +kernel) (by omega) (by decide) (by omega) (by omega) ?_
  refine x_scr (j := (j + 1)) hs (np := 1362) (x := 0) (by decide +kernel) rfl (by omega) (by omega) ?_
  have b8 : (sv sc (j + 1)) < 4294967296 := sv_lt
  refine x_cIc (t := 6) (mj := 268) (n := 2) (rc := 12) (ml := 4) (cc := 0) (ss := 0) (nr := 0) (np := 1365) (as := [x_r 75, iv_c (sv sc (j + 1))]) (rest := []) (lo1 := [x_r 75, iv_c (sv sc (j + 1)), 147573952589676412928, 147573952589676412928]) (by decide +kernel) (by decide) (x_cbV (by decide +kernel) (by show _ ≤ 600000; omega) (by show _ ≤ 7300000; omega)) (x_rb_of (by decide +kernel)) rfl rfl (x_wr (by decide) (x_wi sv_lt x_wn)) x_wn (by decide) rfl (c268_75 hJ (by omega) w76) (fun r11 h9 l12 q10 => ?_)
  obtain ⟨j13, f14, g15⟩ := q10
  have q16 : h9 0 11 = h 0 11 := f14 0 11 (by decide +kernel)
  have q17 : h9 75 11 = h 75 11 := f14 75 11 (by decide +kernel)
  have q18 : h9 1 1 = h 1 1 := f14 1 1 (by decide +kernel)
  have q19 : h9 75 6 = h 75 6 := f14 75 6 (by decide +kernel)
  have q20 : h9 76 1 = h 76 1 := f14 76 1 (by decide +kernel)
  have q21 : h9 0 10 = h 0 10 := f14 0 10 (by decide +kernel)
  have q22 : h9 75 4 = h 75 4 := f14 75 4 (by decide +kernel)
  have m23 := WT.fr w76 hJ f14 (by decide)
  have m24 := WT.fr7 w77 hJ f14 (by decide)
  have m25 : h9 75 4 = 2147483649 → 2147483650 ≤ h9 77 0 := by
    rw [f14 75 4 (by decide +kernel), f14 77 0 (by decide +kernel)]
    exact hB
  have s27 := St.fr hS f14 hJ (by decide) (by decide) (by decide) (by decide) (by decide) (by decide)
  have u28 : h9 0 11 = h9 75 11 := by omega
  have t26 := Ty.fr hY f14 (by decide) (by decide)
  refine x_pop (by decide +kernel) l12 ?_
  refine x_goto (np := 1369) (x := 1369) (by decide +kernel) ?_
  exact k c0 s0 w5 w6 h9 (by omega) (by omega) ⟨⟨j13, by omega, m23, m24, m25, by omega⟩, t26, s27, u28⟩
