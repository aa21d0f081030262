/-! ===== methods ===== -/
set_option maxHeartbeats 0 in
/-- LentNamesModel.readAllOf()Z -/
theorem c191_75_D4 {sc : Nat × Nat} {d  : Nat} {h : xh} (hJ : J h) (hr0 : (h 75 13) + 5 ≤ (h 75 7)) (hr1 : (h 75 10) = 2147483652) : X sc 191 (d + 14) (xI fun r h' => J h' ∧ Fr 97517569 h h' ∧ (2147483648 ≤ r ∧ r ≤ 2147483649) ∧ (r = 2147483649 → h' 75 13 + h 75 7 ≤ h' 75 7 + h 75 13) ∧ (r = 2147483649 → h' 75 10 = h 75 10) ∧ (r = 2147483649 → h 75 7 + 0 ≤ h' 75 7) ∧ (r = 2147483649 → h 75 13 ≤ h' 75 13) ∧ Kp h h' (h 75 13 - 2147483648) ∧ (r = 2147483649 → Seg (sg h') (h 75 13 - 2147483648) (h' 75 13 - 2147483648))) 0 0 0 [x_r 75] [] h := by
  have hF := Fr.refl 97517569 h
  have b1 := jB (e := 13) 0 hJ rg_75_13_0_1 (by omega) (by omega)
  have b2 := jB (e := 7) 0 hJ rg_75_7_0_1 (by omega) (by omega)
  have b3 := jB (e := 10) 0 hJ rg_75_10_0_1 (by omega) (by omega)
  refine x_aload (np := 1) (x := 0) (by decide +kernel) rfl (x_nc_le (by decide)) ?_
  refine x_cI (t := 6) (mj := 190) (n := 1) (rc := 12) (ml := 3) (nr := 0) (np := 4) (as := [x_r 75]) (rest := []) (lo1 := [x_r 75, 147573952589676412928, 147573952589676412928]) (by decide +kernel) (by decide) (by decide +kernel) (x_rb_of (by decide +kernel)) rfl rfl (x_wr (by decide) x_wn) x_wn (by decide) rfl (c190_75_D4 hJ  (by omega) (by omega)) (fun v4 h7 l5 q6 => ?_)
  obtain ⟨j8, f9, b10, c11, c12, c13, c14, c15, c16⟩ := q6
  have f17 := Fr.trans hF f9 (by decide)
  have b18 := jB (e := 13) 0 j8 rg_75_13_0_1 (by omega) (by omega)
  have b19 := jB (e := 7) 0 j8 rg_75_7_0_1 (by omega) (by omega)
  have b20 := jB (e := 10) 0 j8 rg_75_10_0_1 (by omega) (by omega)
  refine x_ifz (k := 1) (tg := 9) (np := 7) (by decide +kernel) (by decide) l5 (fun q21 => ?_) (fun q22 => ?_)
  · have q21 : v4 ≠ 2147483648 := q21
    have b23 := c11 (by omega)
    have b24 := c12 (by omega)
    have b25 := c13 (by omega)
    have b26 := c14 (by omega)
    have s27 := c16 (by omega)
    have p187 : ∀ (n : Nat) (h184 : xh), 4294967296 - h184 75 7 < n → h184 75 13 + h 75 7 ≤ h184 75 7 + h 75 13 → h184 75 10 = h 75 10 → h 75 7 ≤ h184 75 7 → h 75 13 ≤ h184 75 13 → J h184 → Fr 97517569 h7 h184 → Kp h h184 (h 75 13 - 2147483648) → Seg (sg h184) (h 75 13 - 2147483648) (h184 75 13 - 2147483648) → X sc 191 (d + 14) (xI fun r h' => J h' ∧ Fr 97517569 h h' ∧ (2147483648 ≤ r ∧ r ≤ 2147483649) ∧ (r = 2147483649 → h' 75 13 + h 75 7 ≤ h' 75 7 + h 75 13) ∧ (r = 2147483649 → h' 75 10 = h 75 10) ∧ (r = 2147483649 → h 75 7 + 0 ≤ h' 75 7) ∧ (r = 2147483649 → h 75 13 ≤ h' 75 13) ∧ Kp h h' (h 75 13 - 2147483648) ∧ (r = 2147483649 → Seg (sg h') (h 75 13 - 2147483648) (h' 75 13 - 2147483648))) 0 0 9 [x_r 75] [] h184 := by
      intro n
      induction n with
      | zero => intro h184 q194; exact absurd q194 (Nat.not_lt_zero _)
      | succ n i195 =>
        intro h184 q194 b188 b189 b190 b191 j186 f185 m192 m193
        have f196 := Fr.trans f17 f185 (by decide)
        refine x_aload (np := 10) (x := 0) (by decide +kernel) rfl (x_nc_le (by decide)) ?_
        refine x_ldcwB (i := 31) (idx := 257) (tx := "and") (by rw [tb_y191]; exact List.mem_of_getElem? (i := 66) rfl) (by decide) (by rw [tb_b191]; decide +kernel) ?_
        refine x_cI (t := 6) (mj := 171) (n := 2) (rc := 12) (ml := 2) (nr := 0) (np := 16) (as := [x_r 75, x_b (31 + 1)]) (rest := []) (lo1 := [x_r 75, x_b (31 + 1)]) (by decide +kernel) (by decide) (by decide +kernel) (x_rb_of (by decide +kernel)) rfl rfl (x_wr (by decide) (x_wB (by decide) x_wn)) x_wn (by decide) rfl (c171_75_S0 j186  (by decide)) (fun v197 h200 l198 q199 => ?_)
        obtain ⟨j201, f202, b203, c204, c205⟩ := q199
        have f206 := Fr.trans f196 f202 (by decide)
        have f207 := Fr.trans f185 f202 (by decide)
        have b208 := jB (e := 7) 0 j186 rg_75_7_0_1 (by omega) (by omega)
        have b209 := jB (e := 7) 0 j201 rg_75_7_0_1 (by omega) (by omega)
        refine x_ifz (k := 0) (tg := 38) (np := 19) (by decide +kernel) (by decide) l198 (fun q210 => ?_) (fun q211 => ?_)
        · have q210 : v197 = 2147483648 := q210
          refine x_const (np := 39) (x := 9223372043297226753) (a := 2147483649) (by decide +kernel) (by decide) (by decide) ?_
          have q212 : h200 75 13 = h184 75 13 := jK 0 f202 rg_75_13_0_1 (by omega) (by omega) (by decide)
          have b213 := jB (e := 13) 0 j186 rg_75_13_0_1 (by omega) (by omega)
          have q214 : h200 75 10 = h184 75 10 := jK 0 f202 rg_75_10_0_1 (by omega) (by omega) (by decide)
          have b215 := jB (e := 10) 0 j186 rg_75_10_0_1 (by omega) (by omega)
          have q216 : h200 75 13 = h184 75 13 := jK 0 f202 rg_75_13_0_1 (by omega) (by omega) (by decide)
          have k218 : Kp h h184 (h 75 13 - 2147483648) := Kp.less m192 (by omega)
          have k217 : Kp h h200 (h 75 13 - 2147483648) := Kp.fr k218 f202 (by omega) (by decide)
          have q219 : h200 75 13 = h184 75 13 := jK 0 f202 rg_75_13_0_1 (by omega) (by omega) (by decide)
          have k220 : Kp h184 h200 (h184 75 13 - 2147483648) := Kp.fr Kp.refl f202 (by omega) (by decide)
          have s221 : Seg (sg h200) (h 75 13 - 2147483648) (h200 75 13 - 2147483648) := Seg.cast (Seg.kp m193 k220) (by omega) (by omega)
          refine x_retI (np := 40) (x := 0) (by decide +kernel) (by decide) (Or.inr ⟨by decide +kernel, by omega, by omega⟩) ⟨_, rfl, (by decide), ?_⟩
          exact ⟨j201, f206, (by omega), (fun z => by omega), (fun z => by omega), (fun z => by omega), (fun z => by omega), k217, (fun _ => s221)⟩
        have q211 : ¬ (v197 = 2147483648) := q211
        have b222 := c205 (by omega)
        refine x_aload (np := 20) (x := 0) (by decide +kernel) rfl (x_nc_le (by decide)) ?_
        have q223 : h200 75 10 = h184 75 10 := jK 0 f202 rg_75_10_0_1 (by omega) (by omega) (by decide)
        have b224 := jB (e := 10) 0 j186 rg_75_10_0_1 (by omega) (by omega)
        have q225 : h200 75 13 = h184 75 13 := jK 0 f202 rg_75_13_0_1 (by omega) (by omega) (by decide)
        have b226 := jB (e := 13) 0 j186 rg_75_13_0_1 (by omega) (by omega)
        have q227 : h200 75 10 = h184 75 10 := jK 0 f202 rg_75_10_0_1 (by omega) (by omega) (by decide)
        refine x_cI (t := 6) (mj := 190) (n := 1) (rc := 12) (ml := 3) (nr := 0) (np := 23) (as := [x_r 75]) (rest := []) (lo1 := [x_r 75, 147573952589676412928, 147573952589676412928]) (by decide +kernel) (by decide) (by decide +kernel) (x_rb_of (by decide +kernel)) rfl rfl (x_wr (by decide) x_wn) x_wn (by decide) rfl (c190_75_D4 j201  (by omega) (by omega)) (fun v228 h231 l229 q230 => ?_)
        obtain ⟨j232, f233, b234, c235, c236, c237, c238, c239, c240⟩ := q230
        have f241 := Fr.trans f206 f233 (by decide)
        have f242 := Fr.trans f207 f233 (by decide)
        have q243 : h200 75 13 = h184 75 13 := jK 0 f202 rg_75_13_0_1 (by omega) (by omega) (by decide)
        have b244 := jB (e := 13) 0 j232 rg_75_13_0_1 (by omega) (by omega)
        have b245 := jB (e := 7) 0 j232 rg_75_7_0_1 (by omega) (by omega)
        have q246 : h200 75 10 = h184 75 10 := jK 0 f202 rg_75_10_0_1 (by omega) (by omega) (by decide)
        have b247 := jB (e := 10) 0 j232 rg_75_10_0_1 (by omega) (by omega)
        have q248 : h200 75 13 = h184 75 13 := jK 0 f202 rg_75_13_0_1 (by omega) (by omega) (by decide)
        refine x_ifz (k := 1) (tg := 28) (np := 26) (by decide +kernel) (by decide) l229 (fun q249 => ?_) (fun q250 => ?_)
        · have q249 : v228 ≠ 2147483648 := q249
          have b251 := c235 (by omega)
          have b252 := c236 (by omega)
          have b253 := c237 (by omega)
          have b254 := c238 (by omega)
          have s255 := c240 (by omega)
          have q256 : h200 75 13 = h184 75 13 := jK 0 f202 rg_75_13_0_1 (by omega) (by omega) (by decide)
          refine x_aload (np := 29) (x := 0) (by decide +kernel) rfl (x_nc_le (by decide)) ?_
          refine x_const (np := 31) (x := 9223372094836834317) (a := 2147483661) (by decide +kernel) (by decide) (by decide) ?_
          refine x_const (np := 32) (x := 9223372039002259456) (a := 2147483648) (by decide +kernel) (by decide) (by decide) ?_
          refine x_nV (t := 6) (mj := 187) (n := 3) (rc := 12) (ml := 3) (nr := 0) (np := 35) (as := [x_r 75, iv_c 2147483661, iv_c 2147483648]) (rest := []) (lo1 := [x_r 75, iv_c 2147483661, iv_c 2147483648]) (by decide +kernel) (by decide) (by decide +kernel) (x_rb_of (by decide +kernel)) rfl rfl (x_wr (by decide) (x_wi (by decide) (x_wi (by decide) x_wn))) x_wn (by decide) rfl ?_
          refine x_aload (np := 1) (x := 0) (by decide +kernel) rfl (x_nc_le (by decide)) ?_
          have q257 : h231 75 1 = 76 := by have z := jB (e := 1) 0 j232 rg_75_1_0_1 (by decide) (by decide); omega
          refine x_getR (np := 4) (x := 705) (f := 1) (q := 76) (by decide +kernel) (by decide) (by decide +kernel) q257 ?_
          refine x_const (np := 7) (x := 9223376986804585600) (a := 2147484800) (by decide +kernel) (by decide) (by decide) ?_
          refine x_const (np := 8) (x := 9223372047592194050) (a := 2147483650) (by decide +kernel) (by decide) (by decide) ?_
          refine x_aload (np := 9) (x := 0) (by decide +kernel) rfl (x_nc_le (by decide)) ?_
          refine x_getC (np := 12) (x := 717) (f := 13) (q := (h231 75 13)) (by decide +kernel) (by decide) (by decide +kernel) rfl (fun l258 => ?_)
          obtain ⟨u259, q260⟩ : ∃ z, (h231 75 13) = 2147483648 + z := ⟨(h231 75 13) - 2147483648, by omega⟩
          refine x_imul (np := 13) (x := 0) (i := 2) (j := u259) (v := (2147483648 + 2 * u259)) (by decide +kernel) (by omega) (by omega) (by omega) (by omega) (by decide) l258 ?_
          refine x_iadd (np := 14) (x := 0) (v := (2147484800 + 2 * u259)) (by decide +kernel) (by decide) (by omega) (by omega) (by omega) ?_
          refine x_iload (np := 15) (x := 1) (by decide +kernel) rfl (by decide) ?_
          refine x_ast (np := 16) (x := 0) (kd := 1) (n := 1952) (i := (1152 + 2 * u259)) (by decide +kernel) (Or.inl rfl) (by decide +kernel) (by omega) (by omega) (by decide) (by decide) (fun z => absurd z (by decide)) ?_
          have j263 := jU (e := (1152 + 2 * u259)) (v := 2147483661) u259 j232 rg_76_1152_2_394 (by omega) (by omega) (by omega)
          have f265 := jF (e := (1152 + 2 * u259)) (v := 2147483661) u259 f241 rg_76_1152_2_394 (by omega) (by omega) (by decide)
          have f266 := jF (e := (1152 + 2 * u259)) (v := 2147483661) u259 f242 rg_76_1152_2_394 (by omega) (by omega) (by decide)
          generalize e264 : x_up h231 76 (1152 + 2 * u259) 2147483661 = h262 at j263 f265 f266 ⊢
          refine x_aload (np := 17) (x := 0) (by decide +kernel) rfl (x_nc_le (by decide)) ?_
          have q267 : h262 75 1 = 76 := by have z := jB (e := 1) 0 j263 rg_75_1_0_1 (by decide) (by decide); omega
          refine x_getR (np := 20) (x := 705) (f := 1) (q := 76) (by decide +kernel) (by decide) (by decide +kernel) q267 ?_
          refine x_const (np := 23) (x := 9223376986804585600) (a := 2147484800) (by decide +kernel) (by decide) (by decide) ?_
          refine x_const (np := 24) (x := 9223372047592194050) (a := 2147483650) (by decide +kernel) (by decide) (by decide) ?_
          refine x_aload (np := 25) (x := 0) (by decide +kernel) rfl (x_nc_le (by decide)) ?_
          have q268 : h262 75 13 = h231 75 13 := by rw [← e264]; exact x_up_k (by decide)
          refine x_getC (np := 28) (x := 717) (f := 13) (q := (h231 75 13)) (by decide +kernel) (by decide) (by decide +kernel) q268 (fun l269 => ?_)
          refine x_imul (np := 29) (x := 0) (i := 2) (j := u259) (v := (2147483648 + 2 * u259)) (by decide +kernel) (by omega) (by omega) (by omega) (by omega) (by decide) l258 ?_
          refine x_iadd (np := 30) (x := 0) (v := (2147484800 + 2 * u259)) (by decide +kernel) (by decide) (by omega) (by omega) (by omega) ?_
          refine x_const (np := 31) (x := 9223372043297226753) (a := 2147483649) (by decide +kernel) (by decide) (by decide) ?_
          refine x_iadd (np := 32) (x := 0) (v := (2147484801 + 2 * u259)) (by decide +kernel) (by omega) (by decide) (by omega) (by omega) ?_
          refine x_iload (np := 33) (x := 2) (by decide +kernel) rfl (by decide) ?_
          refine x_ast (np := 34) (x := 0) (kd := 1) (n := 1952) (i := (1153 + 2 * u259)) (by decide +kernel) (Or.inl rfl) (by decide +kernel) (by omega) (by omega) (by decide) (by decide) (fun z => absurd z (by decide)) ?_
          have j272 := jU (e := (1153 + 2 * u259)) (v := 2147483648) u259 j263 rg_76_1153_2_394 (by omega) (by omega) (by omega)
          have f274 := jF (e := (1153 + 2 * u259)) (v := 2147483648) u259 f265 rg_76_1153_2_394 (by omega) (by omega) (by decide)
          have f275 := jF (e := (1153 + 2 * u259)) (v := 2147483648) u259 f266 rg_76_1153_2_394 (by omega) (by omega) (by decide)
          generalize e273 : x_up h262 76 (1153 + 2 * u259) 2147483648 = h271 at j272 f274 f275 ⊢
          refine x_aload (np := 35) (x := 0) (by decide +kernel) rfl (x_nc_le (by decide)) ?_
          refine x_dup (np := 36) (x := 0) (by decide +kernel) (by have z := x_nc_le (k := 75) (by decide); unfold x_r; omega) ?_
          have q276 : h271 75 13 = h262 75 13 := by rw [← e273]; exact x_up_k (by decide)
          have q277 : h262 75 13 = h231 75 13 := by rw [← e264]; exact x_up_k (by decide)
          refine x_getC (np := 39) (x := 717) (f := 13) (q := (h231 75 13)) (by decide +kernel) (by decide) (by decide +kernel) (q276.trans q277) (fun l278 => ?_)
          refine x_const (np := 40) (x := 9223372043297226753) (a := 2147483649) (by decide +kernel) (by decide) (by decide) ?_
          refine x_iadd (np := 41) (x := 0) (v := (1 + (h231 75 13))) (by decide +kernel) l258 (by decide) (by omega) (by omega) ?_
          refine x_putI (np := 44) (x := 717) (f := 13) (by decide +kernel) (by decide +kernel) (by omega) (Or.inl (by decide)) ?_
          have j280 := jU (e := 13) (v := (1 + (h231 75 13))) 0 j272 rg_75_13_0_1 (by omega) (by omega) (by omega)
          have f282 := jF (e := 13) (v := (1 + (h231 75 13))) 0 f274 rg_75_13_0_1 (by omega) (by omega) (by decide)
          have f283 := jF (e := 13) (v := (1 + (h231 75 13))) 0 f275 rg_75_13_0_1 (by omega) (by omega) (by decide)
          generalize e281 : x_up h271 75 13 (1 + (h231 75 13)) = h279 at j280 f282 f283 ⊢
          refine x_retV (np := 45) (x := 0) (by decide +kernel) (by decide +kernel) ⟨rfl, ?_⟩
          have q284 : h279 75 13 = (1 + (h231 75 13)) := by rw [← e281]; exact x_up_at
          refine x_goto (np := 38) (x := 9) (by decide +kernel) ?_
          have q285 : h279 75 7 = h271 75 7 := by rw [← e281]; exact x_up_i (by omega)
          have q286 : h271 75 7 = h262 75 7 := by rw [← e273]; exact x_up_k (by decide)
          have q287 : h262 75 7 = h231 75 7 := by rw [← e264]; exact x_up_k (by decide)
          have q288 : h279 75 7 = h271 75 7 := by rw [← e281]; exact x_up_i (by omega)
          have q289 : h271 75 7 = h262 75 7 := by rw [← e273]; exact x_up_k (by decide)
          have q290 : h262 75 7 = h231 75 7 := by rw [← e264]; exact x_up_k (by decide)
          have q291 : h279 75 13 = (1 + (h231 75 13)) := by rw [← e281]; exact x_up_at
          have q292 : h279 75 10 = h271 75 10 := by rw [← e281]; exact x_up_i (by omega)
          have q293 : h271 75 10 = h262 75 10 := by rw [← e273]; exact x_up_k (by decide)
          have q294 : h262 75 10 = h231 75 10 := by rw [← e264]; exact x_up_k (by decide)
          have k300 : Kp h h184 (h 75 13 - 2147483648) := Kp.less m192 (by omega)
          have k299 : Kp h h200 (h 75 13 - 2147483648) := Kp.fr k300 f202 (by omega) (by decide)
          have q301 : h200 75 13 = h184 75 13 := jK 0 f202 rg_75_13_0_1 (by omega) (by omega) (by decide)
          have k298 : Kp h h231 (h 75 13 - 2147483648) := Kp.trans k299 c239 (by omega)
          have k297 : Kp h h262 (h 75 13 - 2147483648) := by rw [← e264]; exact Kp.up k298 (by omega) (fun i hi => by omega)
          have k296 : Kp h h271 (h 75 13 - 2147483648) := by rw [← e273]; exact Kp.up k297 (by omega) (fun i hi => by omega)
          have k295 : Kp h h279 (h 75 13 - 2147483648) := by rw [← e281]; exact Kp.oth k296 (by decide)
          have q302 : h279 75 13 = (1 + (h231 75 13)) := by rw [← e281]; exact x_up_at
          have q304 : h279 76 (1152 + 2 * u259) = h271 76 (1152 + 2 * u259) := by rw [← e281]; exact x_up_k (by decide)
          have q305 : h271 76 (1152 + 2 * u259) = h262 76 (1152 + 2 * u259) := by rw [← e273]; exact x_up_i (by omega)
          have q306 : h262 76 (1152 + 2 * u259) = 2147483661 := by rw [← e264]; exact x_up_at
          have k311 : Kp h184 h200 (h184 75 13 - 2147483648) := Kp.fr Kp.refl f202 (by omega) (by decide)
          have q312 : h200 75 13 = h184 75 13 := jK 0 f202 rg_75_13_0_1 (by omega) (by omega) (by decide)
          have k310 : Kp h184 h231 (h184 75 13 - 2147483648) := Kp.trans k311 c239 (by omega)
          have k309 : Kp h184 h262 (h184 75 13 - 2147483648) := by rw [← e264]; exact Kp.up k310 (by omega) (fun i hi => by omega)
          have k308 : Kp h184 h271 (h184 75 13 - 2147483648) := by rw [← e273]; exact Kp.up k309 (by omega) (fun i hi => by omega)
          have k307 : Kp h184 h279 (h184 75 13 - 2147483648) := by rw [← e281]; exact Kp.oth k308 (by decide)
          have k315 : Kp h231 h262 (h231 75 13 - 2147483648) := by rw [← e264]; exact Kp.up Kp.refl (by omega) (fun i hi => by omega)
          have k314 : Kp h231 h271 (h231 75 13 - 2147483648) := by rw [← e273]; exact Kp.up k315 (by omega) (fun i hi => by omega)
          have k313 : Kp h231 h279 (h231 75 13 - 2147483648) := by rw [← e281]; exact Kp.oth k314 (by decide)
          have s303 : Seg (sg h279) (h 75 13 - 2147483648) (u259 + 1) := Seg.bin (Seg.kp m193 k307) (Seg.cast (a' := (h184 75 13 - 2147483648)) (b' := u259) (Seg.kp s255 k313) (by omega) (by omega)) (show 2147483656 < h279 76 (1152 + 2 * u259) by omega) (show h279 76 (1152 + 2 * u259) ≠ 2147483660 by omega)
          have s316 : Seg (sg h279) (h 75 13 - 2147483648) (h279 75 13 - 2147483648) := Seg.cast (Seg.kp s303 Kp.refl) (by omega) (by omega)
          exact i195  h279 (by omega) (by omega) (by omega) (by omega) (by omega) j280 f283 k295 s316
        have q250 : ¬ (v228 ≠ 2147483648) := q250
        refine x_const (np := 27) (x := 9223372039002259456) (a := 2147483648) (by decide +kernel) (by decide) (by decide) ?_
        have k319 : Kp h h184 (h 75 13 - 2147483648) := Kp.less m192 (by omega)
        have k318 : Kp h h200 (h 75 13 - 2147483648) := Kp.fr k319 f202 (by omega) (by decide)
        have q320 : h200 75 13 = h184 75 13 := jK 0 f202 rg_75_13_0_1 (by omega) (by omega) (by decide)
        have k317 : Kp h h231 (h 75 13 - 2147483648) := Kp.trans k318 c239 (by omega)
        refine x_retI (np := 28) (x := 0) (by decide +kernel) (by decide) (Or.inr ⟨by decide +kernel, by omega, by omega⟩) ⟨_, rfl, (by decide), ?_⟩
        exact ⟨j232, f241, (by omega), (fun z => by omega), (fun z => by omega), (fun z => by omega), (fun z => by omega), k317, (fun z => absurd z (by omega))⟩
    have k321 : Kp h h7 (h 75 13 - 2147483648) := Kp.less c15 (by omega)
    have s322 : Seg (sg h7) (h 75 13 - 2147483648) (h7 75 13 - 2147483648) := Seg.cast (Seg.kp s27 Kp.refl) (by omega) (by omega)
    exact p187 _  h7 (Nat.lt_succ_self _) (by omega) (by omega) (by omega) (by omega) j8 (Fr.refl _ _) k321 s322
  have q22 : ¬ (v4 ≠ 2147483648) := q22
  refine x_const (np := 8) (x := 9223372039002259456) (a := 2147483648) (by decide +kernel) (by decide) (by decide) ?_
  have k323 : Kp h h7 (h 75 13 - 2147483648) := Kp.less c15 (by omega)
  refine x_retI (np := 9) (x := 0) (by decide +kernel) (by decide) (Or.inr ⟨by decide +kernel, by omega, by omega⟩) ⟨_, rfl, (by decide), ?_⟩
  exact ⟨j8, f17, (by omega), (fun z => by omega), (fun z => by omega), (fun z => by omega), (fun z => by omega), k323, (fun z => absurd z (by omega))⟩
set_option maxHeartbeats 0 in
/-- LentNamesModel.readCond()Z -/
theorem c192_75_D4 {sc : Nat × Nat} {d  : Nat} {h : xh} (hJ : J h) (hr0 : (h 75 13) + 5 ≤ (h 75 7)) (hr1 : (h 75 10) = 2147483652) : X sc 192 (d + 15) (xI fun r h' => J h' ∧ Fr 97517569 h h' ∧ (2147483648 ≤ r ∧ r ≤ 2147483649) ∧ (r = 2147483649 → h' 75 13 + h 75 7 ≤ h' 75 7 + h 75 13) ∧ (r = 2147483649 → h' 75 10 = h 75 10) ∧ (r = 2147483649 → h 75 7 + 0 ≤ h' 75 7) ∧ (r = 2147483649 → h 75 13 ≤ h' 75 13) ∧ Kp h h' (h 75 13 - 2147483648) ∧ (r = 2147483649 → Seg (sg h') (h 75 13 - 2147483648) (h' 75 13 - 2147483648))) 0 0 0 [x_r 75] [] h := by
  have hF := Fr.refl 97517569 h
  have b1 := jB (e := 13) 0 hJ rg_75_13_0_1 (by omega) (by omega)
  have b2 := jB (e := 7) 0 hJ rg_75_7_0_1 (by omega) (by omega)
  have b3 := jB (e := 10) 0 hJ rg_75_10_0_1 (by omega) (by omega)
  refine x_aload (np := 1) (x := 0) (by decide +kernel) rfl (x_nc_le (by decide)) ?_
  refine x_cI (t := 6) (mj := 191) (n := 1) (rc := 12) (ml := 1) (nr := 0) (np := 4) (as := [x_r 75]) (rest := []) (lo1 := [x_r 75]) (by decide +kernel) (by decide) (by decide +kernel) (x_rb_of (by decide +kernel)) rfl rfl (x_wr (by decide) x_wn) x_wn (by decide) rfl (c191_75_D4 hJ  (by omega) (by omega)) (fun v4 h7 l5 q6 => ?_)
  obtain ⟨j8, f9, b10, c11, c12, c13, c14, c15, c16⟩ := q6
  have f17 := Fr.trans hF f9 (by decide)
  have b18 := jB (e := 13) 0 j8 rg_75_13_0_1 (by omega) (by omega)
  have b19 := jB (e := 7) 0 j8 rg_75_7_0_1 (by omega) (by omega)
  have b20 := jB (e := 10) 0 j8 rg_75_10_0_1 (by omega) (by omega)
  refine x_ifz (k := 1) (tg := 9) (np := 7) (by decide +kernel) (by decide) l5 (fun q21 => ?_) (fun q22 => ?_)
  · have q21 : v4 ≠ 2147483648 := q21
    have b23 := c11 (by omega)
    have b24 := c12 (by omega)
    have b25 := c13 (by omega)
    have b26 := c14 (by omega)
    have s27 := c16 (by omega)
    have p187 : ∀ (n : Nat) (h184 : xh), 4294967296 - h184 75 7 < n → h184 75 13 + h 75 7 ≤ h184 75 7 + h 75 13 → h184 75 10 = h 75 10 → h 75 7 ≤ h184 75 7 → h 75 13 ≤ h184 75 13 → J h184 → Fr 97517569 h7 h184 → Kp h h184 (h 75 13 - 2147483648) → Seg (sg h184) (h 75 13 - 2147483648) (h184 75 13 - 2147483648) → X sc 192 (d + 15) (xI fun r h' => J h' ∧ Fr 97517569 h h' ∧ (2147483648 ≤ r ∧ r ≤ 2147483649) ∧ (r = 2147483649 → h' 75 13 + h 75 7 ≤ h' 75 7 + h 75 13) ∧ (r = 2147483649 → h' 75 10 = h 75 10) ∧ (r = 2147483649 → h 75 7 + 0 ≤ h' 75 7) ∧ (r = 2147483649 → h 75 13 ≤ h' 75 13) ∧ Kp h h' (h 75 13 - 2147483648) ∧ (r = 2147483649 → Seg (sg h') (h 75 13 - 2147483648) (h' 75 13 - 2147483648))) 0 0 9 [x_r 75] [] h184 := by
      intro n
      induction n with
      | zero => intro h184 q194; exact absurd q194 (Nat.not_lt_zero _)
      | succ n i195 =>
        intro h184 q194 b188 b189 b190 b191 j186 f185 m192 m193
        have f196 := Fr.trans f17 f185 (by decide)
        refine x_aload (np := 10) (x := 0) (by decide +kernel) rfl (x_nc_le (by decide)) ?_
        refine x_ldcB (i := 15) (idx := 179) (tx := "or") (by rw [tb_y192]; exact List.mem_of_getElem? (i := 54) rfl) (by decide) (by rw [tb_b192]; decide +kernel) ?_
        refine x_cI (t := 6) (mj := 171) (n := 2) (rc := 12) (ml := 2) (nr := 0) (np := 15) (as := [x_r 75, x_b (15 + 1)]) (rest := []) (lo1 := [x_r 75, x_b (15 + 1)]) (by decide +kernel) (by decide) (by decide +kernel) (x_rb_of (by decide +kernel)) rfl rfl (x_wr (by decide) (x_wB (by decide) x_wn)) x_wn (by decide) rfl (c171_75_S0 j186  (by decide)) (fun v197 h200 l198 q199 => ?_)
        obtain ⟨j201, f202, b203, c204, c205⟩ := q199
        have f206 := Fr.trans f196 f202 (by decide)
        have f207 := Fr.trans f185 f202 (by decide)
        have b208 := jB (e := 7) 0 j186 rg_75_7_0_1 (by omega) (by omega)
        have b209 := jB (e := 7) 0 j201 rg_75_7_0_1 (by omega) (by omega)
        refine x_ifz (k := 0) (tg := 37) (np := 18) (by decide +kernel) (by decide) l198 (fun q210 => ?_) (fun q211 => ?_)
        · have q210 : v197 = 2147483648 := q210
          refine x_const (np := 38) (x := 9223372043297226753) (a := 2147483649) (by decide +kernel) (by decide) (by decide) ?_
          have q212 : h200 75 13 = h184 75 13 := jK 0 f202 rg_75_13_0_1 (by omega) (by omega) (by decide)
          have b213 := jB (e := 13) 0 j186 rg_75_13_0_1 (by omega) (by omega)
          have q214 : h200 75 10 = h184 75 10 := jK 0 f202 rg_75_10_0_1 (by omega) (by omega) (by decide)
          have b215 := jB (e := 10) 0 j186 rg_75_10_0_1 (by omega) (by omega)
          have q216 : h200 75 13 = h184 75 13 := jK 0 f202 rg_75_13_0_1 (by omega) (by omega) (by decide)
          have k218 : Kp h h184 (h 75 13 - 2147483648) := Kp.less m192 (by omega)
          have k217 : Kp h h200 (h 75 13 - 2147483648) := Kp.fr k218 f202 (by omega) (by decide)
          have q219 : h200 75 13 = h184 75 13 := jK 0 f202 rg_75_13_0_1 (by omega) (by omega) (by decide)
          have k220 : Kp h184 h200 (h184 75 13 - 2147483648) := Kp.fr Kp.refl f202 (by omega) (by decide)
          have s221 : Seg (sg h200) (h 75 13 - 2147483648) (h200 75 13 - 2147483648) := Seg.cast (Seg.kp m193 k220) (by omega) (by omega)
          refine x_retI (np := 39) (x := 0) (by decide +kernel) (by decide) (Or.inr ⟨by decide +kernel, by omega, by omega⟩) ⟨_, rfl, (by decide), ?_⟩
          exact ⟨j201, f206, (by omega), (fun z => by omega), (fun z => by omega), (fun z => by omega), (fun z => by omega), k217, (fun _ => s221)⟩
        have q211 : ¬ (v197 = 2147483648) := q211
        have b222 := c205 (by omega)
        refine x_aload (np := 19) (x := 0) (by decide +kernel) rfl (x_nc_le (by decide)) ?_
        have q223 : h200 75 10 = h184 75 10 := jK 0 f202 rg_75_10_0_1 (by omega) (by omega) (by decide)
        have b224 := jB (e := 10) 0 j186 rg_75_10_0_1 (by omega) (by omega)
        have q225 : h200 75 13 = h184 75 13 := jK 0 f202 rg_75_13_0_1 (by omega) (by omega) (by decide)
        have b226 := jB (e := 13) 0 j186 rg_75_13_0_1 (by omega) (by omega)
        have q227 : h200 75 10 = h184 75 10 := jK 0 f202 rg_75_10_0_1 (by omega) (by omega) (by decide)
        refine x_cI (t := 6) (mj := 191) (n := 1) (rc := 12) (ml := 1) (nr := 0) (np := 22) (as := [x_r 75]) (rest := []) (lo1 := [x_r 75]) (by decide +kernel) (by decide) (by decide +kernel) (x_rb_of (by decide +kernel)) rfl rfl (x_wr (by decide) x_wn) x_wn (by decide) rfl (c191_75_D4 j201  (by omega) (by omega)) (fun v228 h231 l229 q230 => ?_)
        obtain ⟨j232, f233, b234, c235, c236, c237, c238, c239, c240⟩ := q230
        have f241 := Fr.trans f206 f233 (by decide)
        have f242 := Fr.trans f207 f233 (by decide)
        have q243 : h200 75 13 = h184 75 13 := jK 0 f202 rg_75_13_0_1 (by omega) (by omega) (by decide)
        have b244 := jB (e := 13) 0 j232 rg_75_13_0_1 (by omega) (by omega)
        have b245 := jB (e := 7) 0 j232 rg_75_7_0_1 (by omega) (by omega)
        have q246 : h200 75 10 = h184 75 10 := jK 0 f202 rg_75_10_0_1 (by omega) (by omega) (by decide)
        have b247 := jB (e := 10) 0 j232 rg_75_10_0_1 (by omega) (by omega)
        have q248 : h200 75 13 = h184 75 13 := jK 0 f202 rg_75_13_0_1 (by omega) (by omega) (by decide)
        refine x_ifz (k := 1) (tg := 27) (np := 25) (by decide +kernel) (by decide) l229 (fun q249 => ?_) (fun q250 => ?_)
        · have q249 : v228 ≠ 2147483648 := q249
          have b251 := c235 (by omega)
          have b252 := c236 (by omega)
          have b253 := c237 (by omega)
          have b254 := c238 (by omega)
          have s255 := c240 (by omega)
          have q256 : h200 75 13 = h184 75 13 := jK 0 f202 rg_75_13_0_1 (by omega) (by omega) (by decide)
          refine x_aload (np := 28) (x := 0) (by decide +kernel) rfl (x_nc_le (by decide)) ?_
          refine x_const (np := 30) (x := 9223372099131801614) (a := 2147483662) (by decide +kernel) (by decide) (by decide) ?_
          refine x_const (np := 31) (x := 9223372039002259456) (a := 2147483648) (by decide +kernel) (by decide) (by decide) ?_
          refine x_nV (t := 6) (mj := 187) (n := 3) (rc := 12) (ml := 3) (nr := 0) (np := 34) (as := [x_r 75, iv_c 2147483662, iv_c 2147483648]) (rest := []) (lo1 := [x_r 75, iv_c 2147483662, iv_c 2147483648]) (by decide +kernel) (by decide) (by decide +kernel) (x_rb_of (by decide +kernel)) rfl rfl (x_wr (by decide) (x_wi (by decide) (x_wi (by decide) x_wn))) x_wn (by decide) rfl ?_
          refine x_aload (np := 1) (x := 0) (by decide +kernel) rfl (x_nc_le (by decide)) ?_
          have q257 : h231 75 1 = 76 := by have z := jB (e := 1) 0 j232 rg_75_1_0_1 (by decide) (by decide); omega
          refine x_getR (np := 4) (x := 705) (f := 1) (q := 76) (by decide +kernel) (by decide) (by decide +kernel) q257 ?_
          refine x_const (np := 7) (x := 9223376986804585600) (a := 2147484800) (by decide +kernel) (by decide) (by decide) ?_
          refine x_const (np := 8) (x := 9223372047592194050) (a := 2147483650) (by decide +kernel) (by decide) (by decide) ?_
          refine x_aload (np := 9) (x := 0) (by decide +kernel) rfl (x_nc_le (by decide)) ?_
          refine x_getC (np := 12) (x := 717) (f := 13) (q := (h231 75 13)) (by decide +kernel) (by decide) (by decide +kernel) rfl (fun l258 => ?_)
          obtain ⟨u259, q260⟩ : ∃ z, (h231 75 13) = 2147483648 + z := ⟨(h231 75 13) - 2147483648, by omega⟩
          refine x_imul (np := 13) (x := 0) (i := 2) (j := u259) (v := (2147483648 + 2 * u259)) (by decide +kernel) (by omega) (by omega) (by omega) (by omega) (by decide) l258 ?_
          refine x_iadd (np := 14) (x := 0) (v := (2147484800 + 2 * u259)) (by decide +kernel) (by decide) (by omega) (by omega) (by omega) ?_
          refine x_iload (np := 15) (x := 1) (by decide +kernel) rfl (by decide) ?_
          refine x_ast (np := 16) (x := 0) (kd := 1) (n := 1952) (i := (1152 + 2 * u259)) (by decide +kernel) (Or.inl rfl) (by decide +kernel) (by omega) (by omega) (by decide) (by decide) (fun z => absurd z (by decide)) ?_
          have j263 := jU (e := (1152 + 2 * u259)) (v := 2147483662) u259 j232 rg_76_1152_2_394 (by omega) (by omega) (by omega)
          have f265 := jF (e := (1152 + 2 * u259)) (v := 2147483662) u259 f241 rg_76_1152_2_394 (by omega) (by omega) (by decide)
          have f266 := jF (e := (1152 + 2 * u259)) (v := 2147483662) u259 f242 rg_76_1152_2_394 (by omega) (by omega) (by decide)
          generalize e264 : x_up h231 76 (1152 + 2 * u259) 2147483662 = h262 at j263 f265 f266 ⊢
          refine x_aload (np := 17) (x := 0) (by decide +kernel) rfl (x_nc_le (by decide)) ?_
          have q267 : h262 75 1 = 76 := by have z := jB (e := 1) 0 j263 rg_75_1_0_1 (by decide) (by decide); omega
          refine x_getR (np := 20) (x := 705) (f := 1) (q := 76) (by decide +kernel) (by decide) (by decide +kernel) q267 ?_
          refine x_const (np := 23) (x := 9223376986804585600) (a := 2147484800) (by decide +kernel) (by decide) (by decide) ?_
          refine x_const (np := 24) (x := 9223372047592194050) (a := 2147483650) (by decide +kernel) (by decide) (by decide) ?_
          refine x_aload (np := 25) (x := 0) (by decide +kernel) rfl (x_nc_le (by decide)) ?_
          have q268 : h262 75 13 = h231 75 13 := by rw [← e264]; exact x_up_k (by decide)
          refine x_getC (np := 28) (x := 717) (f := 13) (q := (h231 75 13)) (by decide +kernel) (by decide) (by decide +kernel) q268 (fun l269 => ?_)
          refine x_imul (np := 29) (x := 0) (i := 2) (j := u259) (v := (2147483648 + 2 * u259)) (by decide +kernel) (by omega) (by omega) (by omega) (by omega) (by decide) l258 ?_
          refine x_iadd (np := 30) (x := 0) (v := (2147484800 + 2 * u259)) (by decide +kernel) (by decide) (by omega) (by omega) (by omega) ?_
          refine x_const (np := 31) (x := 9223372043297226753) (a := 2147483649) (by decide +kernel) (by decide) (by decide) ?_
          refine x_iadd (np := 32) (x := 0) (v := (2147484801 + 2 * u259)) (by decide +kernel) (by omega) (by decide) (by omega) (by omega) ?_
          refine x_iload (np := 33) (x := 2) (by decide +kernel) rfl (by decide) ?_
          refine x_ast (np := 34) (x := 0) (kd := 1) (n := 1952) (i := (1153 + 2 * u259)) (by decide +kernel) (Or.inl rfl) (by decide +kernel) (by omega) (by omega) (by decide) (by decide) (fun z => absurd z (by decide)) ?_
          have j272 := jU (e := (1153 + 2 * u259)) (v := 2147483648) u259 j263 rg_76_1153_2_394 (by omega) (by omega) (by omega)
          have f274 := jF (e := (1153 + 2 * u259)) (v := 2147483648) u259 f265 rg_76_1153_2_394 (by omega) (by omega) (by decide)
          have f275 := jF (e := (1153 + 2 * u259)) (v := 2147483648) u259 f266 rg_76_1153_2_394 (by omega) (by omega) (by decide)
          generalize e273 : x_up h262 76 (1153 + 2 * u259) 2147483648 = h271 at j272 f274 f275 ⊢
          refine x_aload (np := 35) (x := 0) (by decide +kernel) rfl (x_nc_le (by decide)) ?_
          refine x_dup (np := 36) (x := 0) (by decide +kernel) (by have z := x_nc_le (k := 75) (by decide); unfold x_r; omega) ?_
          have q276 : h271 75 13 = h262 75 13 := by rw [← e273]; exact x_up_k (by decide)
          have q277 : h262 75 13 = h231 75 13 := by rw [← e264]; exact x_up_k (by decide)
          refine x_getC (np := 39) (x := 717) (f := 13) (q := (h231 75 13)) (by decide +kernel) (by decide) (by decide +kernel) (q276.trans q277) (fun l278 => ?_)
          refine x_const (np := 40) (x := 9223372043297226753) (a := 2147483649) (by decide +kernel) (by decide) (by decide) ?_
          refine x_iadd (np := 41) (x := 0) (v := (1 + (h231 75 13))) (by decide +kernel) l258 (by decide) (by omega) (by omega) ?_
          refine x_putI (np := 44) (x := 717) (f := 13) (by decide +kernel) (by decide +kernel) (by omega) (Or.inl (by decide)) ?_
          have j280 := jU (e := 13) (v := (1 + (h231 75 13))) 0 j272 rg_75_13_0_1 (by omega) (by omega) (by omega)
          have f282 := jF (e := 13) (v := (1 + (h231 75 13))) 0 f274 rg_75_13_0_1 (by omega) (by omega) (by decide)
          have f283 := jF (e := 13) (v := (1 + (h231 75 13))) 0 f275 rg_75_13_0_1 (by omega) (by omega) (by decide)
          generalize e281 : x_up h271 75 13 (1 + (h231 75 13)) = h279 at j280 f282 f283 ⊢
          refine x_retV (np := 45) (x := 0) (by decide +kernel) (by decide +kernel) ⟨rfl, ?_⟩
          have q284 : h279 75 13 = (1 + (h231 75 13)) := by rw [← e281]; exact x_up_at
          refine x_goto (np := 37) (x := 9) (by decide +kernel) ?_
          have q285 : h279 75 7 = h271 75 7 := by rw [← e281]; exact x_up_i (by omega)
          have q286 : h271 75 7 = h262 75 7 := by rw [← e273]; exact x_up_k (by decide)
          have q287 : h262 75 7 = h231 75 7 := by rw [← e264]; exact x_up_k (by decide)
          have q288 : h279 75 7 = h271 75 7 := by rw [← e281]; exact x_up_i (by omega)
          have q289 : h271 75 7 = h262 75 7 := by rw [← e273]; exact x_up_k (by decide)
          have q290 : h262 75 7 = h231 75 7 := by rw [← e264]; exact x_up_k (by decide)
          have q291 : h279 75 13 = (1 + (h231 75 13)) := by rw [← e281]; exact x_up_at
          have q292 : h279 75 10 = h271 75 10 := by rw [← e281]; exact x_up_i (by omega)
          have q293 : h271 75 10 = h262 75 10 := by rw [← e273]; exact x_up_k (by decide)
          have q294 : h262 75 10 = h231 75 10 := by rw [← e264]; exact x_up_k (by decide)
          have k300 : Kp h h184 (h 75 13 - 2147483648) := Kp.less m192 (by omega)
          have k299 : Kp h h200 (h 75 13 - 2147483648) := Kp.fr k300 f202 (by omega) (by decide)
          have q301 : h200 75 13 = h184 75 13 := jK 0 f202 rg_75_13_0_1 (by omega) (by omega) (by decide)
          have k298 : Kp h h231 (h 75 13 - 2147483648) := Kp.trans k299 c239 (by omega)
          have k297 : Kp h h262 (h 75 13 - 2147483648) := by rw [← e264]; exact Kp.up k298 (by omega) (fun i hi => by omega)
          have k296 : Kp h h271 (h 75 13 - 2147483648) := by rw [← e273]; exact Kp.up k297 (by omega) (fun i hi => by omega)
          have k295 : Kp h h279 (h 75 13 - 2147483648) := by rw [← e281]; exact Kp.oth k296 (by decide)
          have q302 : h279 75 13 = (1 + (h231 75 13)) := by rw [← e281]; exact x_up_at
          have q304 : h279 76 (1152 + 2 * u259) = h271 76 (1152 + 2 * u259) := by rw [← e281]; exact x_up_k (by decide)
          have q305 : h271 76 (1152 + 2 * u259) = h262 76 (1152 + 2 * u259) := by rw [← e273]; exact x_up_i (by omega)
          have q306 : h262 76 (1152 + 2 * u259) = 2147483662 := by rw [← e264]; exact x_up_at
          have k311 : Kp h184 h200 (h184 75 13 - 2147483648) := Kp.fr Kp.refl f202 (by omega) (by decide)
          have q312 : h200 75 13 = h184 75 13 := jK 0 f202 rg_75_13_0_1 (by omega) (by omega) (by decide)
          have k310 : Kp h184 h231 (h184 75 13 - 2147483648) := Kp.trans k311 c239 (by omega)
          have k309 : Kp h184 h262 (h184 75 13 - 2147483648) := by rw [← e264]; exact Kp.up k310 (by omega) (fun i hi => by omega)
          have k308 : Kp h184 h271 (h184 75 13 - 2147483648) := by rw [← e273]; exact Kp.up k309 (by omega) (fun i hi => by omega)
          have k307 : Kp h184 h279 (h184 75 13 - 2147483648) := by rw [← e281]; exact Kp.oth k308 (by decide)
          have k315 : Kp h231 h262 (h231 75 13 - 2147483648) := by rw [← e264]; exact Kp.up Kp.refl (by omega) (fun i hi => by omega)
          have k314 : Kp h231 h271 (h231 75 13 - 2147483648) := by rw [← e273]; exact Kp.up k315 (by omega) (fun i hi => by omega)
          have k313 : Kp h231 h279 (h231 75 13 - 2147483648) := by rw [← e281]; exact Kp.oth k314 (by decide)
          have s303 : Seg (sg h279) (h 75 13 - 2147483648) (u259 + 1) := Seg.bin (Seg.kp m193 k307) (Seg.cast (a' := (h184 75 13 - 2147483648)) (b' := u259) (Seg.kp s255 k313) (by omega) (by omega)) (show 2147483656 < h279 76 (1152 + 2 * u259) by omega) (show h279 76 (1152 + 2 * u259) ≠ 2147483660 by omega)
          have s316 : Seg (sg h279) (h 75 13 - 2147483648) (h279 75 13 - 2147483648) := Seg.cast (Seg.kp s303 Kp.refl) (by omega) (by omega)
          exact i195  h279 (by omega) (by omega) (by omega) (by omega) (by omega) j280 f283 k295 s316
        have q250 : ¬ (v228 ≠ 2147483648) := q250
        refine x_const (np := 26) (x := 9223372039002259456) (a := 2147483648) (by decide +kernel) (by decide) (by decide) ?_
        have k319 : Kp h h184 (h 75 13 - 2147483648) := Kp.less m192 (by omega)
        have k318 : Kp h h200 (h 75 13 - 2147483648) := Kp.fr k319 f202 (by omega) (by decide)
        have q320 : h200 75 13 = h184 75 13 := jK 0 f202 rg_75_13_0_1 (by omega) (by omega) (by decide)
        have k317 : Kp h h231 (h 75 13 - 2147483648) := Kp.trans k318 c239 (by omega)
        refine x_retI (np := 27) (x := 0) (by decide +kernel) (by decide) (Or.inr ⟨by decide +kernel, by omega, by omega⟩) ⟨_, rfl, (by decide), ?_⟩
        exact ⟨j232, f241, (by omega), (fun z => by omega), (fun z => by omega), (fun z => by omega), (fun z => by omega), k317, (fun z => absurd z (by omega))⟩
    have k321 : Kp h h7 (h 75 13 - 2147483648) := Kp.less c15 (by omega)
    have s322 : Seg (sg h7) (h 75 13 - 2147483648) (h7 75 13 - 2147483648) := Seg.cast (Seg.kp s27 Kp.refl) (by omega) (by omega)
    exact p187 _  h7 (Nat.lt_succ_self _) (by omega) (by omega) (by omega) (by omega) j8 (Fr.refl _ _) k321 s322
  have q22 : ¬ (v4 ≠ 2147483648) := q22
  refine x_const (np := 8) (x := 9223372039002259456) (a := 2147483648) (by decide +kernel) (by decide) (by decide) ?_
  have k323 : Kp h h7 (h 75 13 - 2147483648) := Kp.less c15 (by omega)
  refine x_retI (np := 9) (x := 0) (by decide +kernel) (by decide) (Or.inr ⟨by decide +kernel, by omega, by omega⟩) ⟨_, rfl, (by decide), ?_⟩
  exact ⟨j8, f17, (by omega), (fun z => by omega), (fun z => by omega), (fun z => by omega), (fun z => by omega), k323, (fun z => absurd z (by omega))⟩
set_option maxHeartbeats 0 in
/-- LentNamesModel.readAtom()Z -/
theorem c190_75_D3 {sc : Nat × Nat} {d  : Nat} {h : xh} (hJ : J h) (hr0 : (h 75 13) + 5 ≤ (h 75 7)) (hr1 : (h 75 10) = 2147483651) : X sc 190 (d + 16) (xI fun r h' => J h' ∧ Fr 97517569 h h' ∧ (2147483648 ≤ r ∧ r ≤ 2147483649) ∧ (r = 2147483649 → h' 75 13 + h 75 7 ≤ h' 75 7 + h 75 13) ∧ (r = 2147483649 → h' 75 10 = h 75 10) ∧ (r = 2147483649 → h 75 7 + 0 ≤ h' 75 7) ∧ (r = 2147483649 → h 75 13 ≤ h' 75 13) ∧ Kp h h' (h 75 13 - 2147483648) ∧ (r = 2147483649 → Seg (sg h') (h 75 13 - 2147483648) (h' 75 13 - 2147483648))) 0 0 0 [x_r 75, 147573952589676412928, 147573952589676412928] [] h := by
  have hF := Fr.refl 97517569 h
  have b1 := jB (e := 13) 0 hJ rg_75_13_0_1 (by omega) (by omega)
  have b2 := jB (e := 7) 0 hJ rg_75_7_0_1 (by omega) (by omega)
  have b3 := jB (e := 10) 0 hJ rg_75_10_0_1 (by omega) (by omega)
  refine x_aload (np := 1) (x := 0) (by decide +kernel) rfl (x_nc_le (by decide)) ?_
  refine x_const (np := 3) (x := 9223372210800951336) (a := 2147483688) (by decide +kernel) (by decide) (by decide) ?_
  refine x_cI (t := 6) (mj := 173) (n := 2) (rc := 12) (ml := 2) (nr := 0) (np := 6) (as := [x_r 75, iv_c 2147483688]) (rest := []) (lo1 := [x_r 75, iv_c 2147483688]) (by decide +kernel) (by decide) (by decide +kernel) (x_rb_of (by decide +kernel)) rfl rfl (x_wr (by decide) (x_wi (by decide) x_wn)) x_wn (by decide) rfl (c173_75 hJ  (by omega)) (fun v4 h7 l5 q6 => ?_)
  obtain ⟨j8, f9, b10, c11, c12⟩ := q6
  have f13 := Fr.trans hF f9 (by decide)
  have b14 := jB (e := 7) 0 j8 rg_75_7_0_1 (by omega) (by omega)
  refine x_ifz (k := 0) (tg := 56) (np := 9) (by decide +kernel) (by decide) l5 (fun q15 => ?_) (fun q16 => ?_)
  · have q15 : v4 = 2147483648 := q15
    refine x_aload (np := 57) (x := 0) (by decide +kernel) rfl (x_nc_le (by decide)) ?_
    refine x_ldcB (i := 24) (idx := 245) (tx := "not") (by rw [tb_y190]; exact List.mem_of_getElem? (i := 59) rfl) (by decide) (by rw [tb_b190]; decide +kernel) ?_
    refine x_cI (t := 6) (mj := 171) (n := 2) (rc := 12) (ml := 2) (nr := 0) (np := 62) (as := [x_r 75, x_b (24 + 1)]) (rest := []) (lo1 := [x_r 75, x_b (24 + 1)]) (by decide +kernel) (by decide) (by decide +kernel) (x_rb_of (by decide +kernel)) rfl rfl (x_wr (by decide) (x_wB (by decide) x_wn)) x_wn (by decide) rfl (c171_75_S0 j8  (by decide)) (fun v17 h20 l18 q19 => ?_)
    obtain ⟨j21, f22, b23, c24, c25⟩ := q19
    have f26 := Fr.trans f13 f22 (by decide)
    have b27 := jB (e := 7) 0 j21 rg_75_7_0_1 (by omega) (by omega)
    refine x_ifz (k := 0) (tg := 114) (np := 65) (by decide +kernel) (by decide) l18 (fun q28 => ?_) (fun q29 => ?_)
    · have q28 : v17 = 2147483648 := q28
      refine x_aload (np := 115) (x := 0) (by decide +kernel) rfl (x_nc_le (by decide)) ?_
      refine x_ldcB (i := 25) (idx := 250) (tx := "own") (by rw [tb_y190]; exact List.mem_of_getElem? (i := 60) rfl) (by decide) (by rw [tb_b190]; decide +kernel) ?_
      refine x_cI (t := 6) (mj := 171) (n := 2) (rc := 12) (ml := 2) (nr := 0) (np := 120) (as := [x_r 75, x_b (25 + 1)]) (rest := []) (lo1 := [x_r 75, x_b (25 + 1)]) (by decide +kernel) (by decide) (by decide +kernel) (x_rb_of (by decide +kernel)) rfl rfl (x_wr (by decide) (x_wB (by decide) x_wn)) x_wn (by decide) rfl (c171_75_S0 j21  (by decide)) (fun v30 h33 l31 q32 => ?_)
      obtain ⟨j34, f35, b36, c37, c38⟩ := q32
      have f39 := Fr.trans f26 f35 (by decide)
      have b40 := jB (e := 7) 0 j34 rg_75_7_0_1 (by omega) (by omega)
      refine x_istore (np := 121) (x := 1) (lo' := [x_r 75, iv_c v30, 147573952589676412928]) (by decide +kernel) l31 (Nat.le_of_ble_eq_true rfl) rfl ?_
      refine x_iload (np := 122) (x := 1) (by decide +kernel) rfl l31 ?_
      refine x_ifz (k := 1) (tg := 134) (np := 125) (by decide +kernel) (by decide) l31 (fun q41 => ?_) (fun q42 => ?_)
      · have q41 : v30 ≠ 2147483648 := q41
        have b43 := c38 (by omega)
        refine x_aload (np := 135) (x := 0) (by decide +kernel) rfl (x_nc_le (by decide)) ?_
        refine x_iload (np := 136) (x := 1) (by decide +kernel) rfl l31 ?_
        refine x_ifz (k := 0) (tg := 144) (np := 139) (by decide +kernel) (by decide) l31 (fun q44 => ?_) (fun q45 => ?_)
        · have q44 : v30 = 2147483648 := q44
          exfalso; omega
        have q45 : ¬ (v30 = 2147483648) := q45
        refine x_const (np := 141) (x := 9223372064772063238) (a := 2147483654) (by decide +kernel) (by decide) (by decide) ?_
        refine x_goto (np := 144) (x := 146) (by decide +kernel) ?_
        refine x_const (np := 147) (x := 9223372039002259456) (a := 2147483648) (by decide +kernel) (by decide) (by decide) ?_
        refine x_nV (t := 6) (mj := 187) (n := 3) (rc := 12) (ml := 3) (nr := 0) (np := 150) (as := [x_r 75, iv_c 2147483654, iv_c 2147483648]) (rest := []) (lo1 := [x_r 75, iv_c 2147483654, iv_c 2147483648]) (by decide +kernel) (by decide) (by decide +kernel) (x_rb_of (by decide +kernel)) rfl rfl (x_wr (by decide) (x_wi (by decide) (x_wi (by decide) x_wn))) x_wn (by decide) rfl ?_
        refine x_aload (np := 1) (x := 0) (by decide +kernel) rfl (x_nc_le (by decide)) ?_
        have q46 : h33 75 1 = 76 := by have z := jB (e := 1) 0 j34 rg_75_1_0_1 (by decide) (by decide); omega
        refine x_getR (np := 4) (x := 705) (f := 1) (q := 76) (by decide +kernel) (by decide) (by decide +kernel) q46 ?_
        refine x_const (np := 7) (x := 9223376986804585600) (a := 2147484800) (by decide +kernel) (by decide) (by decide) ?_
        refine x_const (np := 8) (x := 9223372047592194050) (a := 2147483650) (by decide +kernel) (by decide) (by decide) ?_
        refine x_aload (np := 9) (x := 0) (by decide +kernel) rfl (x_nc_le (by decide)) ?_
        have q47 : h33 75 13 = h20 75 13 := jK 0 f35 rg_75_13_0_1 (by omega) (by omega) (by decide)
        have q48 : h20 75 13 = h7 75 13 := jK 0 f22 rg_75_13_0_1 (by omega) (by omega) (by decide)
        have q49 : h7 75 13 = h 75 13 := jK 0 f9 rg_75_13_0_1 (by omega) (by omega) (by decide)
        refine x_getC (np := 12) (x := 717) (f := 13) (q := (h 75 13)) (by decide +kernel) (by decide) (by decide +kernel) ((q47.trans q48).trans q49) (fun l50 => ?_)
        obtain ⟨u51, q52⟩ : ∃ z, (h 75 13) = 2147483648 + z := ⟨(h 75 13) - 2147483648, by omega⟩
        refine x_imul (np := 13) (x := 0) (i := 2) (j := u51) (v := (2147483648 + 2 * u51)) (by decide +kernel) (by omega) (by omega) (by omega) (by omega) (by decide) l50 ?_
        refine x_iadd (np := 14) (x := 0) (v := (2147484800 + 2 * u51)) (by decide +kernel) (by decide) (by omega) (by omega) (by omega) ?_
        refine x_iload (np := 15) (x := 1) (by decide +kernel) rfl (by decide) ?_
        refine x_ast (np := 16) (x := 0) (kd := 1) (n := 1952) (i := (1152 + 2 * u51)) (by decide +kernel) (Or.inl rfl) (by decide +kernel) (by omega) (by omega) (by decide) (by decide) (fun z => absurd z (by decide)) ?_
        have j55 := jU (e := (1152 + 2 * u51)) (v := 2147483654) u51 j34 rg_76_1152_2_394 (by omega) (by omega) (by omega)
        have f57 := jF (e := (1152 + 2 * u51)) (v := 2147483654) u51 f39 rg_76_1152_2_394 (by omega) (by omega) (by decide)
        generalize e56 : x_up h33 76 (1152 + 2 * u51) 2147483654 = h54 at j55 f57 ⊢
        refine x_aload (np := 17) (x := 0) (by decide +kernel) rfl (x_nc_le (by decide)) ?_
        have q58 : h54 75 1 = 76 := by have z := jB (e := 1) 0 j55 rg_75_1_0_1 (by decide) (by decide); omega
        refine x_getR (np := 20) (x := 705) (f := 1) (q := 76) (by decide +kernel) (by decide) (by decide +kernel) q58 ?_
        refine x_const (np := 23) (x := 9223376986804585600) (a := 2147484800) (by decide +kernel) (by decide) (by decide) ?_
        refine x_const (np := 24) (x := 9223372047592194050) (a := 2147483650) (by decide +kernel) (by decide) (by decide) ?_
        refine x_aload (np := 25) (x := 0) (by decide +kernel) rfl (x_nc_le (by decide)) ?_
        have q59 : h54 75 13 = h33 75 13 := by rw [← e56]; exact x_up_k (by decide)
        have q60 : h33 75 13 = h20 75 13 := jK 0 f35 rg_75_13_0_1 (by omega) (by omega) (by decide)
        have q61 : h20 75 13 = h7 75 13 := jK 0 f22 rg_75_13_0_1 (by omega) (by omega) (by decide)
        have q62 : h7 75 13 = h 75 13 := jK 0 f9 rg_75_13_0_1 (by omega) (by omega) (by decide)
        refine x_getC (np := 28) (x := 717) (f := 13) (q := (h 75 13)) (by decide +kernel) (by decide) (by decide +kernel) (((q59.trans q60).trans q61).trans q62) (fun l63 => ?_)
        refine x_imul (np := 29) (x := 0) (i := 2) (j := u51) (v := (2147483648 + 2 * u51)) (by decide +kernel) (by omega) (by omega) (by omega) (by omega) (by decide) l50 ?_
        refine x_iadd (np := 30) (x := 0) (v := (2147484800 + 2 * u51)) (by decide +kernel) (by decide) (by omega) (by omega) (by omega) ?_
        refine x_const (np := 31) (x := 9223372043297226753) (a := 2147483649) (by decide +kernel) (by decide) (by decide) ?_
        refine x_iadd (np := 32) (x := 0) (v := (2147484801 + 2 * u51)) (by decide +kernel) (by omega) (by decide) (by omega) (by omega) ?_
        refine x_iload (np := 33) (x := 2) (by decide +kernel) rfl (by decide) ?_
        refine x_ast (np := 34) (x := 0) (kd := 1) (n := 1952) (i := (1153 + 2 * u51)) (by decide +kernel) (Or.inl rfl) (by decide +kernel) (by omega) (by omega) (by decide) (by decide) (fun z => absurd z (by decide)) ?_
        have j66 := jU (e := (1153 + 2 * u51)) (v := 2147483648) u51 j55 rg_76_1153_2_394 (by omega) (by omega) (by omega)
        have f68 := jF (e := (1153 + 2 * u51)) (v := 2147483648) u51 f57 rg_76_1153_2_394 (by omega) (by omega) (by decide)
        generalize e67 : x_up h54 76 (1153 + 2 * u51) 2147483648 = h65 at j66 f68 ⊢
        refine x_aload (np := 35) (x := 0) (by decide +kernel) rfl (x_nc_le (by decide)) ?_
        refine x_dup (np := 36) (x := 0) (by decide +kernel) (by have z := x_nc_le (k := 75) (by decide); unfold x_r; omega) ?_
        have q69 : h65 75 13 = h54 75 13 := by rw [← e67]; exact x_up_k (by decide)
        have q70 : h54 75 13 = h33 75 13 := by rw [← e56]; exact x_up_k (by decide)
        have q71 : h33 75 13 = h20 75 13 := jK 0 f35 rg_75_13_0_1 (by omega) (by omega) (by decide)
        have q72 : h20 75 13 = h7 75 13 := jK 0 f22 rg_75_13_0_1 (by omega) (by omega) (by decide)
        have q73 : h7 75 13 = h 75 13 := jK 0 f9 rg_75_13_0_1 (by omega) (by omega) (by decide)
        refine x_getC (np := 39) (x := 717) (f := 13) (q := (h 75 13)) (by decide +kernel) (by decide) (by decide +kernel) ((((q69.trans q70).trans q71).trans q72).trans q73) (fun l74 => ?_)
        refine x_const (np := 40) (x := 9223372043297226753) (a := 2147483649) (by decide +kernel) (by decide) (by decide) ?_
        refine x_iadd (np := 41) (x := 0) (v := (1 + (h 75 13))) (by decide +kernel) l50 (by decide) (by omega) (by omega) ?_
        refine x_putI (np := 44) (x := 717) (f := 13) (by decide +kernel) (by decide +kernel) (by omega) (Or.inl (by decide)) ?_
        have j76 := jU (e := 13) (v := (1 + (h 75 13))) 0 j66 rg_75_13_0_1 (by omega) (by omega) (by omega)
        have f78 := jF (e := 13) (v := (1 + (h 75 13))) 0 f68 rg_75_13_0_1 (by omega) (by omega) (by decide)
        generalize e77 : x_up h65 75 13 (1 + (h 75 13)) = h75 at j76 f78 ⊢
        refine x_retV (np := 45) (x := 0) (by decide +kernel) (by decide +kernel) ⟨rfl, ?_⟩
        have q79 : h75 75 13 = (1 + (h 75 13)) := by rw [← e77]; exact x_up_at
        refine x_const (np := 151) (x := 9223372043297226753) (a := 2147483649) (by decide +kernel) (by decide) (by decide) ?_
        have q80 : h75 75 13 = (1 + (h 75 13)) := by rw [← e77]; exact x_up_at
        have q81 : h75 75 7 = h65 75 7 := by rw [← e77]; exact x_up_i (by omega)
        have q82 : h65 75 7 = h54 75 7 := by rw [← e67]; exact x_up_k (by decide)
        have q83 : h54 75 7 = h33 75 7 := by rw [← e56]; exact x_up_k (by decide)
        have q84 : h75 75 10 = h65 75 10 := by rw [← e77]; exact x_up_i (by omega)
        have q85 : h65 75 10 = h54 75 10 := by rw [← e67]; exact x_up_k (by decide)
        have q86 : h54 75 10 = h33 75 10 := by rw [← e56]; exact x_up_k (by decide)
        have q87 : h33 75 10 = h20 75 10 := jK 0 f35 rg_75_10_0_1 (by omega) (by omega) (by decide)
        have q88 : h20 75 10 = h7 75 10 := jK 0 f22 rg_75_10_0_1 (by omega) (by omega) (by decide)
        have q89 : h7 75 10 = h 75 10 := jK 0 f9 rg_75_10_0_1 (by omega) (by omega) (by decide)
        have q90 : h75 75 7 = h65 75 7 := by rw [← e77]; exact x_up_i (by omega)
        have q91 : h65 75 7 = h54 75 7 := by rw [← e67]; exact x_up_k (by decide)
        have q92 : h54 75 7 = h33 75 7 := by rw [← e56]; exact x_up_k (by decide)
        have q93 : h75 75 13 = (1 + (h 75 13)) := by rw [← e77]; exact x_up_at
        have k99 : Kp h h7 (h 75 13 - 2147483648) := Kp.fr Kp.refl f9 (by omega) (by decide)
        have k98 : Kp h h20 (h 75 13 - 2147483648) := Kp.fr k99 f22 (by omega) (by decide)
        have k97 : Kp h h33 (h 75 13 - 2147483648) := Kp.fr k98 f35 (by omega) (by decide)
        have k96 : Kp h h54 (h 75 13 - 2147483648) := by rw [← e56]; exact Kp.up k97 (by omega) (fun i hi => by omega)
        have k95 : Kp h h65 (h 75 13 - 2147483648) := by rw [← e67]; exact Kp.up k96 (by omega) (fun i hi => by omega)
        have k94 : Kp h h75 (h 75 13 - 2147483648) := by rw [← e77]; exact Kp.oth k95 (by decide)
        have q100 : h75 75 13 = (1 + (h 75 13)) := by rw [← e77]; exact x_up_at
        have q102 : h75 76 (1152 + 2 * u51) = h65 76 (1152 + 2 * u51) := by rw [← e77]; exact x_up_k (by decide)
        have q103 : h65 76 (1152 + 2 * u51) = h54 76 (1152 + 2 * u51) := by rw [← e67]; exact x_up_i (by omega)
        have q104 : h54 76 (1152 + 2 * u51) = 2147483654 := by rw [← e56]; exact x_up_at
        have s101 : Seg (sg h75) u51 (u51 + 1) := Seg.push (show 2147483648 ≤ h75 76 (1152 + 2 * u51) by omega) (show h75 76 (1152 + 2 * u51) ≤ 2147483656 by omega)
        have s105 : Seg (sg h75) (h 75 13 - 2147483648) (h75 75 13 - 2147483648) := Seg.cast (Seg.kp s101 Kp.refl) (by omega) (by omega)
        refine x_retI (np := 152) (x := 0) (by decide +kernel) (by decide) (Or.inr ⟨by decide +kernel, by omega, by omega⟩) ⟨_, rfl, (by decide), ?_⟩
        exact ⟨j76, f78, (by omega), (fun z => by omega), (fun z => by omega), (fun z => by omega), (fun z => by omega), k94, (fun _ => s105)⟩
      have q42 : ¬ (v30 ≠ 2147483648) := q42
      refine x_aload (np := 126) (x := 0) (by decide +kernel) rfl (x_nc_le (by decide)) ?_
      refine x_ldcB (i := 26) (idx := 252) (tx := "mine") (by rw [tb_y190]; exact List.mem_of_getElem? (i := 61) rfl) (by decide) (by rw [tb_b190]; decide +kernel) ?_
      refine x_cI (t := 6) (mj := 171) (n := 2) (rc := 12) (ml := 2) (nr := 0) (np := 131) (as := [x_r 75, x_b (26 + 1)]) (rest := []) (lo1 := [x_r 75, x_b (26 + 1)]) (by decide +kernel) (by decide) (by decide +kernel) (x_rb_of (by decide +kernel)) rfl rfl (x_wr (by decide) (x_wB (by decide) x_wn)) x_wn (by decide) rfl (c171_75_S0 j34  (by decide)) (fun v106 h109 l107 q108 => ?_)
      obtain ⟨j110, f111, b112, c113, c114⟩ := q108
      have f115 := Fr.trans f39 f111 (by decide)
      have b116 := jB (e := 7) 0 j110 rg_75_7_0_1 (by omega) (by omega)
      refine x_ifz (k := 0) (tg := 152) (np := 134) (by decide +kernel) (by decide) l107 (fun q117 => ?_) (fun q118 => ?_)
      · have q117 : v106 = 2147483648 := q117
        refine x_aload (np := 153) (x := 0) (by decide +kernel) rfl (x_nc_le (by decide)) ?_
        have q119 : h109 75 13 = h33 75 13 := jK 0 f111 rg_75_13_0_1 (by omega) (by omega) (by decide)
        have q120 : h33 75 13 = h20 75 13 := jK 0 f35 rg_75_13_0_1 (by omega) (by omega) (by decide)
        have q121 : h20 75 13 = h7 75 13 := jK 0 f22 rg_75_13_0_1 (by omega) (by omega) (by decide)
        have q122 : h7 75 13 = h 75 13 := jK 0 f9 rg_75_13_0_1 (by omega) (by omega) (by decide)
        refine x_cI (t := 6) (mj := 189) (n := 1) (rc := 12) (ml := 1) (nr := 0) (np := 156) (as := [x_r 75]) (rest := []) (lo1 := [x_r 75]) (by decide +kernel) (by decide) (by decide +kernel) (x_rb_of (by decide +kernel)) rfl rfl (x_wr (by decide) x_wn) x_wn (by decide) rfl (c189_75 j110  (by omega)) (fun v123 h126 l124 q125 => ?_)
        obtain ⟨j127, f128, b129, c130, c131, c132, c133, c134⟩ := q125
        have f135 := Fr.trans f115 f128 (by decide)
        have q136 : h109 75 13 = h33 75 13 := jK 0 f111 rg_75_13_0_1 (by omega) (by omega) (by decide)
        have q137 : h33 75 13 = h20 75 13 := jK 0 f35 rg_75_13_0_1 (by omega) (by omega) (by decide)
        have q138 : h20 75 13 = h7 75 13 := jK 0 f22 rg_75_13_0_1 (by omega) (by omega) (by decide)
        have q139 : h7 75 13 = h 75 13 := jK 0 f9 rg_75_13_0_1 (by omega) (by omega) (by decide)
        have b140 := jB (e := 13) 0 j127 rg_75_13_0_1 (by omega) (by omega)
        have b141 := jB (e := 7) 0 j127 rg_75_7_0_1 (by omega) (by omega)
        have q142 : h109 75 13 = h33 75 13 := jK 0 f111 rg_75_13_0_1 (by omega) (by omega) (by decide)
        have q143 : h33 75 13 = h20 75 13 := jK 0 f35 rg_75_13_0_1 (by omega) (by omega) (by decide)
        have q144 : h20 75 13 = h7 75 13 := jK 0 f22 rg_75_13_0_1 (by omega) (by omega) (by decide)
        have q145 : h7 75 13 = h 75 13 := jK 0 f9 rg_75_13_0_1 (by omega) (by omega) (by decide)
        refine x_ifz (k := 1) (tg := 161) (np := 159) (by decide +kernel) (by decide) l124 (fun q146 => ?_) (fun q147 => ?_)
        · have q146 : v123 ≠ 2147483648 := q146
          have b148 := c130 (by omega)
          have b149 := c131 (by omega)
          have b150 := c132 (by omega)
          have s151 := c134 (by omega)
          have q152 : h109 75 13 = h33 75 13 := jK 0 f111 rg_75_13_0_1 (by omega) (by omega) (by decide)
          have q153 : h33 75 13 = h20 75 13 := jK 0 f35 rg_75_13_0_1 (by omega) (by omega) (by decide)
          have q154 : h20 75 13 = h7 75 13 := jK 0 f22 rg_75_13_0_1 (by omega) (by omega) (by decide)
          have q155 : h7 75 13 = h 75 13 := jK 0 f9 rg_75_13_0_1 (by omega) (by omega) (by decide)
          refine x_aload (np := 162) (x := 0) (by decide +kernel) rfl (x_nc_le (by decide)) ?_
          refine x_const (np := 164) (x := 9223372296700297276) (a := 2147483708) (by decide +kernel) (by decide) (by decide) ?_
          refine x_cI (t := 6) (mj := 173) (n := 2) (rc := 12) (ml := 2) (nr := 0) (np := 167) (as := [x_r 75, iv_c 2147483708]) (rest := []) (lo1 := [x_r 75, iv_c 2147483708]) (by decide +kernel) (by decide) (by decide +kernel) (x_rb_of (by decide +kernel)) rfl rfl (x_wr (by decide) (x_wi (by decide) x_wn)) x_wn (by decide) rfl (c173_75 j127  (by omega)) (fun v156 h159 l157 q158 => ?_)
          obtain ⟨j160, f161, b162, c163, c164⟩ := q158
          have f165 := Fr.trans f135 f161 (by decide)
          have b166 := jB (e := 7) 0 j160 rg_75_7_0_1 (by omega) (by omega)
          refine x_istore (np := 168) (x := 2) (lo' := [x_r 75, iv_c v30, iv_c v156]) (by decide +kernel) l157 (Nat.le_of_ble_eq_true rfl) rfl ?_
          refine x_iload (np := 169) (x := 2) (by decide +kernel) rfl l157 ?_
          refine x_ifz (k := 1) (tg := 181) (np := 172) (by decide +kernel) (by decide) l157 (fun q167 => ?_) (fun q168 => ?_)
          · have q167 : v156 ≠ 2147483648 := q167
            have b169 := c164 (by omega)
            refine x_aload (np := 182) (x := 0) (by decide +kernel) rfl (x_nc_le (by decide)) ?_
            have q170 : h159 75 13 = h126 75 13 := jK 0 f161 rg_75_13_0_1 (by omega) (by omega) (by decide)
            refine x_cI (t := 6) (mj := 189) (n := 1) (rc := 12) (ml := 1) (nr := 0) (np := 185) (as := [x_r 75]) (rest := []) (lo1 := [x_r 75]) (by decide +kernel) (by decide) (by decide +kernel) (x_rb_of (by decide +kernel)) rfl rfl (x_wr (by decide) x_wn) x_wn (by decide) rfl (c189_75 j160  (by omega)) (fun v171 h174 l172 q173 => ?_)
            obtain ⟨j175, f176, b177, c178, c179, c180, c181, c182⟩ := q173
            have f183 := Fr.trans f165 f176 (by decide)
            have q184 : h159 75 13 = h126 75 13 := jK 0 f161 rg_75_13_0_1 (by omega) (by omega) (by decide)
            have b185 := jB (e := 13) 0 j175 rg_75_13_0_1 (by omega) (by omega)
            have b186 := jB (e := 7) 0 j175 rg_75_7_0_1 (by omega) (by omega)
            have q187 : h159 75 13 = h126 75 13 := jK 0 f161 rg_75_13_0_1 (by omega) (by omega) (by decide)
            refine x_ifz (k := 1) (tg := 190) (np := 188) (by decide +kernel) (by decide) l172 (fun q188 => ?_) (fun q189 => ?_)
            · have q188 : v171 ≠ 2147483648 := q188
              have b190 := c178 (by omega)
              have b191 := c179 (by omega)
              have b192 := c180 (by omega)
              have s193 := c182 (by omega)
              have q194 : h159 75 13 = h126 75 13 := jK 0 f161 rg_75_13_0_1 (by omega) (by omega) (by decide)
              refine x_aload (np := 191) (x := 0) (by decide +kernel) rfl (x_nc_le (by decide)) ?_
              refine x_iload (np := 192) (x := 2) (by decide +kernel) rfl l157 ?_
              refine x_ifz (k := 0) (tg := 200) (np := 195) (by decide +kernel) (by decide) l157 (fun q195 => ?_) (fun q196 => ?_)
              · have q195 : v156 = 2147483648 := q195
                exfalso; omega
              have q196 : ¬ (v156 = 2147483648) := q196
              refine x_const (np := 197) (x := 9223372081951932426) (a := 2147483658) (by decide +kernel) (by decide) (by decide) ?_
              refine x_goto (np := 200) (x := 202) (by decide +kernel) ?_
              refine x_const (np := 203) (x := 9223372039002259456) (a := 2147483648) (by decide +kernel) (by decide) (by decide) ?_
              refine x_nV (t := 6) (mj := 187) (n := 3) (rc := 12) (ml := 3) (nr := 0) (np := 206) (as := [x_r 75, iv_c 2147483658, iv_c 2147483648]) (rest := []) (lo1 := [x_r 75, iv_c 2147483658, iv_c 2147483648]) (by decide +kernel) (by decide) (by decide +kernel) (x_rb_of (by decide +kernel)) rfl rfl (x_wr (by decide) (x_wi (by decide) (x_wi (by decide) x_wn))) x_wn (by decide) rfl ?_
              refine x_aload (np := 1) (x := 0) (by decide +kernel) rfl (x_nc_le (by decide)) ?_
              have q197 : h174 75 1 = 76 := by have z := jB (e := 1) 0 j175 rg_75_1_0_1 (by decide) (by decide); omega
              refine x_getR (np := 4) (x := 705) (f := 1) (q := 76) (by decide +kernel) (by decide) (by decide +kernel) q197 ?_
              refine x_const (np := 7) (x := 9223376986804585600) (a := 2147484800) (by decide +kernel) (by decide) (by decide) ?_
              refine x_const (np := 8) (x := 9223372047592194050) (a := 2147483650) (by decide +kernel) (by decide) (by decide) ?_
              refine x_aload (np := 9) (x := 0) (by decide +kernel) rfl (x_nc_le (by decide)) ?_
              refine x_getC (np := 12) (x := 717) (f := 13) (q := (h174 75 13)) (by decide +kernel) (by decide) (by decide +kernel) rfl (fun l198 => ?_)
              obtain ⟨u199, q200⟩ : ∃ z, (h174 75 13) = 2147483648 + z := ⟨(h174 75 13) - 2147483648, by omega⟩
              refine x_imul (np := 13) (x := 0) (i := 2) (j := u199) (v := (2147483648 + 2 * u199)) (by decide +kernel) (by omega) (by omega) (by omega) (by omega) (by decide) l198 ?_
              refine x_iadd (np := 14) (x := 0) (v := (2147484800 + 2 * u199)) (by decide +kernel) (by decide) (by omega) (by omega) (by omega) ?_
              refine x_iload (np := 15) (x := 1) (by decide +kernel) rfl (by decide) ?_
              refine x_ast (np := 16) (x := 0) (kd := 1) (n := 1952) (i := (1152 + 2 * u199)) (by decide +kernel) (Or.inl rfl) (by decide +kernel) (by omega) (by omega) (by decide) (by decide) (fun z => absurd z (by decide)) ?_
              have j203 := jU (e := (1152 + 2 * u199)) (v := 2147483658) u199 j175 rg_76_1152_2_395 (by omega) (by omega) (by omega)
              have f205 := jF (e := (1152 + 2 * u199)) (v := 2147483658) u199 f183 rg_76_1152_2_395 (by omega) (by omega) (by decide)
              generalize e204 : x_up h174 76 (1152 + 2 * u199) 2147483658 = h202 at j203 f205 ⊢
              refine x_aload (np := 17) (x := 0) (by decide +kernel) rfl (x_nc_le (by decide)) ?_
              have q206 : h202 75 1 = 76 := by have z := jB (e := 1) 0 j203 rg_75_1_0_1 (by decide) (by decide); omega
              refine x_getR (np := 20) (x := 705) (f := 1) (q := 76) (by decide +kernel) (by decide) (by decide +kernel) q206 ?_
              refine x_const (np := 23) (x := 9223376986804585600) (a := 2147484800) (by decide +kernel) (by decide) (by decide) ?_
              refine x_const (np := 24) (x := 9223372047592194050) (a := 2147483650) (by decide +kernel) (by decide) (by decide) ?_
              refine x_aload (np := 25) (x := 0) (by decide +kernel) rfl (x_nc_le (by decide)) ?_
              have q207 : h202 75 13 = h174 75 13 := by rw [← e204]; exact x_up_k (by decide)
              refine x_getC (np := 28) (x := 717) (f := 13) (q := (h174 75 13)) (by decide +kernel) (by decide) (by decide +kernel) q207 (fun l208 => ?_)
              refine x_imul (np := 29) (x := 0) (i := 2) (j := u199) (v := (2147483648 + 2 * u199)) (by decide +kernel) (by omega) (by omega) (by omega) (by omega) (by decide) l198 ?_
              refine x_iadd (np := 30) (x := 0) (v := (2147484800 + 2 * u199)) (by decide +kernel) (by decide) (by omega) (by omega) (by omega) ?_
              refine x_const (np := 31) (x := 9223372043297226753) (a := 2147483649) (by decide +kernel) (by decide) (by decide) ?_
              refine x_iadd (np := 32) (x := 0) (v := (2147484801 + 2 * u199)) (by decide +kernel) (by omega) (by decide) (by omega) (by omega) ?_
              refine x_iload (np := 33) (x := 2) (by decide +kernel) rfl (by decide) ?_
              refine x_ast (np := 34) (x := 0) (kd := 1) (n := 1952) (i := (1153 + 2 * u199)) (by decide +kernel) (Or.inl rfl) (by decide +kernel) (by omega) (by omega) (by decide) (by decide) (fun z => absurd z (by decide)) ?_
              have j211 := jU (e := (1153 + 2 * u199)) (v := 2147483648) u199 j203 rg_76_1153_2_395 (by omega) (by omega) (by omega)
              have f213 := jF (e := (1153 + 2 * u199)) (v := 2147483648) u199 f205 rg_76_1153_2_395 (by omega) (by omega) (by decide)
              generalize e212 : x_up h202 76 (1153 + 2 * u199) 2147483648 = h210 at j211 f213 ⊢
              refine x_aload (np := 35) (x := 0) (by decide +kernel) rfl (x_nc_le (by decide)) ?_
              refine x_dup (np := 36) (x := 0) (by decide +kernel) (by have z := x_nc_le (k := 75) (by decide); unfold x_r; omega) ?_
              have q214 : h210 75 13 = h202 75 13 := by rw [← e212]; exact x_up_k (by decide)
              have q215 : h202 75 13 = h174 75 13 := by rw [← e204]; exact x_up_k (by decide)
              refine x_getC (np := 39) (x := 717) (f := 13) (q := (h174 75 13)) (by decide +kernel) (by decide) (by decide +kernel) (q214.trans q215) (fun l216 => ?_)
              refine x_const (np := 40) (x := 9223372043297226753) (a := 2147483649) (by decide +kernel) (by decide) (by decide) ?_
              refine x_iadd (np := 41) (x := 0) (v := (1 + (h174 75 13))) (by decide +kernel) l198 (by decide) (by omega) (by omega) ?_
              refine x_putI (np := 44) (x := 717) (f := 13) (by decide +kernel) (by decide +kernel) (by omega) (Or.inl (by decide)) ?_
              have j218 := jU (e := 13) (v := (1 + (h174 75 13))) 0 j211 rg_75_13_0_1 (by omega) (by omega) (by omega)
              have f220 := jF (e := 13) (v := (1 + (h174 75 13))) 0 f213 rg_75_13_0_1 (by omega) (by omega) (by decide)
              generalize e219 : x_up h210 75 13 (1 + (h174 75 13)) = h217 at j218 f220 ⊢
              refine x_retV (np := 45) (x := 0) (by decide +kernel) (by decide +kernel) ⟨rfl, ?_⟩
              have q221 : h217 75 13 = (1 + (h174 75 13)) := by rw [← e219]; exact x_up_at
              refine x_const (np := 207) (x := 9223372043297226753) (a := 2147483649) (by decide +kernel) (by decide) (by decide) ?_
              have q222 : h217 75 13 = (1 + (h174 75 13)) := by rw [← e219]; exact x_up_at
              have q223 : h217 75 7 = h210 75 7 := by rw [← e219]; exact x_up_i (by omega)
              have q224 : h210 75 7 = h202 75 7 := by rw [← e212]; exact x_up_k (by decide)
              have q225 : h202 75 7 = h174 75 7 := by rw [← e204]; exact x_up_k (by decide)
              have q226 : h217 75 10 = h210 75 10 := by rw [← e219]; exact x_up_i (by omega)
              have q227 : h210 75 10 = h202 75 10 := by rw [← e212]; exact x_up_k (by decide)
              have q228 : h202 75 10 = h174 75 10 := by rw [← e204]; exact x_up_k (by decide)
              have q229 : h174 75 10 = h159 75 10 := jK 0 f176 rg_75_10_0_1 (by omega) (by omega) (by decide)
              have q230 : h159 75 10 = h126 75 10 := jK 0 f161 rg_75_10_0_1 (by omega) (by omega) (by decide)
              have q231 : h126 75 10 = h109 75 10 := jK 0 f128 rg_75_10_0_1 (by omega) (by omega) (by decide)
              have q232 : h109 75 10 = h33 75 10 := jK 0 f111 rg_75_10_0_1 (by omega) (by omega) (by decide)
              have q233 : h33 75 10 = h20 75 10 := jK 0 f35 rg_75_10_0_1 (by omega) (by omega) (by decide)
              have q234 : h20 75 10 = h7 75 10 := jK 0 f22 rg_75_10_0_1 (by omega) (by omega) (by decide)
              have q235 : h7 75 10 = h 75 10 := jK 0 f9 rg_75_10_0_1 (by omega) (by omega) (by decide)
              have q236 : h217 75 7 = h210 75 7 := by rw [← e219]; exact x_up_i (by omega)
              have q237 : h210 75 7 = h202 75 7 := by rw [← e212]; exact x_up_k (by decide)
              have q238 : h202 75 7 = h174 75 7 := by rw [← e204]; exact x_up_k (by decide)
              have q239 : h217 75 13 = (1 + (h174 75 13)) := by rw [← e219]; exact x_up_at
              have k249 : Kp h h7 (h 75 13 - 2147483648) := Kp.fr Kp.refl f9 (by omega) (by decide)
              have k248 : Kp h h20 (h 75 13 - 2147483648) := Kp.fr k249 f22 (by omega) (by decide)
              have k247 : Kp h h33 (h 75 13 - 2147483648) := Kp.fr k248 f35 (by omega) (by decide)
              have k246 : Kp h h109 (h 75 13 - 2147483648) := Kp.fr k247 f111 (by omega) (by decide)
              have q250 : h109 75 13 = h33 75 13 := jK 0 f111 rg_75_13_0_1 (by omega) (by omega) (by decide)
              have q251 : h33 75 13 = h20 75 13 := jK 0 f35 rg_75_13_0_1 (by omega) (by omega) (by decide)
              have q252 : h20 75 13 = h7 75 13 := jK 0 f22 rg_75_13_0_1 (by omega) (by omega) (by decide)
              have q253 : h7 75 13 = h 75 13 := jK 0 f9 rg_75_13_0_1 (by omega) (by omega) (by decide)
              have k245 : Kp h h126 (h 75 13 - 2147483648) := Kp.trans k246 c133 (by omega)
              have k244 : Kp h h159 (h 75 13 - 2147483648) := Kp.fr k245 f161 (by omega) (by decide)
              have q254 : h159 75 13 = h126 75 13 := jK 0 f161 rg_75_13_0_1 (by omega) (by omega) (by decide)
              have k243 : Kp h h174 (h 75 13 - 2147483648) := Kp.trans k244 c181 (by omega)
              have k242 : Kp h h202 (h 75 13 - 2147483648) := by rw [← e204]; exact Kp.up k243 (by omega) (fun i hi => by omega)
              have k241 : Kp h h210 (h 75 13 - 2147483648) := by rw [← e212]; exact Kp.up k242 (by omega) (fun i hi => by omega)
              have k240 : Kp h h217 (h 75 13 - 2147483648) := by rw [← e219]; exact Kp.oth k241 (by decide)
              have q255 : h217 75 13 = (1 + (h174 75 13)) := by rw [← e219]; exact x_up_at
              have q257 : h217 76 (1152 + 2 * u199) = h210 76 (1152 + 2 * u199) := by rw [← e219]; exact x_up_k (by decide)
              have q258 : h210 76 (1152 + 2 * u199) = h202 76 (1152 + 2 * u199) := by rw [← e212]; exact x_up_i (by omega)
              have q259 : h202 76 (1152 + 2 * u199) = 2147483658 := by rw [← e204]; exact x_up_at
              have k264 : Kp h126 h159 (h126 75 13 - 2147483648) := Kp.fr Kp.refl f161 (by omega) (by decide)
              have q265 : h159 75 13 = h126 75 13 := jK 0 f161 rg_75_13_0_1 (by omega) (by omega) (by decide)
              have k263 : Kp h126 h174 (h126 75 13 - 2147483648) := Kp.trans k264 c181 (by omega)
              have k262 : Kp h126 h202 (h126 75 13 - 2147483648) := by rw [← e204]; exact Kp.up k263 (by omega) (fun i hi => by omega)
              have k261 : Kp h126 h210 (h126 75 13 - 2147483648) := by rw [← e212]; exact Kp.up k262 (by omega) (fun i hi => by omega)
              have k260 : Kp h126 h217 (h126 75 13 - 2147483648) := by rw [← e219]; exact Kp.oth k261 (by decide)
              have k268 : Kp h174 h202 (h174 75 13 - 2147483648) := by rw [← e204]; exact Kp.up Kp.refl (by omega) (fun i hi => by omega)
              have k267 : Kp h174 h210 (h174 75 13 - 2147483648) := by rw [← e212]; exact Kp.up k268 (by omega) (fun i hi => by omega)
              have k266 : Kp h174 h217 (h174 75 13 - 2147483648) := by rw [← e219]; exact Kp.oth k267 (by decide)
              have s256 : Seg (sg h217) (h109 75 13 - 2147483648) (u199 + 1) := Seg.bin (Seg.kp s151 k260) (Seg.cast (a' := (h126 75 13 - 2147483648)) (b' := u199) (Seg.kp s193 k266) (by omega) (by omega)) (show 2147483656 < h217 76 (1152 + 2 * u199) by omega) (show h217 76 (1152 + 2 * u199) ≠ 2147483660 by omega)
              have s269 : Seg (sg h217) (h 75 13 - 2147483648) (h217 75 13 - 2147483648) := Seg.cast (Seg.kp s256 Kp.refl) (by omega) (by omega)
              refine x_retI (np := 208) (x := 0) (by decide +kernel) (by decide) (Or.inr ⟨by decide +kernel, by omega, by omega⟩) ⟨_, rfl, (by decide), ?_⟩
              exact ⟨j218, f220, (by omega), (fun z => by omega), (fun z => by omega), (fun z => by omega), (fun z => by omega), k240, (fun _ => s269)⟩
            have q189 : ¬ (v171 ≠ 2147483648) := q189
            refine x_const (np := 189) (x := 9223372039002259456) (a := 2147483648) (by decide +kernel) (by decide) (by decide) ?_
            have q270 : h174 75 10 = h159 75 10 := jK 0 f176 rg_75_10_0_1 (by omega) (by omega) (by decide)
            have q271 : h159 75 10 = h126 75 10 := jK 0 f161 rg_75_10_0_1 (by omega) (by omega) (by decide)
            have q272 : h126 75 10 = h109 75 10 := jK 0 f128 rg_75_10_0_1 (by omega) (by omega) (by decide)
            have q273 : h109 75 10 = h33 75 10 := jK 0 f111 rg_75_10_0_1 (by omega) (by omega) (by decide)
            have q274 : h33 75 10 = h20 75 10 := jK 0 f35 rg_75_10_0_1 (by omega) (by omega) (by decide)
            have q275 : h20 75 10 = h7 75 10 := jK 0 f22 rg_75_10_0_1 (by omega) (by omega) (by decide)
            have q276 : h7 75 10 = h 75 10 := jK 0 f9 rg_75_10_0_1 (by omega) (by omega) (by decide)
            have k283 : Kp h h7 (h 75 13 - 2147483648) := Kp.fr Kp.refl f9 (by omega) (by decide)
            have k282 : Kp h h20 (h 75 13 - 2147483648) := Kp.fr k283 f22 (by omega) (by decide)
            have k281 : Kp h h33 (h 75 13 - 2147483648) := Kp.fr k282 f35 (by omega) (by decide)
            have k280 : Kp h h109 (h 75 13 - 2147483648) := Kp.fr k281 f111 (by omega) (by decide)
            have q284 : h109 75 13 = h33 75 13 := jK 0 f111 rg_75_13_0_1 (by omega) (by omega) (by decide)
            have q285 : h33 75 13 = h20 75 13 := jK 0 f35 rg_75_13_0_1 (by omega) (by omega) (by decide)
            have q286 : h20 75 13 = h7 75 13 := jK 0 f22 rg_75_13_0_1 (by omega) (by omega) (by decide)
            have q287 : h7 75 13 = h 75 13 := jK 0 f9 rg_75_13_0_1 (by omega) (by omega) (by decide)
            have k279 : Kp h h126 (h 75 13 - 2147483648) := Kp.trans k280 c133 (by omega)
            have k278 : Kp h h159 (h 75 13 - 2147483648) := Kp.fr k279 f161 (by omega) (by decide)
            have q288 : h159 75 13 = h126 75 13 := jK 0 f161 rg_75_13_0_1 (by omega) (by omega) (by decide)
            have k277 : Kp h h174 (h 75 13 - 2147483648) := Kp.trans k278 c181 (by omega)
            refine x_retI (np := 190) (x := 0) (by decide +kernel) (by decide) (Or.inr ⟨by decide +kernel, by omega, by omega⟩) ⟨_, rfl, (by decide), ?_⟩
            exact ⟨j175, f183, (by omega), (fun z => by omega), (fun z => by omega), (fun z => by omega), (fun z => by omega), k277, (fun z => absurd z (by omega))⟩
          have q168 : ¬ (v156 ≠ 2147483648) := q168
          refine x_aload (np := 173) (x := 0) (by decide +kernel) rfl (x_nc_le (by decide)) ?_
          refine x_const (np := 175) (x := 9223372305290231870) (a := 2147483710) (by decide +kernel) (by decide) (by decide) ?_
          refine x_cI (t := 6) (mj := 173) (n := 2) (rc := 12) (ml := 2) (nr := 0) (np := 178) (as := [x_r 75, iv_c 2147483710]) (rest := []) (lo1 := [x_r 75, iv_c 2147483710]) (by decide +kernel) (by decide) (by decide +kernel) (x_rb_of (by decide +kernel)) rfl rfl (x_wr (by decide) (x_wi (by decide) x_wn)) x_wn (by decide) rfl (c173_75 j160  (by omega)) (fun v289 h292 l290 q291 => ?_)
          obtain ⟨j293, f294, b295, c296, c297⟩ := q291
          have f298 := Fr.trans f165 f294 (by decide)
          have b299 := jB (e := 7) 0 j293 rg_75_7_0_1 (by omega) (by omega)
          refine x_ifz (k := 0) (tg := 188) (np := 181) (by decide +kernel) (by decide) l290 (fun q300 => ?_) (fun q301 => ?_)
          · have q300 : v289 = 2147483648 := q300
            refine x_const (np := 189) (x := 9223372039002259456) (a := 2147483648) (by decide +kernel) (by decide) (by decide) ?_
            have q302 : h292 75 13 = h159 75 13 := jK 0 f294 rg_75_13_0_1 (by omega) (by omega) (by decide)
            have q303 : h159 75 13 = h126 75 13 := jK 0 f161 rg_75_13_0_1 (by omega) (by omega) (by decide)
            have q304 : h292 75 10 = h159 75 10 := jK 0 f294 rg_75_10_0_1 (by omega) (by omega) (by decide)
            have q305 : h159 75 10 = h126 75 10 := jK 0 f161 rg_75_10_0_1 (by omega) (by omega) (by decide)
            have q306 : h126 75 10 = h109 75 10 := jK 0 f128 rg_75_10_0_1 (by omega) (by omega) (by decide)
            have q307 : h109 75 10 = h33 75 10 := jK 0 f111 rg_75_10_0_1 (by omega) (by omega) (by decide)
            have q308 : h33 75 10 = h20 75 10 := jK 0 f35 rg_75_10_0_1 (by omega) (by omega) (by decide)
            have q309 : h20 75 10 = h7 75 10 := jK 0 f22 rg_75_10_0_1 (by omega) (by omega) (by decide)
            have q310 : h7 75 10 = h 75 10 := jK 0 f9 rg_75_10_0_1 (by omega) (by omega) (by decide)
            have q311 : h292 75 13 = h159 75 13 := jK 0 f294 rg_75_13_0_1 (by omega) (by omega) (by decide)
            have q312 : h159 75 13 = h126 75 13 := jK 0 f161 rg_75_13_0_1 (by omega) (by omega) (by decide)
            have k319 : Kp h h7 (h 75 13 - 2147483648) := Kp.fr Kp.refl f9 (by omega) (by decide)
            have k318 : Kp h h20 (h 75 13 - 2147483648) := Kp.fr k319 f22 (by omega) (by decide)
            have k317 : Kp h h33 (h 75 13 - 2147483648) := Kp.fr k318 f35 (by omega) (by decide)
            have k316 : Kp h h109 (h 75 13 - 2147483648) := Kp.fr k317 f111 (by omega) (by decide)
            have q320 : h109 75 13 = h33 75 13 := jK 0 f111 rg_75_13_0_1 (by omega) (by omega) (by decide)
            have q321 : h33 75 13 = h20 75 13 := jK 0 f35 rg_75_13_0_1 (by omega) (by omega) (by decide)
            have q322 : h20 75 13 = h7 75 13 := jK 0 f22 rg_75_13_0_1 (by omega) (by omega) (by decide)
            have q323 : h7 75 13 = h 75 13 := jK 0 f9 rg_75_13_0_1 (by omega) (by omega) (by decide)
            have k315 : Kp h h126 (h 75 13 - 2147483648) := Kp.trans k316 c133 (by omega)
            have k314 : Kp h h159 (h 75 13 - 2147483648) := Kp.fr k315 f161 (by omega) (by decide)
            have k313 : Kp h h292 (h 75 13 - 2147483648) := Kp.fr k314 f294 (by omega) (by decide)
            refine x_retI (np := 190) (x := 0) (by decide +kernel) (by decide) (Or.inr ⟨by decide +kernel, by omega, by omega⟩) ⟨_, rfl, (by decide), ?_⟩
            exact ⟨j293, f298, (by omega), (fun z => by omega), (fun z => by omega), (fun z => by omega), (fun z => by omega), k313, (fun z => absurd z (by omega))⟩
          have q301 : ¬ (v289 = 2147483648) := q301
          have b324 := c297 (by omega)
          refine x_aload (np := 182) (x := 0) (by decide +kernel) rfl (x_nc_le (by decide)) ?_
          have q325 : h292 75 13 = h159 75 13 := jK 0 f294 rg_75_13_0_1 (by omega) (by omega) (by decide)
          have q326 : h159 75 13 = h126 75 13 := jK 0 f161 rg_75_13_0_1 (by omega) (by omega) (by decide)
          refine x_cI (t := 6) (mj := 189) (n := 1) (rc := 12) (ml := 1) (nr := 0) (np := 185) (as := [x_r 75]) (rest := []) (lo1 := [x_r 75]) (by decide +kernel) (by decide) (by decide +kernel) (x_rb_of (by decide +kernel)) rfl rfl (x_wr (by decide) x_wn) x_wn (by decide) rfl (c189_75 j293  (by omega)) (fun v327 h330 l328 q329 => ?_)
          obtain ⟨j331, f332, b333, c334, c335, c336, c337, c338⟩ := q329
          have f339 := Fr.trans f298 f332 (by decide)
          have q340 : h292 75 13 = h159 75 13 := jK 0 f294 rg_75_13_0_1 (by omega) (by omega) (by decide)
          have q341 : h159 75 13 = h126 75 13 := jK 0 f161 rg_75_13_0_1 (by omega) (by omega) (by decide)
          have b342 := jB (e := 13) 0 j331 rg_75_13_0_1 (by omega) (by omega)
          have b343 := jB (e := 7) 0 j331 rg_75_7_0_1 (by omega) (by omega)
          have q344 : h292 75 13 = h159 75 13 := jK 0 f294 rg_75_13_0_1 (by omega) (by omega) (by decide)
          have q345 : h159 75 13 = h126 75 13 := jK 0 f161 rg_75_13_0_1 (by omega) (by omega) (by decide)
          refine x_ifz (k := 1) (tg := 190) (np := 188) (by decide +kernel) (by decide) l328 (fun q346 => ?_) (fun q347 => ?_)
          · have q346 : v327 ≠ 2147483648 := q346
            have b348 := c334 (by omega)
            have b349 := c335 (by omega)
            have b350 := c336 (by omega)
            have s351 := c338 (by omega)
            have q352 : h292 75 13 = h159 75 13 := jK 0 f294 rg_75_13_0_1 (by omega) (by omega) (by decide)
            have q353 : h159 75 13 = h126 75 13 := jK 0 f161 rg_75_13_0_1 (by omega) (by omega) (by decide)
            refine x_aload (np := 191) (x := 0) (by decide +kernel) rfl (x_nc_le (by decide)) ?_
            refine x_iload (np := 192) (x := 2) (by decide +kernel) rfl l157 ?_
            refine x_ifz (k := 0) (tg := 200) (np := 195) (by decide +kernel) (by decide) l157 (fun q354 => ?_) (fun q355 => ?_)
            · have q354 : v156 = 2147483648 := q354
              refine x_const (np := 202) (x := 9223372086246899723) (a := 2147483659) (by decide +kernel) (by decide) (by decide) ?_
              refine x_const (np := 203) (x := 9223372039002259456) (a := 2147483648) (by decide +kernel) (by decide) (by decide) ?_
              refine x_nV (t := 6) (mj := 187) (n := 3) (rc := 12) (ml := 3) (nr := 0) (np := 206) (as := [x_r 75, iv_c 2147483659, iv_c 2147483648]) (rest := []) (lo1 := [x_r 75, iv_c 2147483659, iv_c 2147483648]) (by decide +kernel) (by decide) (by decide +kernel) (x_rb_of (by decide +kernel)) rfl rfl (x_wr (by decide) (x_wi (by decide) (x_wi (by decide) x_wn))) x_wn (by decide) rfl ?_
              refine x_aload (np := 1) (x := 0) (by decide +kernel) rfl (x_nc_le (by decide)) ?_
              have q356 : h330 75 1 = 76 := by have z := jB (e := 1) 0 j331 rg_75_1_0_1 (by decide) (by decide); omega
              refine x_getR (np := 4) (x := 705) (f := 1) (q := 76) (by decide +kernel) (by decide) (by decide +kernel) q356 ?_
              refine x_const (np := 7) (x := 9223376986804585600) (a := 2147484800) (by decide +kernel) (by decide) (by decide) ?_
              refine x_const (np := 8) (x := 9223372047592194050) (a := 2147483650) (by decide +kernel) (by decide) (by decide) ?_
              refine x_aload (np := 9) (x := 0) (by decide +kernel) rfl (x_nc_le (by decide)) ?_
              refine x_getC (np := 12) (x := 717) (f := 13) (q := (h330 75 13)) (by decide +kernel) (by decide) (by decide +kernel) rfl (fun l357 => ?_)
              obtain ⟨u358, q359⟩ : ∃ z, (h330 75 13) = 2147483648 + z := ⟨(h330 75 13) - 2147483648, by omega⟩
              refine x_imul (np := 13) (x := 0) (i := 2) (j := u358) (v := (2147483648 + 2 * u358)) (by decide +kernel) (by omega) (by omega) (by omega) (by omega) (by decide) l357 ?_
              refine x_iadd (np := 14) (x := 0) (v := (2147484800 + 2 * u358)) (by decide +kernel) (by decide) (by omega) (by omega) (by omega) ?_
              refine x_iload (np := 15) (x := 1) (by decide +kernel) rfl (by decide) ?_
              refine x_ast (np := 16) (x := 0) (kd := 1) (n := 1952) (i := (1152 + 2 * u358)) (by decide +kernel) (Or.inl rfl) (by decide +kernel) (by omega) (by omega) (by decide) (by decide) (fun z => absurd z (by decide)) ?_
              have j362 := jU (e := (1152 + 2 * u358)) (v := 2147483659) u358 j331 rg_76_1152_2_395 (by omega) (by omega) (by omega)
              have f364 := jF (e := (1152 + 2 * u358)) (v := 2147483659) u358 f339 rg_76_1152_2_395 (by omega) (by omega) (by decide)
              generalize e363 : x_up h330 76 (1152 + 2 * u358) 2147483659 = h361 at j362 f364 ⊢
              refine x_aload (np := 17) (x := 0) (by decide +kernel) rfl (x_nc_le (by decide)) ?_
              have q365 : h361 75 1 = 76 := by have z := jB (e := 1) 0 j362 rg_75_1_0_1 (by decide) (by decide); omega
              refine x_getR (np := 20) (x := 705) (f := 1) (q := 76) (by decide +kernel) (by decide) (by decide +kernel) q365 ?_
              refine x_const (np := 23) (x := 9223376986804585600) (a := 2147484800) (by decide +kernel) (by decide) (by decide) ?_
              refine x_const (np := 24) (x := 9223372047592194050) (a := 2147483650) (by decide +kernel) (by decide) (by decide) ?_
              refine x_aload (np := 25) (x := 0) (by decide +kernel) rfl (x_nc_le (by decide)) ?_
              have q366 : h361 75 13 = h330 75 13 := by rw [← e363]; exact x_up_k (by decide)
              refine x_getC (np := 28) (x := 717) (f := 13) (q := (h330 75 13)) (by decide +kernel) (by decide) (by decide +kernel) q366 (fun l367 => ?_)
              refine x_imul (np := 29) (x := 0) (i := 2) (j := u358) (v := (2147483648 + 2 * u358)) (by decide +kernel) (by omega) (by omega) (by omega) (by omega) (by decide) l357 ?_
              refine x_iadd (np := 30) (x := 0) (v := (2147484800 + 2 * u358)) (by decide +kernel) (by decide) (by omega) (by omega) (by omega) ?_
              refine x_const (np := 31) (x := 9223372043297226753) (a := 2147483649) (by decide +kernel) (by decide) (by decide) ?_
              refine x_iadd (np := 32) (x := 0) (v := (2147484801 + 2 * u358)) (by decide +kernel) (by omega) (by decide) (by omega) (by omega) ?_
              refine x_iload (np := 33) (x := 2) (by decide +kernel) rfl (by decide) ?_
              refine x_ast (np := 34) (x := 0) (kd := 1) (n := 1952) (i := (1153 + 2 * u358)) (by decide +kernel) (Or.inl rfl) (by decide +kernel) (by omega) (by omega) (by decide) (by decide) (fun z => absurd z (by decide)) ?_
              have j370 := jU (e := (1153 + 2 * u358)) (v := 2147483648) u358 j362 rg_76_1153_2_395 (by omega) (by omega) (by omega)
              have f372 := jF (e := (1153 + 2 * u358)) (v := 2147483648) u358 f364 rg_76_1153_2_395 (by omega) (by omega) (by decide)
              generalize e371 : x_up h361 76 (1153 + 2 * u358) 2147483648 = h369 at j370 f372 ⊢
              refine x_aload (np := 35) (x := 0) (by decide +kernel) rfl (x_nc_le (by decide)) ?_
              refine x_dup (np := 36) (x := 0) (by decide +kernel) (by have z := x_nc_le (k := 75) (by decide); unfold x_r; omega) ?_
              have q373 : h369 75 13 = h361 75 13 := by rw [← e371]; exact x_up_k (by decide)
              have q374 : h361 75 13 = h330 75 13 := by rw [← e363]; exact x_up_k (by decide)
              refine x_getC (np := 39) (x := 717) (f := 13) (q := (h330 75 13)) (by decide +kernel) (by decide) (by decide +kernel) (q373.trans q374) (fun l375 => ?_)
              refine x_const (np := 40) (x := 9223372043297226753) (a := 2147483649) (by decide +kernel) (by decide) (by decide) ?_
              refine x_iadd (np := 41) (x := 0) (v := (1 + (h330 75 13))) (by decide +kernel) l357 (by decide) (by omega) (by omega) ?_
              refine x_putI (np := 44) (x := 717) (f := 13) (by decide +kernel) (by decide +kernel) (by omega) (Or.inl (by decide)) ?_
              have j377 := jU (e := 13) (v := (1 + (h330 75 13))) 0 j370 rg_75_13_0_1 (by omega) (by omega) (by omega)
              have f379 := jF (e := 13) (v := (1 + (h330 75 13))) 0 f372 rg_75_13_0_1 (by omega) (by omega) (by decide)
              generalize e378 : x_up h369 75 13 (1 + (h330 75 13)) = h376 at j377 f379 ⊢
              refine x_retV (np := 45) (x := 0) (by decide +kernel) (by decide +kernel) ⟨rfl, ?_⟩
              have q380 : h376 75 13 = (1 + (h330 75 13)) := by rw [← e378]; exact x_up_at
              refine x_const (np := 207) (x := 9223372043297226753) (a := 2147483649) (by decide +kernel) (by decide) (by decide) ?_
              have q381 : h376 75 13 = (1 + (h330 75 13)) := by rw [← e378]; exact x_up_at
              have q382 : h376 75 7 = h369 75 7 := by rw [← e378]; exact x_up_i (by omega)
              have q383 : h369 75 7 = h361 75 7 := by rw [← e371]; exact x_up_k (by decide)
              have q384 : h361 75 7 = h330 75 7 := by rw [← e363]; exact x_up_k (by decide)
              have q385 : h376 75 10 = h369 75 10 := by rw [← e378]; exact x_up_i (by omega)
              have q386 : h369 75 10 = h361 75 10 := by rw [← e371]; exact x_up_k (by decide)
              have q387 : h361 75 10 = h330 75 10 := by rw [← e363]; exact x_up_k (by decide)
              have q388 : h330 75 10 = h292 75 10 := jK 0 f332 rg_75_10_0_1 (by omega) (by omega) (by decide)
              have q389 : h292 75 10 = h159 75 10 := jK 0 f294 rg_75_10_0_1 (by omega) (by omega) (by decide)
              have q390 : h159 75 10 = h126 75 10 := jK 0 f161 rg_75_10_0_1 (by omega) (by omega) (by decide)
              have q391 : h126 75 10 = h109 75 10 := jK 0 f128 rg_75_10_0_1 (by omega) (by omega) (by decide)
              have q392 : h109 75 10 = h33 75 10 := jK 0 f111 rg_75_10_0_1 (by omega) (by omega) (by decide)
              have q393 : h33 75 10 = h20 75 10 := jK 0 f35 rg_75_10_0_1 (by omega) (by omega) (by decide)
              have q394 : h20 75 10 = h7 75 10 := jK 0 f22 rg_75_10_0_1 (by omega) (by omega) (by decide)
              have q395 : h7 75 10 = h 75 10 := jK 0 f9 rg_75_10_0_1 (by omega) (by omega) (by decide)
              have q396 : h376 75 7 = h369 75 7 := by rw [← e378]; exact x_up_i (by omega)
              have q397 : h369 75 7 = h361 75 7 := by rw [← e371]; exact x_up_k (by decide)
              have q398 : h361 75 7 = h330 75 7 := by rw [← e363]; exact x_up_k (by decide)
              have q399 : h376 75 13 = (1 + (h330 75 13)) := by rw [← e378]; exact x_up_at
              have k410 : Kp h h7 (h 75 13 - 2147483648) := Kp.fr Kp.refl f9 (by omega) (by decide)
              have k409 : Kp h h20 (h 75 13 - 2147483648) := Kp.fr k410 f22 (by omega) (by decide)
              have k408 : Kp h h33 (h 75 13 - 2147483648) := Kp.fr k409 f35 (by omega) (by decide)
              have k407 : Kp h h109 (h 75 13 - 2147483648) := Kp.fr k408 f111 (by omega) (by decide)
              have q411 : h109 75 13 = h33 75 13 := jK 0 f111 rg_75_13_0_1 (by omega) (by omega) (by decide)
              have q412 : h33 75 13 = h20 75 13 := jK 0 f35 rg_75_13_0_1 (by omega) (by omega) (by decide)
              have q413 : h20 75 13 = h7 75 13 := jK 0 f22 rg_75_13_0_1 (by omega) (by omega) (by decide)
              have q414 : h7 75 13 = h 75 13 := jK 0 f9 rg_75_13_0_1 (by omega) (by omega) (by decide)
              have k406 : Kp h h126 (h 75 13 - 2147483648) := Kp.trans k407 c133 (by omega)
              have k405 : Kp h h159 (h 75 13 - 2147483648) := Kp.fr k406 f161 (by omega) (by decide)
              have k404 : Kp h h292 (h 75 13 - 2147483648) := Kp.fr k405 f294 (by omega) (by decide)
              have q415 : h292 75 13 = h159 75 13 := jK 0 f294 rg_75_13_0_1 (by omega) (by omega) (by decide)
              have q416 : h159 75 13 = h126 75 13 := jK 0 f161 rg_75_13_0_1 (by omega) (by omega) (by decide)
              have k403 : Kp h h330 (h 75 13 - 2147483648) := Kp.trans k404 c337 (by omega)
              have k402 : Kp h h361 (h 75 13 - 2147483648) := by rw [← e363]; exact Kp.up k403 (by omega) (fun i hi => by omega)
              have k401 : Kp h h369 (h 75 13 - 2147483648) := by rw [← e371]; exact Kp.up k402 (by omega) (fun i hi => by omega)
              have k400 : Kp h h376 (h 75 13 - 2147483648) := by rw [← e378]; exact Kp.oth k401 (by decide)
              have q417 : h376 75 13 = (1 + (h330 75 13)) := by rw [← e378]; exact x_up_at
              have q419 : h376 76 (1152 + 2 * u358) = h369 76 (1152 + 2 * u358) := by rw [← e378]; exact x_up_k (by decide)
              have q420 : h369 76 (1152 + 2 * u358) = h361 76 (1152 + 2 * u358) := by rw [← e371]; exact x_up_i (by omega)
              have q421 : h361 76 (1152 + 2 * u358) = 2147483659 := by rw [← e363]; exact x_up_at
              have k427 : Kp h126 h159 (h126 75 13 - 2147483648) := Kp.fr Kp.refl f161 (by omega) (by decide)
              have k426 : Kp h126 h292 (h126 75 13 - 2147483648) := Kp.fr k427 f294 (by omega) (by decide)
              have q428 : h292 75 13 = h159 75 13 := jK 0 f294 rg_75_13_0_1 (by omega) (by omega) (by decide)
              have q429 : h159 75 13 = h126 75 13 := jK 0 f161 rg_75_13_0_1 (by omega) (by omega) (by decide)
              have k425 : Kp h126 h330 (h126 75 13 - 2147483648) := Kp.trans k426 c337 (by omega)
              have k424 : Kp h126 h361 (h126 75 13 - 2147483648) := by rw [← e363]; exact Kp.up k425 (by omega) (fun i hi => by omega)
              have k423 : Kp h126 h369 (h126 75 13 - 2147483648) := by rw [← e371]; exact Kp.up k424 (by omega) (fun i hi => by omega)
              have k422 : Kp h126 h376 (h126 75 13 - 2147483648) := by rw [← e378]; exact Kp.oth k423 (by decide)
              have k432 : Kp h330 h361 (h330 75 13 - 2147483648) := by rw [← e363]; exact Kp.up Kp.refl (by omega) (fun i hi => by omega)
              have k431 : Kp h330 h369 (h330 75 13 - 2147483648) := by rw [← e371]; exact Kp.up k432 (by omega) (fun i hi => by omega)
              have k430 : Kp h330 h376 (h330 75 13 - 2147483648) := by rw [← e378]; exact Kp.oth k431 (by decide)
              have s418 : Seg (sg h376) (h109 75 13 - 2147483648) (u358 + 1) := Seg.bin (Seg.kp s151 k422) (Seg.cast (a' := (h126 75 13 - 2147483648)) (b' := u358) (Seg.kp s351 k430) (by omega) (by omega)) (show 2147483656 < h376 76 (1152 + 2 * u358) by omega) (show h376 76 (1152 + 2 * u358) ≠ 2147483660 by omega)
              have s433 : Seg (sg h376) (h 75 13 - 2147483648) (h376 75 13 - 2147483648) := Seg.cast (Seg.kp s418 Kp.refl) (by omega) (by omega)
              refine x_retI (np := 208) (x := 0) (by decide +kernel) (by decide) (Or.inr ⟨by decide +kernel, by omega, by omega⟩) ⟨_, rfl, (by decide), ?_⟩
              exact ⟨j377, f379, (by omega), (fun z => by omega), (fun z => by omega), (fun z => by omega), (fun z => by omega), k400, (fun _ => s433)⟩
            have q355 : ¬ (v156 = 2147483648) := q355
            exfalso; omega
          have q347 : ¬ (v327 ≠ 2147483648) := q347
          refine x_const (np := 189) (x := 9223372039002259456) (a := 2147483648) (by decide +kernel) (by decide) (by decide) ?_
          have q434 : h330 75 10 = h292 75 10 := jK 0 f332 rg_75_10_0_1 (by omega) (by omega) (by decide)
          have q435 : h292 75 10 = h159 75 10 := jK 0 f294 rg_75_10_0_1 (by omega) (by omega) (by decide)
          have q436 : h159 75 10 = h126 75 10 := jK 0 f161 rg_75_10_0_1 (by omega) (by omega) (by decide)
          have q437 : h126 75 10 = h109 75 10 := jK 0 f128 rg_75_10_0_1 (by omega) (by omega) (by decide)
          have q438 : h109 75 10 = h33 75 10 := jK 0 f111 rg_75_10_0_1 (by omega) (by omega) (by decide)
          have q439 : h33 75 10 = h20 75 10 := jK 0 f35 rg_75_10_0_1 (by omega) (by omega) (by decide)
          have q440 : h20 75 10 = h7 75 10 := jK 0 f22 rg_75_10_0_1 (by omega) (by omega) (by decide)
          have q441 : h7 75 10 = h 75 10 := jK 0 f9 rg_75_10_0_1 (by omega) (by omega) (by decide)
          have k449 : Kp h h7 (h 75 13 - 2147483648) := Kp.fr Kp.refl f9 (by omega) (by decide)
          have k448 : Kp h h20 (h 75 13 - 2147483648) := Kp.fr k449 f22 (by omega) (by decide)
          have k447 : Kp h h33 (h 75 13 - 2147483648) := Kp.fr k448 f35 (by omega) (by decide)
          have k446 : Kp h h109 (h 75 13 - 2147483648) := Kp.fr k447 f111 (by omega) (by decide)
          have q450 : h109 75 13 = h33 75 13 := jK 0 f111 rg_75_13_0_1 (by omega) (by omega) (by decide)
          have q451 : h33 75 13 = h20 75 13 := jK 0 f35 rg_75_13_0_1 (by omega) (by omega) (by decide)
          have q452 : h20 75 13 = h7 75 13 := jK 0 f22 rg_75_13_0_1 (by omega) (by omega) (by decide)
          have q453 : h7 75 13 = h 75 13 := jK 0 f9 rg_75_13_0_1 (by omega) (by omega) (by decide)
          have k445 : Kp h h126 (h 75 13 - 2147483648) := Kp.trans k446 c133 (by omega)
          have k444 : Kp h h159 (h 75 13 - 2147483648) := Kp.fr k445 f161 (by omega) (by decide)
          have k443 : Kp h h292 (h 75 13 - 2147483648) := Kp.fr k444 f294 (by omega) (by decide)
          have q454 : h292 75 13 = h159 75 13 := jK 0 f294 rg_75_13_0_1 (by omega) (by omega) (by decide)
          have q455 : h159 75 13 = h126 75 13 := jK 0 f161 rg_75_13_0_1 (by omega) (by omega) (by decide)
          have k442 : Kp h h330 (h 75 13 - 2147483648) := Kp.trans k443 c337 (by omega)
          refine x_retI (np := 190) (x := 0) (by decide +kernel) (by decide) (Or.inr ⟨by decide +kernel, by omega, by omega⟩) ⟨_, rfl, (by decide), ?_⟩
          exact ⟨j331, f339, (by omega), (fun z => by omega), (fun z => by omega), (fun z => by omega), (fun z => by omega), k442, (fun z => absurd z (by omega))⟩
        have q147 : ¬ (v123 ≠ 2147483648) := q147
        refine x_const (np := 160) (x := 9223372039002259456) (a := 2147483648) (by decide +kernel) (by decide) (by decide) ?_
        have q456 : h126 75 10 = h109 75 10 := jK 0 f128 rg_75_10_0_1 (by omega) (by omega) (by decide)
        have q457 : h109 75 10 = h33 75 10 := jK 0 f111 rg_75_10_0_1 (by omega) (by omega) (by decide)
        have q458 : h33 75 10 = h20 75 10 := jK 0 f35 rg_75_10_0_1 (by omega) (by omega) (by decide)
        have q459 : h20 75 10 = h7 75 10 := jK 0 f22 rg_75_10_0_1 (by omega) (by omega) (by decide)
        have q460 : h7 75 10 = h 75 10 := jK 0 f9 rg_75_10_0_1 (by omega) (by omega) (by decide)
        have k465 : Kp h h7 (h 75 13 - 2147483648) := Kp.fr Kp.refl f9 (by omega) (by decide)
        have k464 : Kp h h20 (h 75 13 - 2147483648) := Kp.fr k465 f22 (by omega) (by decide)
        have k463 : Kp h h33 (h 75 13 - 2147483648) := Kp.fr k464 f35 (by omega) (by decide)
        have k462 : Kp h h109 (h 75 13 - 2147483648) := Kp.fr k463 f111 (by omega) (by decide)
        have q466 : h109 75 13 = h33 75 13 := jK 0 f111 rg_75_13_0_1 (by omega) (by omega) (by decide)
        have q467 : h33 75 13 = h20 75 13 := jK 0 f35 rg_75_13_0_1 (by omega) (by omega) (by decide)
        have q468 : h20 75 13 = h7 75 13 := jK 0 f22 rg_75_13_0_1 (by omega) (by omega) (by decide)
        have q469 : h7 75 13 = h 75 13 := jK 0 f9 rg_75_13_0_1 (by omega) (by omega) (by decide)
        have k461 : Kp h h126 (h 75 13 - 2147483648) := Kp.trans k462 c133 (by omega)
        refine x_retI (np := 161) (x := 0) (by decide +kernel) (by decide) (Or.inr ⟨by decide +kernel, by omega, by omega⟩) ⟨_, rfl, (by decide), ?_⟩
        exact ⟨j127, f135, (by omega), (fun z => by omega), (fun z => by omega), (fun z => by omega), (fun z => by omega), k461, (fun z => absurd z (by omega))⟩
      have q118 : ¬ (v106 = 2147483648) := q118
      have b470 := c114 (by omega)
      refine x_aload (np := 135) (x := 0) (by decide +kernel) rfl (x_nc_le (by decide)) ?_
      refine x_iload (np := 136) (x := 1) (by decide +kernel) rfl l31 ?_
      refine x_ifz (k := 0) (tg := 144) (np := 139) (by decide +kernel) (by decide) l31 (fun q471 => ?_) (fun q472 => ?_)
      · have q471 : v30 = 2147483648 := q471
        refine x_const (np := 146) (x := 9223372069067030535) (a := 2147483655) (by decide +kernel) (by decide) (by decide) ?_
        refine x_const (np := 147) (x := 9223372039002259456) (a := 2147483648) (by decide +kernel) (by decide) (by decide) ?_
        refine x_nV (t := 6) (mj := 187) (n := 3) (rc := 12) (ml := 3) (nr := 0) (np := 150) (as := [x_r 75, iv_c 2147483655, iv_c 2147483648]) (rest := []) (lo1 := [x_r 75, iv_c 2147483655, iv_c 2147483648]) (by decide +kernel) (by decide) (by decide +kernel) (x_rb_of (by decide +kernel)) rfl rfl (x_wr (by decide) (x_wi (by decide) (x_wi (by decide) x_wn))) x_wn (by decide) rfl ?_
        refine x_aload (np := 1) (x := 0) (by decide +kernel) rfl (x_nc_le (by decide)) ?_
        have q473 : h109 75 1 = 76 := by have z := jB (e := 1) 0 j110 rg_75_1_0_1 (by decide) (by decide); omega
        refine x_getR (np := 4) (x := 705) (f := 1) (q := 76) (by decide +kernel) (by decide) (by decide +kernel) q473 ?_
        refine x_const (np := 7) (x := 9223376986804585600) (a := 2147484800) (by decide +kernel) (by decide) (by decide) ?_
        refine x_const (np := 8) (x := 9223372047592194050) (a := 2147483650) (by decide +kernel) (by decide) (by decide) ?_
        refine x_aload (np := 9) (x := 0) (by decide +kernel) rfl (x_nc_le (by decide)) ?_
        have q474 : h109 75 13 = h33 75 13 := jK 0 f111 rg_75_13_0_1 (by omega) (by omega) (by decide)
        have q475 : h33 75 13 = h20 75 13 := jK 0 f35 rg_75_13_0_1 (by omega) (by omega) (by decide)
        have q476 : h20 75 13 = h7 75 13 := jK 0 f22 rg_75_13_0_1 (by omega) (by omega) (by decide)
        have q477 : h7 75 13 = h 75 13 := jK 0 f9 rg_75_13_0_1 (by omega) (by omega) (by decide)
        refine x_getC (np := 12) (x := 717) (f := 13) (q := (h 75 13)) (by decide +kernel) (by decide) (by decide +kernel) (((q474.trans q475).trans q476).trans q477) (fun l478 => ?_)
        obtain ⟨u479, q480⟩ : ∃ z, (h 75 13) = 2147483648 + z := ⟨(h 75 13) - 2147483648, by omega⟩
        refine x_imul (np := 13) (x := 0) (i := 2) (j := u479) (v := (2147483648 + 2 * u479)) (by decide +kernel) (by omega) (by omega) (by omega) (by omega) (by decide) l478 ?_
        refine x_iadd (np := 14) (x := 0) (v := (2147484800 + 2 * u479)) (by decide +kernel) (by decide) (by omega) (by omega) (by omega) ?_
        refine x_iload (np := 15) (x := 1) (by decide +kernel) rfl (by decide) ?_
        refine x_ast (np := 16) (x := 0) (kd := 1) (n := 1952) (i := (1152 + 2 * u479)) (by decide +kernel) (Or.inl rfl) (by decide +kernel) (by omega) (by omega) (by decide) (by decide) (fun z => absurd z (by decide)) ?_
        have j483 := jU (e := (1152 + 2 * u479)) (v := 2147483655) u479 j110 rg_76_1152_2_394 (by omega) (by omega) (by omega)
        have f485 := jF (e := (1152 + 2 * u479)) (v := 2147483655) u479 f115 rg_76_1152_2_394 (by omega) (by omega) (by decide)
        generalize e484 : x_up h109 76 (1152 + 2 * u479) 2147483655 = h482 at j483 f485 ⊢
        refine x_aload (np := 17) (x := 0) (by decide +kernel) rfl (x_nc_le (by decide)) ?_
        have q486 : h482 75 1 = 76 := by have z := jB (e := 1) 0 j483 rg_75_1_0_1 (by decide) (by decide); omega
        refine x_getR (np := 20) (x := 705) (f := 1) (q := 76) (by decide +kernel) (by decide) (by decide +kernel) q486 ?_
        refine x_const (np := 23) (x := 9223376986804585600) (a := 2147484800) (by decide +kernel) (by decide) (by decide) ?_
        refine x_const (np := 24) (x := 9223372047592194050) (a := 2147483650) (by decide +kernel) (by decide) (by decide) ?_
        refine x_aload (np := 25) (x := 0) (by decide +kernel) rfl (x_nc_le (by decide)) ?_
        have q487 : h482 75 13 = h109 75 13 := by rw [← e484]; exact x_up_k (by decide)
        have q488 : h109 75 13 = h33 75 13 := jK 0 f111 rg_75_13_0_1 (by omega) (by omega) (by decide)
        have q489 : h33 75 13 = h20 75 13 := jK 0 f35 rg_75_13_0_1 (by omega) (by omega) (by decide)
        have q490 : h20 75 13 = h7 75 13 := jK 0 f22 rg_75_13_0_1 (by omega) (by omega) (by decide)
        have q491 : h7 75 13 = h 75 13 := jK 0 f9 rg_75_13_0_1 (by omega) (by omega) (by decide)
        refine x_getC (np := 28) (x := 717) (f := 13) (q := (h 75 13)) (by decide +kernel) (by decide) (by decide +kernel) ((((q487.trans q488).trans q489).trans q490).trans q491) (fun l492 => ?_)
        refine x_imul (np := 29) (x := 0) (i := 2) (j := u479) (v := (2147483648 + 2 * u479)) (by decide +kernel) (by omega) (by omega) (by omega) (by omega) (by decide) l478 ?_
        refine x_iadd (np := 30) (x := 0) (v := (2147484800 + 2 * u479)) (by decide +kernel) (by decide) (by omega) (by omega) (by omega) ?_
        refine x_const (np := 31) (x := 9223372043297226753) (a := 2147483649) (by decide +kernel) (by decide) (by decide) ?_
        refine x_iadd (np := 32) (x := 0) (v := (2147484801 + 2 * u479)) (by decide +kernel) (by omega) (by decide) (by omega) (by omega) ?_
        refine x_iload (np := 33) (x := 2) (by decide +kernel) rfl (by decide) ?_
        refine x_ast (np := 34) (x := 0) (kd := 1) (n := 1952) (i := (1153 + 2 * u479)) (by decide +kernel) (Or.inl rfl) (by decide +kernel) (by omega) (by omega) (by decide) (by decide) (fun z => absurd z (by decide)) ?_
        have j495 := jU (e := (1153 + 2 * u479)) (v := 2147483648) u479 j483 rg_76_1153_2_394 (by omega) (by omega) (by omega)
        have f497 := jF (e := (1153 + 2 * u479)) (v := 2147483648) u479 f485 rg_76_1153_2_394 (by omega) (by omega) (by decide)
        generalize e496 : x_up h482 76 (1153 + 2 * u479) 2147483648 = h494 at j495 f497 ⊢
        refine x_aload (np := 35) (x := 0) (by decide +kernel) rfl (x_nc_le (by decide)) ?_
        refine x_dup (np := 36) (x := 0) (by decide +kernel) (by have z := x_nc_le (k := 75) (by decide); unfold x_r; omega) ?_
        have q498 : h494 75 13 = h482 75 13 := by rw [← e496]; exact x_up_k (by decide)
        have q499 : h482 75 13 = h109 75 13 := by rw [← e484]; exact x_up_k (by decide)
        have q500 : h109 75 13 = h33 75 13 := jK 0 f111 rg_75_13_0_1 (by omega) (by omega) (by decide)
        have q501 : h33 75 13 = h20 75 13 := jK 0 f35 rg_75_13_0_1 (by omega) (by omega) (by decide)
        have q502 : h20 75 13 = h7 75 13 := jK 0 f22 rg_75_13_0_1 (by omega) (by omega) (by decide)
        have q503 : h7 75 13 = h 75 13 := jK 0 f9 rg_75_13_0_1 (by omega) (by omega) (by decide)
        refine x_getC (np := 39) (x := 717) (f := 13) (q := (h 75 13)) (by decide +kernel) (by decide) (by decide +kernel) (((((q498.trans q499).trans q500).trans q501).trans q502).trans q503) (fun l504 => ?_)
        refine x_const (np := 40) (x := 9223372043297226753) (a := 2147483649) (by decide +kernel) (by decide) (by decide) ?_
        refine x_iadd (np := 41) (x := 0) (v := (1 + (h 75 13))) (by decide +kernel) l478 (by decide) (by omega) (by omega) ?_
        refine x_putI (np := 44) (x := 717) (f := 13) (by decide +kernel) (by decide +kernel) (by omega) (Or.inl (by decide)) ?_
        have j506 := jU (e := 13) (v := (1 + (h 75 13))) 0 j495 rg_75_13_0_1 (by omega) (by omega) (by omega)
        have f508 := jF (e := 13) (v := (1 + (h 75 13))) 0 f497 rg_75_13_0_1 (by omega) (by omega) (by decide)
        generalize e507 : x_up h494 75 13 (1 + (h 75 13)) = h505 at j506 f508 ⊢
        refine x_retV (np := 45) (x := 0) (by decide +kernel) (by decide +kernel) ⟨rfl, ?_⟩
        have q509 : h505 75 13 = (1 + (h 75 13)) := by rw [← e507]; exact x_up_at
        refine x_const (np := 151) (x := 9223372043297226753) (a := 2147483649) (by decide +kernel) (by decide) (by decide) ?_
        have q510 : h505 75 13 = (1 + (h 75 13)) := by rw [← e507]; exact x_up_at
        have q511 : h505 75 7 = h494 75 7 := by rw [← e507]; exact x_up_i (by omega)
        have q512 : h494 75 7 = h482 75 7 := by rw [← e496]; exact x_up_k (by decide)
        have q513 : h482 75 7 = h109 75 7 := by rw [← e484]; exact x_up_k (by decide)
        have q514 : h505 75 10 = h494 75 10 := by rw [← e507]; exact x_up_i (by omega)
        have q515 : h494 75 10 = h482 75 10 := by rw [← e496]; exact x_up_k (by decide)
        have q516 : h482 75 10 = h109 75 10 := by rw [← e484]; exact x_up_k (by decide)
        have q517 : h109 75 10 = h33 75 10 := jK 0 f111 rg_75_10_0_1 (by omega) (by omega) (by decide)
        have q518 : h33 75 10 = h20 75 10 := jK 0 f35 rg_75_10_0_1 (by omega) (by omega) (by decide)
        have q519 : h20 75 10 = h7 75 10 := jK 0 f22 rg_75_10_0_1 (by omega) (by omega) (by decide)
        have q520 : h7 75 10 = h 75 10 := jK 0 f9 rg_75_10_0_1 (by omega) (by omega) (by decide)
        have q521 : h505 75 7 = h494 75 7 := by rw [← e507]; exact x_up_i (by omega)
        have q522 : h494 75 7 = h482 75 7 := by rw [← e496]; exact x_up_k (by decide)
        have q523 : h482 75 7 = h109 75 7 := by rw [← e484]; exact x_up_k (by decide)
        have q524 : h505 75 13 = (1 + (h 75 13)) := by rw [← e507]; exact x_up_at
        have k531 : Kp h h7 (h 75 13 - 2147483648) := Kp.fr Kp.refl f9 (by omega) (by decide)
        have k530 : Kp h h20 (h 75 13 - 2147483648) := Kp.fr k531 f22 (by omega) (by decide)
        have k529 : Kp h h33 (h 75 13 - 2147483648) := Kp.fr k530 f35 (by omega) (by decide)
        have k528 : Kp h h109 (h 75 13 - 2147483648) := Kp.fr k529 f111 (by omega) (by decide)
        have k527 : Kp h h482 (h 75 13 - 2147483648) := by rw [← e484]; exact Kp.up k528 (by omega) (fun i hi => by omega)
        have k526 : Kp h h494 (h 75 13 - 2147483648) := by rw [← e496]; exact Kp.up k527 (by omega) (fun i hi => by omega)
        have k525 : Kp h h505 (h 75 13 - 2147483648) := by rw [← e507]; exact Kp.oth k526 (by decide)
        have q532 : h505 75 13 = (1 + (h 75 13)) := by rw [← e507]; exact x_up_at
        have q534 : h505 76 (1152 + 2 * u479) = h494 76 (1152 + 2 * u479) := by rw [← e507]; exact x_up_k (by decide)
        have q535 : h494 76 (1152 + 2 * u479) = h482 76 (1152 + 2 * u479) := by rw [← e496]; exact x_up_i (by omega)
        have q536 : h482 76 (1152 + 2 * u479) = 2147483655 := by rw [← e484]; exact x_up_at
        have s533 : Seg (sg h505) u479 (u479 + 1) := Seg.push (show 2147483648 ≤ h505 76 (1152 + 2 * u479) by omega) (show h505 76 (1152 + 2 * u479) ≤ 2147483656 by omega)
        have s537 : Seg (sg h505) (h 75 13 - 2147483648) (h505 75 13 - 2147483648) := Seg.cast (Seg.kp s533 Kp.refl) (by omega) (by omega)
        refine x_retI (np := 152) (x := 0) (by decide +kernel) (by decide) (Or.inr ⟨by decide +kernel, by omega, by omega⟩) ⟨_, rfl, (by decide), ?_⟩
        exact ⟨j506, f508, (by omega), (fun z => by omega), (fun z => by omega), (fun z => by omega), (fun z => by omega), k525, (fun _ => s537)⟩
      have q472 : ¬ (v30 = 2147483648) := q472
      exfalso; omega
    have q29 : ¬ (v17 = 2147483648) := q29
    have b538 := c25 (by omega)
    refine x_aload (np := 66) (x := 0) (by decide +kernel) rfl (x_nc_le (by decide)) ?_
    have q539 : h20 75 10 = h7 75 10 := jK 0 f22 rg_75_10_0_1 (by omega) (by omega) (by decide)
    have q540 : h7 75 10 = h 75 10 := jK 0 f9 rg_75_10_0_1 (by omega) (by omega) (by decide)
    refine x_getC (np := 69) (x := 714) (f := 10) (q := (h 75 10)) (by decide +kernel) (by decide) (by decide +kernel) (q539.trans q540) (fun l541 => ?_)
    refine x_const (np := 71) (x := 9223372064772063238) (a := 2147483654) (by decide +kernel) (by decide) (by decide) ?_
    refine x_icmp (k := 1) (tg := 76) (np := 74) (by decide +kernel) (by decide) l541 (by decide) (fun q542 => ?_) (fun q543 => ?_)
    · have q542 : (h 75 10) ≠ 2147483654 := q542
      refine x_aload (np := 77) (x := 0) (by decide +kernel) rfl (x_nc_le (by decide)) ?_
      refine x_dup (np := 78) (x := 0) (by decide +kernel) (by have z := x_nc_le (k := 75) (by decide); unfold x_r; omega) ?_
      have q544 : h20 75 10 = h7 75 10 := jK 0 f22 rg_75_10_0_1 (by omega) (by omega) (by decide)
      have q545 : h7 75 10 = h 75 10 := jK 0 f9 rg_75_10_0_1 (by omega) (by omega) (by decide)
      refine x_getC (np := 81) (x := 714) (f := 10) (q := (h 75 10)) (by decide +kernel) (by decide) (by decide +kernel) (q544.trans q545) (fun l546 => ?_)
      refine x_const (np := 82) (x := 9223372043297226753) (a := 2147483649) (by decide +kernel) (by decide) (by decide) ?_
      refine x_iadd (np := 83) (x := 0) (v := (1 + (h 75 10))) (by decide +kernel) l541 (by decide) (by omega) (by omega) ?_
      refine x_putI (np := 86) (x := 714) (f := 10) (by decide +kernel) (by decide +kernel) (by omega) (Or.inl (by decide)) ?_
      have j548 := jU (e := 10) (v := (1 + (h 75 10))) 0 j21 rg_75_10_0_1 (by omega) (by omega) (by omega)
      have f550 := jF (e := 10) (v := (1 + (h 75 10))) 0 f26 rg_75_10_0_1 (by omega) (by omega) (by decide)
      generalize e549 : x_up h20 75 10 (1 + (h 75 10)) = h547 at j548 f550 ⊢
      refine x_aload (np := 87) (x := 0) (by decide +kernel) rfl (x_nc_le (by decide)) ?_
      have q551 : h547 75 10 = (1 + (h 75 10)) := by rw [← e549]; exact x_up_at
      have q552 : h547 75 13 = h20 75 13 := by rw [← e549]; exact x_up_i (by omega)
      have q553 : h20 75 13 = h7 75 13 := jK 0 f22 rg_75_13_0_1 (by omega) (by omega) (by decide)
      have q554 : h7 75 13 = h 75 13 := jK 0 f9 rg_75_13_0_1 (by omega) (by omega) (by decide)
      have q555 : h547 75 7 = h20 75 7 := by rw [← e549]; exact x_up_i (by omega)
      have q556 : h547 75 10 = (1 + (h 75 10)) := by rw [← e549]; exact x_up_at
      refine x_cI (t := 6) (mj := 190) (n := 1) (rc := 12) (ml := 3) (nr := 0) (np := 90) (as := [x_r 75]) (rest := []) (lo1 := [x_r 75, 147573952589676412928, 147573952589676412928]) (by decide +kernel) (by decide) (by decide +kernel) (x_rb_of (by decide +kernel)) rfl rfl (x_wr (by decide) x_wn) x_wn (by decide) rfl (c190_75_D4 j548  (by omega) (by omega)) (fun v557 h560 l558 q559 => ?_)
      obtain ⟨j561, f562, b563, c564, c565, c566, c567, c568, c569⟩ := q559
      have f570 := Fr.trans f550 f562 (by decide)
      have q571 : h547 75 13 = h20 75 13 := by rw [← e549]; exact x_up_i (by omega)
      have q572 : h20 75 13 = h7 75 13 := jK 0 f22 rg_75_13_0_1 (by omega) (by omega) (by decide)
      have q573 : h7 75 13 = h 75 13 := jK 0 f9 rg_75_13_0_1 (by omega) (by omega) (by decide)
      have b574 := jB (e := 13) 0 j561 rg_75_13_0_1 (by omega) (by omega)
      have q575 : h547 75 7 = h20 75 7 := by rw [← e549]; exact x_up_i (by omega)
      have b576 := jB (e := 7) 0 j561 rg_75_7_0_1 (by omega) (by omega)
      have q577 : h547 75 10 = (1 + (h 75 10)) := by rw [← e549]; exact x_up_at
      have b578 := jB (e := 10) 0 j561 rg_75_10_0_1 (by omega) (by omega)
      have q579 : h547 75 7 = h20 75 7 := by rw [← e549]; exact x_up_i (by omega)
      have q580 : h547 75 13 = h20 75 13 := by rw [← e549]; exact x_up_i (by omega)
      have q581 : h20 75 13 = h7 75 13 := jK 0 f22 rg_75_13_0_1 (by omega) (by omega) (by decide)
      have q582 : h7 75 13 = h 75 13 := jK 0 f9 rg_75_13_0_1 (by omega) (by omega) (by decide)
      refine x_ifz (k := 1) (tg := 95) (np := 93) (by decide +kernel) (by decide) l558 (fun q583 => ?_) (fun q584 => ?_)
      · have q583 : v557 ≠ 2147483648 := q583
        have b585 := c564 (by omega)
        have b586 := c565 (by omega)
        have b587 := c566 (by omega)
        have b588 := c567 (by omega)
        have s589 := c569 (by omega)
        have q590 : h547 75 13 = h20 75 13 := by rw [← e549]; exact x_up_i (by omega)
        have q591 : h20 75 13 = h7 75 13 := jK 0 f22 rg_75_13_0_1 (by omega) (by omega) (by decide)
        have q592 : h7 75 13 = h 75 13 := jK 0 f9 rg_75_13_0_1 (by omega) (by omega) (by decide)
        refine x_aload (np := 96) (x := 0) (by decide +kernel) rfl (x_nc_le (by decide)) ?_
        refine x_dup (np := 97) (x := 0) (by decide +kernel) (by have z := x_nc_le (k := 75) (by decide); unfold x_r; omega) ?_
        refine x_getC (np := 100) (x := 714) (f := 10) (q := (h560 75 10)) (by decide +kernel) (by decide) (by decide +kernel) rfl (fun l593 => ?_)
        refine x_const (np := 101) (x := 9223372043297226753) (a := 2147483649) (by decide +kernel) (by decide) (by decide) ?_
        obtain ⟨v594, q595⟩ : ∃ z, z + 2147483649 = (h560 75 10) + 2147483648 := ⟨(h560 75 10) + 2147483648 - 2147483649, by omega⟩
        refine x_isub (np := 102) (x := 0) (v := v594) (by decide +kernel) l593 (by decide) (by omega) (by omega) ?_
        refine x_putI (np := 105) (x := 714) (f := 10) (by decide +kernel) (by decide +kernel) (by omega) (Or.inl (by decide)) ?_
        have j597 := jU (e := 10) (v := v594) 0 j561 rg_75_10_0_1 (by omega) (by omega) (by omega)
        have f599 := jF (e := 10) (v := v594) 0 f570 rg_75_10_0_1 (by omega) (by omega) (by decide)
        generalize e598 : x_up h560 75 10 v594 = h596 at j597 f599 ⊢
        refine x_aload (np := 106) (x := 0) (by decide +kernel) rfl (x_nc_le (by decide)) ?_
        refine x_const (np := 108) (x := 9223372090541867020) (a := 2147483660) (by decide +kernel) (by decide) (by decide) ?_
        refine x_const (np := 109) (x := 9223372039002259456) (a := 2147483648) (by decide +kernel) (by decide) (by decide) ?_
        refine x_nV (t := 6) (mj := 187) (n := 3) (rc := 12) (ml := 3) (nr := 0) (np := 112) (as := [x_r 75, iv_c 2147483660, iv_c 2147483648]) (rest := []) (lo1 := [x_r 75, iv_c 2147483660, iv_c 2147483648]) (by decide +kernel) (by decide) (by decide +kernel) (x_rb_of (by decide +kernel)) rfl rfl (x_wr (by decide) (x_wi (by decide) (x_wi (by decide) x_wn))) x_wn (by decide) rfl ?_
        refine x_aload (np := 1) (x := 0) (by decide +kernel) rfl (x_nc_le (by decide)) ?_
        have q600 : h596 75 1 = 76 := by have z := jB (e := 1) 0 j597 rg_75_1_0_1 (by decide) (by decide); omega
        refine x_getR (np := 4) (x := 705) (f := 1) (q := 76) (by decide +kernel) (by decide) (by decide +kernel) q600 ?_
        refine x_const (np := 7) (x := 9223376986804585600) (a := 2147484800) (by decide +kernel) (by decide) (by decide) ?_
        refine x_const (np := 8) (x := 9223372047592194050) (a := 2147483650) (by decide +kernel) (by decide) (by decide) ?_
        refine x_aload (np := 9) (x := 0) (by decide +kernel) rfl (x_nc_le (by decide)) ?_
        have q601 : h596 75 13 = h560 75 13 := by rw [← e598]; exact x_up_i (by omega)
        refine x_getC (np := 12) (x := 717) (f := 13) (q := (h560 75 13)) (by decide +kernel) (by decide) (by decide +kernel) q601 (fun l602 => ?_)
        obtain ⟨u603, q604⟩ : ∃ z, (h560 75 13) = 2147483648 + z := ⟨(h560 75 13) - 2147483648, by omega⟩
        refine x_imul (np := 13) (x := 0) (i := 2) (j := u603) (v := (2147483648 + 2 * u603)) (by decide +kernel) (by omega) (by omega) (by omega) (by omega) (by decide) l602 ?_
        refine x_iadd (np := 14) (x := 0) (v := (2147484800 + 2 * u603)) (by decide +kernel) (by decide) (by omega) (by omega) (by omega) ?_
        refine x_iload (np := 15) (x := 1) (by decide +kernel) rfl (by decide) ?_
        refine x_ast (np := 16) (x := 0) (kd := 1) (n := 1952) (i := (1152 + 2 * u603)) (by decide +kernel) (Or.inl rfl) (by decide +kernel) (by omega) (by omega) (by decide) (by decide) (fun z => absurd z (by decide)) ?_
        have j607 := jU (e := (1152 + 2 * u603)) (v := 2147483660) u603 j597 rg_76_1152_2_394 (by omega) (by omega) (by omega)
        have f609 := jF (e := (1152 + 2 * u603)) (v := 2147483660) u603 f599 rg_76_1152_2_394 (by omega) (by omega) (by decide)
        generalize e608 : x_up h596 76 (1152 + 2 * u603) 2147483660 = h606 at j607 f609 ⊢
        refine x_aload (np := 17) (x := 0) (by decide +kernel) rfl (x_nc_le (by decide)) ?_
        have q610 : h606 75 1 = 76 := by have z := jB (e := 1) 0 j607 rg_75_1_0_1 (by decide) (by decide); omega
        refine x_getR (np := 20) (x := 705) (f := 1) (q := 76) (by decide +kernel) (by decide) (by decide +kernel) q610 ?_
        refine x_const (np := 23) (x := 9223376986804585600) (a := 2147484800) (by decide +kernel) (by decide) (by decide) ?_
        refine x_const (np := 24) (x := 9223372047592194050) (a := 2147483650) (by decide +kernel) (by decide) (by decide) ?_
        refine x_aload (np := 25) (x := 0) (by decide +kernel) rfl (x_nc_le (by decide)) ?_
        have q611 : h606 75 13 = h596 75 13 := by rw [← e608]; exact x_up_k (by decide)
        have q612 : h596 75 13 = h560 75 13 := by rw [← e598]; exact x_up_i (by omega)
        refine x_getC (np := 28) (x := 717) (f := 13) (q := (h560 75 13)) (by decide +kernel) (by decide) (by decide +kernel) (q611.trans q612) (fun l613 => ?_)
        refine x_imul (np := 29) (x := 0) (i := 2) (j := u603) (v := (2147483648 + 2 * u603)) (by decide +kernel) (by omega) (by omega) (by omega) (by omega) (by decide) l602 ?_
        refine x_iadd (np := 30) (x := 0) (v := (2147484800 + 2 * u603)) (by decide +kernel) (by decide) (by omega) (by omega) (by omega) ?_
        refine x_const (np := 31) (x := 9223372043297226753) (a := 2147483649) (by decide +kernel) (by decide) (by decide) ?_
        refine x_iadd (np := 32) (x := 0) (v := (2147484801 + 2 * u603)) (by decide +kernel) (by omega) (by decide) (by omega) (by omega) ?_
        refine x_iload (np := 33) (x := 2) (by decide +kernel) rfl (by decide) ?_
        refine x_ast (np := 34) (x := 0) (kd := 1) (n := 1952) (i := (1153 + 2 * u603)) (by decide +kernel) (Or.inl rfl) (by decide +kernel) (by omega) (by omega) (by decide) (by decide) (fun z => absurd z (by decide)) ?_
        have j616 := jU (e := (1153 + 2 * u603)) (v := 2147483648) u603 j607 rg_76_1153_2_394 (by omega) (by omega) (by omega)
        have f618 := jF (e := (1153 + 2 * u603)) (v := 2147483648) u603 f609 rg_76_1153_2_394 (by omega) (by omega) (by decide)
        generalize e617 : x_up h606 76 (1153 + 2 * u603) 2147483648 = h615 at j616 f618 ⊢
        refine x_aload (np := 35) (x := 0) (by decide +kernel) rfl (x_nc_le (by decide)) ?_
        refine x_dup (np := 36) (x := 0) (by decide +kernel) (by have z := x_nc_le (k := 75) (by decide); unfold x_r; omega) ?_
        have q619 : h615 75 13 = h606 75 13 := by rw [← e617]; exact x_up_k (by decide)
        have q620 : h606 75 13 = h596 75 13 := by rw [← e608]; exact x_up_k (by decide)
        have q621 : h596 75 13 = h560 75 13 := by rw [← e598]; exact x_up_i (by omega)
        refine x_getC (np := 39) (x := 717) (f := 13) (q := (h560 75 13)) (by decide +kernel) (by decide) (by decide +kernel) ((q619.trans q620).trans q621) (fun l622 => ?_)
        refine x_const (np := 40) (x := 9223372043297226753) (a := 2147483649) (by decide +kernel) (by decide) (by decide) ?_
        refine x_iadd (np := 41) (x := 0) (v := (1 + (h560 75 13))) (by decide +kernel) l602 (by decide) (by omega) (by omega) ?_
        refine x_putI (np := 44) (x := 717) (f := 13) (by decide +kernel) (by decide +kernel) (by omega) (Or.inl (by decide)) ?_
        have j624 := jU (e := 13) (v := (1 + (h560 75 13))) 0 j616 rg_75_13_0_1 (by omega) (by omega) (by omega)
        have f626 := jF (e := 13) (v := (1 + (h560 75 13))) 0 f618 rg_75_13_0_1 (by omega) (by omega) (by decide)
        generalize e625 : x_up h615 75 13 (1 + (h560 75 13)) = h623 at j624 f626 ⊢
        refine x_retV (np := 45) (x := 0) (by decide +kernel) (by decide +kernel) ⟨rfl, ?_⟩
        have q627 : h623 75 13 = (1 + (h560 75 13)) := by rw [← e625]; exact x_up_at
        refine x_const (np := 113) (x := 9223372043297226753) (a := 2147483649) (by decide +kernel) (by decide) (by decide) ?_
        have q628 : h623 75 13 = (1 + (h560 75 13)) := by rw [← e625]; exact x_up_at
        have q629 : h623 75 7 = h615 75 7 := by rw [← e625]; exact x_up_i (by omega)
        have q630 : h615 75 7 = h606 75 7 := by rw [← e617]; exact x_up_k (by decide)
        have q631 : h606 75 7 = h596 75 7 := by rw [← e608]; exact x_up_k (by decide)
        have q632 : h596 75 7 = h560 75 7 := by rw [← e598]; exact x_up_i (by omega)
        have q633 : h623 75 10 = h615 75 10 := by rw [← e625]; exact x_up_i (by omega)
        have q634 : h615 75 10 = h606 75 10 := by rw [← e617]; exact x_up_k (by decide)
        have q635 : h606 75 10 = h596 75 10 := by rw [← e608]; exact x_up_k (by decide)
        have q636 : h596 75 10 = v594 := by rw [← e598]; exact x_up_at
        have q637 : h623 75 7 = h615 75 7 := by rw [← e625]; exact x_up_i (by omega)
        have q638 : h615 75 7 = h606 75 7 := by rw [← e617]; exact x_up_k (by decide)
        have q639 : h606 75 7 = h596 75 7 := by rw [← e608]; exact x_up_k (by decide)
        have q640 : h596 75 7 = h560 75 7 := by rw [← e598]; exact x_up_i (by omega)
        have q641 : h623 75 13 = (1 + (h560 75 13)) := by rw [← e625]; exact x_up_at
        have k649 : Kp h h7 (h 75 13 - 2147483648) := Kp.fr Kp.refl f9 (by omega) (by decide)
        have k648 : Kp h h20 (h 75 13 - 2147483648) := Kp.fr k649 f22 (by omega) (by decide)
        have k647 : Kp h h547 (h 75 13 - 2147483648) := by rw [← e549]; exact Kp.oth k648 (by decide)
        have q650 : h547 75 13 = h20 75 13 := by rw [← e549]; exact x_up_i (by omega)
        have q651 : h20 75 13 = h7 75 13 := jK 0 f22 rg_75_13_0_1 (by omega) (by omega) (by decide)
        have q652 : h7 75 13 = h 75 13 := jK 0 f9 rg_75_13_0_1 (by omega) (by omega) (by decide)
        have k646 : Kp h h560 (h 75 13 - 2147483648) := Kp.trans k647 c568 (by omega)
        have k645 : Kp h h596 (h 75 13 - 2147483648) := by rw [← e598]; exact Kp.oth k646 (by decide)
        have k644 : Kp h h606 (h 75 13 - 2147483648) := by rw [← e608]; exact Kp.up k645 (by omega) (fun i hi => by omega)
        have k643 : Kp h h615 (h 75 13 - 2147483648) := by rw [← e617]; exact Kp.up k644 (by omega) (fun i hi => by omega)
        have k642 : Kp h h623 (h 75 13 - 2147483648) := by rw [← e625]; exact Kp.oth k643 (by decide)
        have q653 : h623 75 13 = (1 + (h560 75 13)) := by rw [← e625]; exact x_up_at
        have q655 : h623 76 (1152 + 2 * u603) = h615 76 (1152 + 2 * u603) := by rw [← e625]; exact x_up_k (by decide)
        have q656 : h615 76 (1152 + 2 * u603) = h606 76 (1152 + 2 * u603) := by rw [← e617]; exact x_up_i (by omega)
        have q657 : h606 76 (1152 + 2 * u603) = 2147483660 := by rw [← e608]; exact x_up_at
        have k661 : Kp h560 h596 (h560 75 13 - 2147483648) := by rw [← e598]; exact Kp.oth Kp.refl (by decide)
        have k660 : Kp h560 h606 (h560 75 13 - 2147483648) := by rw [← e608]; exact Kp.up k661 (by omega) (fun i hi => by omega)
        have k659 : Kp h560 h615 (h560 75 13 - 2147483648) := by rw [← e617]; exact Kp.up k660 (by omega) (fun i hi => by omega)
        have k658 : Kp h560 h623 (h560 75 13 - 2147483648) := by rw [← e625]; exact Kp.oth k659 (by decide)
        have s654 : Seg (sg h623) (h547 75 13 - 2147483648) (u603 + 1) := Seg.not (Seg.cast (a' := (h547 75 13 - 2147483648)) (b' := u603) (Seg.kp s589 k658) rfl (by omega)) (show h623 76 (1152 + 2 * u603) = 2147483660 by omega)
        have s662 : Seg (sg h623) (h 75 13 - 2147483648) (h623 75 13 - 2147483648) := Seg.cast (Seg.kp s654 Kp.refl) (by omega) (by omega)
        refine x_retI (np := 114) (x := 0) (by decide +kernel) (by decide) (Or.inr ⟨by decide +kernel, by omega, by omega⟩) ⟨_, rfl, (by decide), ?_⟩
        exact ⟨j624, f626, (by omega), (fun z => by omega), (fun z => by omega), (fun z => by omega), (fun z => by omega), k642, (fun _ => s662)⟩
      have q584 : ¬ (v557 ≠ 2147483648) := q584
      refine x_const (np := 94) (x := 9223372039002259456) (a := 2147483648) (by decide +kernel) (by decide) (by decide) ?_
      have k666 : Kp h h7 (h 75 13 - 2147483648) := Kp.fr Kp.refl f9 (by omega) (by decide)
      have k665 : Kp h h20 (h 75 13 - 2147483648) := Kp.fr k666 f22 (by omega) (by decide)
      have k664 : Kp h h547 (h 75 13 - 2147483648) := by rw [← e549]; exact Kp.oth k665 (by decide)
      have q667 : h547 75 13 = h20 75 13 := by rw [← e549]; exact x_up_i (by omega)
      have q668 : h20 75 13 = h7 75 13 := jK 0 f22 rg_75_13_0_1 (by omega) (by omega) (by decide)
      have q669 : h7 75 13 = h 75 13 := jK 0 f9 rg_75_13_0_1 (by omega) (by omega) (by decide)
      have k663 : Kp h h560 (h 75 13 - 2147483648) := Kp.trans k664 c568 (by omega)
      refine x_retI (np := 95) (x := 0) (by decide +kernel) (by decide) (Or.inr ⟨by decide +kernel, by omega, by omega⟩) ⟨_, rfl, (by decide), ?_⟩
      exact ⟨j561, f570, (by omega), (fun z => by omega), (fun z => by omega), (fun z => by omega), (fun z => by omega), k663, (fun z => absurd z (by omega))⟩
    have q543 : ¬ ((h 75 10) ≠ 2147483654) := q543
    exfalso; omega
  have q16 : ¬ (v4 = 2147483648) := q16
  have b670 := c12 (by omega)
  refine x_aload (np := 10) (x := 0) (by decide +kernel) rfl (x_nc_le (by decide)) ?_
  have q671 : h7 75 10 = h 75 10 := jK 0 f9 rg_75_10_0_1 (by omega) (by omega) (by decide)
  refine x_getC (np := 13) (x := 714) (f := 10) (q := (h 75 10)) (by decide +kernel) (by decide) (by decide +kernel) q671 (fun l672 => ?_)
  refine x_const (np := 15) (x := 9223372064772063238) (a := 2147483654) (by decide +kernel) (by decide) (by decide) ?_
  refine x_icmp (k := 1) (tg := 20) (np := 18) (by decide +kernel) (by decide) l672 (by decide) (fun q673 => ?_) (fun q674 => ?_)
  · have q673 : (h 75 10) ≠ 2147483654 := q673
    refine x_aload (np := 21) (x := 0) (by decide +kernel) rfl (x_nc_le (by decide)) ?_
    refine x_dup (np := 22) (x := 0) (by decide +kernel) (by have z := x_nc_le (k := 75) (by decide); unfold x_r; omega) ?_
    have q675 : h7 75 10 = h 75 10 := jK 0 f9 rg_75_10_0_1 (by omega) (by omega) (by decide)
    refine x_getC (np := 25) (x := 714) (f := 10) (q := (h 75 10)) (by decide +kernel) (by decide) (by decide +kernel) q675 (fun l676 => ?_)
    refine x_const (np := 26) (x := 9223372043297226753) (a := 2147483649) (by decide +kernel) (by decide) (by decide) ?_
    refine x_iadd (np := 27) (x := 0) (v := (1 + (h 75 10))) (by decide +kernel) l672 (by decide) (by omega) (by omega) ?_
    refine x_putI (np := 30) (x := 714) (f := 10) (by decide +kernel) (by decide +kernel) (by omega) (Or.inl (by decide)) ?_
    have j678 := jU (e := 10) (v := (1 + (h 75 10))) 0 j8 rg_75_10_0_1 (by omega) (by omega) (by omega)
    have f680 := jF (e := 10) (v := (1 + (h 75 10))) 0 f13 rg_75_10_0_1 (by omega) (by omega) (by decide)
    generalize e679 : x_up h7 75 10 (1 + (h 75 10)) = h677 at j678 f680 ⊢
    refine x_aload (np := 31) (x := 0) (by decide +kernel) rfl (x_nc_le (by decide)) ?_
    have q681 : h677 75 10 = (1 + (h 75 10)) := by rw [← e679]; exact x_up_at
    have q682 : h677 75 13 = h7 75 13 := by rw [← e679]; exact x_up_i (by omega)
    have q683 : h7 75 13 = h 75 13 := jK 0 f9 rg_75_13_0_1 (by omega) (by omega) (by decide)
    have q684 : h677 75 7 = h7 75 7 := by rw [← e679]; exact x_up_i (by omega)
    have q685 : h677 75 10 = (1 + (h 75 10)) := by rw [← e679]; exact x_up_at
    refine x_cI (t := 6) (mj := 192) (n := 1) (rc := 12) (ml := 1) (nr := 0) (np := 34) (as := [x_r 75]) (rest := []) (lo1 := [x_r 75]) (by decide +kernel) (by decide) (by decide +kernel) (x_rb_of (by decide +kernel)) rfl rfl (x_wr (by decide) x_wn) x_wn (by decide) rfl (c192_75_D4 j678  (by omega) (by omega)) (fun v686 h689 l687 q688 => ?_)
    obtain ⟨j690, f691, b692, c693, c694, c695, c696, c697, c698⟩ := q688
    have f699 := Fr.trans f680 f691 (by decide)
    have q700 : h677 75 13 = h7 75 13 := by rw [← e679]; exact x_up_i (by omega)
    have q701 : h7 75 13 = h 75 13 := jK 0 f9 rg_75_13_0_1 (by omega) (by omega) (by decide)
    have b702 := jB (e := 13) 0 j690 rg_75_13_0_1 (by omega) (by omega)
    have q703 : h677 75 7 = h7 75 7 := by rw [← e679]; exact x_up_i (by omega)
    have b704 := jB (e := 7) 0 j690 rg_75_7_0_1 (by omega) (by omega)
    have q705 : h677 75 10 = (1 + (h 75 10)) := by rw [← e679]; exact x_up_at
    have b706 := jB (e := 10) 0 j690 rg_75_10_0_1 (by omega) (by omega)
    have q707 : h677 75 7 = h7 75 7 := by rw [← e679]; exact x_up_i (by omega)
    have q708 : h677 75 13 = h7 75 13 := by rw [← e679]; exact x_up_i (by omega)
    have q709 : h7 75 13 = h 75 13 := jK 0 f9 rg_75_13_0_1 (by omega) (by omega) (by decide)
    refine x_ifz (k := 1) (tg := 39) (np := 37) (by decide +kernel) (by decide) l687 (fun q710 => ?_) (fun q711 => ?_)
    · have q710 : v686 ≠ 2147483648 := q710
      have b712 := c693 (by omega)
      have b713 := c694 (by omega)
      have b714 := c695 (by omega)
      have b715 := c696 (by omega)
      have s716 := c698 (by omega)
      have q717 : h677 75 13 = h7 75 13 := by rw [← e679]; exact x_up_i (by omega)
      have q718 : h7 75 13 = h 75 13 := jK 0 f9 rg_75_13_0_1 (by omega) (by omega) (by decide)
      refine x_aload (np := 40) (x := 0) (by decide +kernel) rfl (x_nc_le (by decide)) ?_
      refine x_dup (np := 41) (x := 0) (by decide +kernel) (by have z := x_nc_le (k := 75) (by decide); unfold x_r; omega) ?_
      refine x_getC (np := 44) (x := 714) (f := 10) (q := (h689 75 10)) (by decide +kernel) (by decide) (by decide +kernel) rfl (fun l719 => ?_)
      refine x_const (np := 45) (x := 9223372043297226753) (a := 2147483649) (by decide +kernel) (by decide) (by decide) ?_
      obtain ⟨v720, q721⟩ : ∃ z, z + 2147483649 = (h689 75 10) + 2147483648 := ⟨(h689 75 10) + 2147483648 - 2147483649, by omega⟩
      refine x_isub (np := 46) (x := 0) (v := v720) (by decide +kernel) l719 (by decide) (by omega) (by omega) ?_
      refine x_putI (np := 49) (x := 714) (f := 10) (by decide +kernel) (by decide +kernel) (by omega) (Or.inl (by decide)) ?_
      have j723 := jU (e := 10) (v := v720) 0 j690 rg_75_10_0_1 (by omega) (by omega) (by omega)
      have f725 := jF (e := 10) (v := v720) 0 f699 rg_75_10_0_1 (by omega) (by omega) (by decide)
      generalize e724 : x_up h689 75 10 v720 = h722 at j723 f725 ⊢
      refine x_aload (np := 50) (x := 0) (by decide +kernel) rfl (x_nc_le (by decide)) ?_
      refine x_const (np := 52) (x := 9223372215095918633) (a := 2147483689) (by decide +kernel) (by decide) (by decide) ?_
      refine x_cI (t := 6) (mj := 173) (n := 2) (rc := 12) (ml := 2) (nr := 0) (np := 55) (as := [x_r 75, iv_c 2147483689]) (rest := []) (lo1 := [x_r 75, iv_c 2147483689]) (by decide +kernel) (by decide) (by decide +kernel) (x_rb_of (by decide +kernel)) rfl rfl (x_wr (by decide) (x_wi (by decide) x_wn)) x_wn (by decide) rfl (c173_75 j723  (by omega)) (fun v726 h729 l727 q728 => ?_)
      obtain ⟨j730, f731, b732, c733, c734⟩ := q728
      have f735 := Fr.trans f725 f731 (by decide)
      have q736 : h722 75 7 = h689 75 7 := by rw [← e724]; exact x_up_i (by omega)
      have b737 := jB (e := 7) 0 j730 rg_75_7_0_1 (by omega) (by omega)
      have q738 : h722 75 7 = h689 75 7 := by rw [← e724]; exact x_up_i (by omega)
      have q739 : h729 75 13 = h722 75 13 := jK 0 f731 rg_75_13_0_1 (by omega) (by omega) (by decide)
      have q740 : h722 75 13 = h689 75 13 := by rw [← e724]; exact x_up_i (by omega)
      have q741 : h729 75 10 = h722 75 10 := jK 0 f731 rg_75_10_0_1 (by omega) (by omega) (by decide)
      have q742 : h722 75 10 = v720 := by rw [← e724]; exact x_up_at
      have q743 : h729 75 13 = h722 75 13 := jK 0 f731 rg_75_13_0_1 (by omega) (by omega) (by decide)
      have q744 : h722 75 13 = h689 75 13 := by rw [← e724]; exact x_up_i (by omega)
      have k749 : Kp h h7 (h 75 13 - 2147483648) := Kp.fr Kp.refl f9 (by omega) (by decide)
      have k748 : Kp h h677 (h 75 13 - 2147483648) := by rw [← e679]; exact Kp.oth k749 (by decide)
      have q750 : h677 75 13 = h7 75 13 := by rw [← e679]; exact x_up_i (by omega)
      have q751 : h7 75 13 = h 75 13 := jK 0 f9 rg_75_13_0_1 (by omega) (by omega) (by decide)
      have k747 : Kp h h689 (h 75 13 - 2147483648) := Kp.trans k748 c697 (by omega)
      have k746 : Kp h h722 (h 75 13 - 2147483648) := by rw [← e724]; exact Kp.oth k747 (by decide)
      have k745 : Kp h h729 (h 75 13 - 2147483648) := Kp.fr k746 f731 (by omega) (by decide)
      have q752 : h729 75 13 = h722 75 13 := jK 0 f731 rg_75_13_0_1 (by omega) (by omega) (by decide)
      have q753 : h722 75 13 = h689 75 13 := by rw [← e724]; exact x_up_i (by omega)
      have k755 : Kp h689 h722 (h689 75 13 - 2147483648) := by rw [← e724]; exact Kp.oth Kp.refl (by decide)
      have k754 : Kp h689 h729 (h689 75 13 - 2147483648) := Kp.fr k755 f731 (by omega) (by decide)
      have s756 : Seg (sg h729) (h 75 13 - 2147483648) (h729 75 13 - 2147483648) := Seg.cast (Seg.kp s716 k754) (by omega) (by omega)
      refine x_retI (np := 56) (x := 0) (by decide +kernel) l727 (Or.inr ⟨by decide +kernel, by omega, by omega⟩) ⟨_, rfl, l727, ?_⟩
      exact ⟨j730, f735, (by omega), (fun z => by omega), (fun z => by omega), (fun z => by omega), (fun z => by omega), k745, (fun _ => s756)⟩
    have q711 : ¬ (v686 ≠ 2147483648) := q711
    refine x_const (np := 38) (x := 9223372039002259456) (a := 2147483648) (by decide +kernel) (by decide) (by decide) ?_
    have k759 : Kp h h7 (h 75 13 - 2147483648) := Kp.fr Kp.refl f9 (by omega) (by decide)
    have k758 : Kp h h677 (h 75 13 - 2147483648) := by rw [← e679]; exact Kp.oth k759 (by decide)
    have q760 : h677 75 13 = h7 75 13 := by rw [← e679]; exact x_up_i (by omega)
    have q761 : h7 75 13 = h 75 13 := jK 0 f9 rg_75_13_0_1 (by omega) (by omega) (by decide)
    have k757 : Kp h h689 (h 75 13 - 2147483648) := Kp.trans k758 c697 (by omega)
    refine x_retI (np := 39) (x := 0) (by decide +kernel) (by decide) (Or.inr ⟨by decide +kernel, by omega, by omega⟩) ⟨_, rfl, (by decide), ?_⟩
    exact ⟨j690, f699, (by omega), (fun z => by omega), (fun z => by omega), (fun z => by omega), (fun z => by omega), k757, (fun z => absurd z (by omega))⟩
  have q674 : ¬ ((h 75 10) ≠ 2147483654) := q674
  exfalso; omega
set_option maxHeartbeats 0 in
/-- LentNamesModel.readAllOf()Z -/
theorem c191_75_D3 {sc : Nat × Nat} {d  : Nat} {h : xh} (hJ : J h) (hr0 : (h 75 13) + 5 ≤ (h 75 7)) (hr1 : (h 75 10) = 2147483651) : X sc 191 (d + 17) (xI fun r h' => J h' ∧ Fr 97517569 h h' ∧ (2147483648 ≤ r ∧ r ≤ 2147483649) ∧ (r = 2147483649 → h' 75 13 + h 75 7 ≤ h' 75 7 + h 75 13) ∧ (r = 2147483649 → h' 75 10 = h 75 10) ∧ (r = 2147483649 → h 75 7 + 0 ≤ h' 75 7) ∧ (r = 2147483649 → h 75 13 ≤ h' 75 13) ∧ Kp h h' (h 75 13 - 2147483648) ∧ (r = 2147483649 → Seg (sg h') (h 75 13 - 2147483648) (h' 75 13 - 2147483648))) 0 0 0 [x_r 75] [] h := by
  have hF := Fr.refl 97517569 h
  have b1 := jB (e := 13) 0 hJ rg_75_13_0_1 (by omega) (by omega)
  have b2 := jB (e := 7) 0 hJ rg_75_7_0_1 (by omega) (by omega)
  have b3 := jB (e := 10) 0 hJ rg_75_10_0_1 (by omega) (by omega)
  refine x_aload (np := 1) (x := 0) (by decide +kernel) rfl (x_nc_le (by decide)) ?_
  refine x_cI (t := 6) (mj := 190) (n := 1) (rc := 12) (ml := 3) (nr := 0) (np := 4) (as := [x_r 75]) (rest := []) (lo1 := [x_r 75, 147573952589676412928, 147573952589676412928]) (by decide +kernel) (by decide) (by decide +kernel) (x_rb_of (by decide +kernel)) rfl rfl (x_wr (by decide) x_wn) x_wn (by decide) rfl (c190_75_D3 hJ  (by omega) (by omega)) (fun v4 h7 l5 q6 => ?_)
  obtain ⟨j8, f9, b10, c11, c12, c13, c14, c15, c16⟩ := q6
  have f17 := Fr.trans hF f9 (by decide)
  have b18 := jB (e := 13) 0 j8 rg_75_13_0_1 (by omega) (by omega)
  have b19 := jB (e := 7) 0 j8 rg_75_7_0_1 (by omega) (by omega)
  have b20 := jB (e := 10) 0 j8 rg_75_10_0_1 (by omega) (by omega)
  refine x_ifz (k := 1) (tg := 9) (np := 7) (by decide +kernel) (by decide) l5 (fun q21 => ?_) (fun q22 => ?_)
  · have q21 : v4 ≠ 2147483648 := q21
    have b23 := c11 (by omega)
    have b24 := c12 (by omega)
    have b25 := c13 (by omega)
    have b26 := c14 (by omega)
    have s27 := c16 (by omega)
    have p187 : ∀ (n : Nat) (h184 : xh), 4294967296 - h184 75 7 < n → h184 75 13 + h 75 7 ≤ h184 75 7 + h 75 13 → h184 75 10 = h 75 10 → h 75 7 ≤ h184 75 7 → h 75 13 ≤ h184 75 13 → J h184 → Fr 97517569 h7 h184 → Kp h h184 (h 75 13 - 2147483648) → Seg (sg h184) (h 75 13 - 2147483648) (h184 75 13 - 2147483648) → X sc 191 (d + 17) (xI fun r h' => J h' ∧ Fr 97517569 h h' ∧ (2147483648 ≤ r ∧ r ≤ 2147483649) ∧ (r = 2147483649 → h' 75 13 + h 75 7 ≤ h' 75 7 + h 75 13) ∧ (r = 2147483649 → h' 75 10 = h 75 10) ∧ (r = 2147483649 → h 75 7 + 0 ≤ h' 75 7) ∧ (r = 2147483649 → h 75 13 ≤ h' 75 13) ∧ Kp h h' (h 75 13 - 2147483648) ∧ (r = 2147483649 → Seg (sg h') (h 75 13 - 2147483648) (h' 75 13 - 2147483648))) 0 0 9 [x_r 75] [] h184 := by
      intro n
      induction n with
      | zero => intro h184 q194; exact absurd q194 (Nat.not_lt_zero _)
      | succ n i195 =>
        intro h184 q194 b188 b189 b190 b191 j186 f185 m192 m193
        have f196 := Fr.trans f17 f185 (by decide)
        refine x_aload (np := 10) (x := 0) (by decide +kernel) rfl (x_nc_le (by decide)) ?_
        refine x_ldcwB (i := 31) (idx := 257) (tx := "and") (by rw [tb_y191]; exact List.mem_of_getElem? (i := 66) rfl) (by decide) (by rw [tb_b191]; decide +kernel) ?_
        refine x_cI (t := 6) (mj := 171) (n := 2) (rc := 12) (ml := 2) (nr := 0) (np := 16) (as := [x_r 75, x_b (31 + 1)]) (rest := []) (lo1 := [x_r 75, x_b (31 + 1)]) (by decide +kernel) (by decide) (by decide +kernel) (x_rb_of (by decide +kernel)) rfl rfl (x_wr (by decide) (x_wB (by decide) x_wn)) x_wn (by decide) rfl (c171_75_S0 j186  (by decide)) (fun v197 h200 l198 q199 => ?_)
        obtain ⟨j201, f202, b203, c204, c205⟩ := q199
        have f206 := Fr.trans f196 f202 (by decide)
        have f207 := Fr.trans f185 f202 (by decide)
        have b208 := jB (e := 7) 0 j186 rg_75_7_0_1 (by omega) (by omega)
        have b209 := jB (e := 7) 0 j201 rg_75_7_0_1 (by omega) (by omega)
        refine x_ifz (k := 0) (tg := 38) (np := 19) (by decide +kernel) (by decide) l198 (fun q210 => ?_) (fun q211 => ?_)
        · have q210 : v197 = 2147483648 := q210
          refine x_const (np := 39) (x := 9223372043297226753) (a := 2147483649) (by decide +kernel) (by decide) (by decide) ?_
          have q212 : h200 75 13 = h184 75 13 := jK 0 f202 rg_75_13_0_1 (by omega) (by omega) (by decide)
          have b213 := jB (e := 13) 0 j186 rg_75_13_0_1 (by omega) (by omega)
          have q214 : h200 75 10 = h184 75 10 := jK 0 f202 rg_75_10_0_1 (by omega) (by omega) (by decide)
          have b215 := jB (e := 10) 0 j186 rg_75_10_0_1 (by omega) (by omega)
          have q216 : h200 75 13 = h184 75 13 := jK 0 f202 rg_75_13_0_1 (by omega) (by omega) (by decide)
          have k218 : Kp h h184 (h 75 13 - 2147483648) := Kp.less m192 (by omega)
          have k217 : Kp h h200 (h 75 13 - 2147483648) := Kp.fr k218 f202 (by omega) (by decide)
          have q219 : h200 75 13 = h184 75 13 := jK 0 f202 rg_75_13_0_1 (by omega) (by omega) (by decide)
          have k220 : Kp h184 h200 (h184 75 13 - 2147483648) := Kp.fr Kp.refl f202 (by omega) (by decide)
          have s221 : Seg (sg h200) (h 75 13 - 2147483648) (h200 75 13 - 2147483648) := Seg.cast (Seg.kp m193 k220) (by omega) (by omega)
          refine x_retI (np := 40) (x := 0) (by decide +kernel) (by decide) (Or.inr ⟨by decide +kernel, by omega, by omega⟩) ⟨_, rfl, (by decide), ?_⟩
          exact ⟨j201, f206, (by omega), (fun z => by omega), (fun z => by omega), (fun z => by omega), (fun z => by omega), k217, (fun _ => s221)⟩
        have q211 : ¬ (v197 = 2147483648) := q211
        have b222 := c205 (by omega)
        refine x_aload (np := 20) (x := 0) (by decide +kernel) rfl (x_nc_le (by decide)) ?_
        have q223 : h200 75 10 = h184 75 10 := jK 0 f202 rg_75_10_0_1 (by omega) (by omega) (by decide)
        have b224 := jB (e := 10) 0 j186 rg_75_10_0_1 (by omega) (by omega)
        have q225 : h200 75 13 = h184 75 13 := jK 0 f202 rg_75_13_0_1 (by omega) (by omega) (by decide)
        have b226 := jB (e := 13) 0 j186 rg_75_13_0_1 (by omega) (by omega)
        have q227 : h200 75 10 = h184 75 10 := jK 0 f202 rg_75_10_0_1 (by omega) (by omega) (by decide)
        refine x_cI (t := 6) (mj := 190) (n := 1) (rc := 12) (ml := 3) (nr := 0) (np := 23) (as := [x_r 75]) (rest := []) (lo1 := [x_r 75, 147573952589676412928, 147573952589676412928]) (by decide +kernel) (by decide) (by decide +kernel) (x_rb_of (by decide +kernel)) rfl rfl (x_wr (by decide) x_wn) x_wn (by decide) rfl (c190_75_D3 j201  (by omega) (by omega)) (fun v228 h231 l229 q230 => ?_)
        obtain ⟨j232, f233, b234, c235, c236, c237, c238, c239, c240⟩ := q230
        have f241 := Fr.trans f206 f233 (by decide)
        have f242 := Fr.trans f207 f233 (by decide)
        have q243 : h200 75 13 = h184 75 13 := jK 0 f202 rg_75_13_0_1 (by omega) (by omega) (by decide)
        have b244 := jB (e := 13) 0 j232 rg_75_13_0_1 (by omega) (by omega)
        have b245 := jB (e := 7) 0 j232 rg_75_7_0_1 (by omega) (by omega)
        have q246 : h200 75 10 = h184 75 10 := jK 0 f202 rg_75_10_0_1 (by omega) (by omega) (by decide)
        have b247 := jB (e := 10) 0 j232 rg_75_10_0_1 (by omega) (by omega)
        have q248 : h200 75 13 = h184 75 13 := jK 0 f202 rg_75_13_0_1 (by omega) (by omega) (by decide)
        refine x_ifz (k := 1) (tg := 28) (np := 26) (by decide +kernel) (by decide) l229 (fun q249 => ?_) (fun q250 => ?_)
        · have q249 : v228 ≠ 2147483648 := q249
          have b251 := c235 (by omega)
          have b252 := c236 (by omega)
          have b253 := c237 (by omega)
          have b254 := c238 (by omega)
          have s255 := c240 (by omega)
          have q256 : h200 75 13 = h184 75 13 := jK 0 f202 rg_75_13_0_1 (by omega) (by omega) (by decide)
          refine x_aload (np := 29) (x := 0) (by decide +kernel) rfl (x_nc_le (by decide)) ?_
          refine x_const (np := 31) (x := 9223372094836834317) (a := 2147483661) (by decide +kernel) (by decide) (by decide) ?_
          refine x_const (np := 32) (x := 9223372039002259456) (a := 2147483648) (by decide +kernel) (by decide) (by decide) ?_
          refine x_nV (t := 6) (mj := 187) (n := 3) (rc := 12) (ml := 3) (nr := 0) (np := 35) (as := [x_r 75, iv_c 2147483661, iv_c 2147483648]) (rest := []) (lo1 := [x_r 75, iv_c 2147483661, iv_c 2147483648]) (by decide +kernel) (by decide) (by decide +kernel) (x_rb_of (by decide +kernel)) rfl rfl (x_wr (by decide) (x_wi (by decide) (x_wi (by decide) x_wn))) x_wn (by decide) rfl ?_
          refine x_aload (np := 1) (x := 0) (by decide +kernel) rfl (x_nc_le (by decide)) ?_
          have q257 : h231 75 1 = 76 := by have z := jB (e := 1) 0 j232 rg_75_1_0_1 (by decide) (by decide); omega
          refine x_getR (np := 4) (x := 705) (f := 1) (q := 76) (by decide +kernel) (by decide) (by decide +kernel) q257 ?_
          refine x_const (np := 7) (x := 9223376986804585600) (a := 2147484800) (by decide +kernel) (by decide) (by decide) ?_
          refine x_const (np := 8) (x := 9223372047592194050) (a := 2147483650) (by decide +kernel) (by decide) (by decide) ?_
          refine x_aload (np := 9) (x := 0) (by decide +kernel) rfl (x_nc_le (by decide)) ?_
          refine x_getC (np := 12) (x := 717) (f := 13) (q := (h231 75 13)) (by decide +kernel) (by decide) (by decide +kernel) rfl (fun l258 => ?_)
          obtain ⟨u259, q260⟩ : ∃ z, (h231 75 13) = 2147483648 + z := ⟨(h231 75 13) - 2147483648, by omega⟩
          refine x_imul (np := 13) (x := 0) (i := 2) (j := u259) (v := (2147483648 + 2 * u259)) (by decide +kernel) (by omega) (by omega) (by omega) (by omega) (by decide) l258 ?_
          refine x_iadd (np := 14) (x := 0) (v := (2147484800 + 2 * u259)) (by decide +kernel) (by decide) (by omega) (by omega) (by omega) ?_
          refine x_iload (np := 15) (x := 1) (by decide +kernel) rfl (by decide) ?_
          refine x_ast (np := 16) (x := 0) (kd := 1) (n := 1952) (i := (1152 + 2 * u259)) (by decide +kernel) (Or.inl rfl) (by decide +kernel) (by omega) (by omega) (by decide) (by decide) (fun z => absurd z (by decide)) ?_
          have j263 := jU (e := (1152 + 2 * u259)) (v := 2147483661) u259 j232 rg_76_1152_2_394 (by omega) (by omega) (by omega)
          have f265 := jF (e := (1152 + 2 * u259)) (v := 2147483661) u259 f241 rg_76_1152_2_394 (by omega) (by omega) (by decide)
          have f266 := jF (e := (1152 + 2 * u259)) (v := 2147483661) u259 f242 rg_76_1152_2_394 (by omega) (by omega) (by decide)
          generalize e264 : x_up h231 76 (1152 + 2 * u259) 2147483661 = h262 at j263 f265 f266 ⊢
          refine x_aload (np := 17) (x := 0) (by decide +kernel) rfl (x_nc_le (by decide)) ?_
          have q267 : h262 75 1 = 76 := by have z := jB (e := 1) 0 j263 rg_75_1_0_1 (by decide) (by decide); omega
          refine x_getR (np := 20) (x := 705) (f := 1) (q := 76) (by decide +kernel) (by decide) (by decide +kernel) q267 ?_
          refine x_const (np := 23) (x := 9223376986804585600) (a := 2147484800) (by decide +kernel) (by decide) (by decide) ?_
          refine x_const (np := 24) (x := 9223372047592194050) (a := 2147483650) (by decide +kernel) (by decide) (by decide) ?_
          refine x_aload (np := 25) (x := 0) (by decide +kernel) rfl (x_nc_le (by decide)) ?_
          have q268 : h262 75 13 = h231 75 13 := by rw [← e264]; exact x_up_k (by decide)
          refine x_getC (np := 28) (x := 717) (f := 13) (q := (h231 75 13)) (by decide +kernel) (by decide) (by decide +kernel) q268 (fun l269 => ?_)
          refine x_imul (np := 29) (x := 0) (i := 2) (j := u259) (v := (2147483648 + 2 * u259)) (by decide +kernel) (by omega) (by omega) (by omega) (by omega) (by decide) l258 ?_
          refine x_iadd (np := 30) (x := 0) (v := (2147484800 + 2 * u259)) (by decide +kernel) (by decide) (by omega) (by omega) (by omega) ?_
          refine x_const (np := 31) (x := 9223372043297226753) (a := 2147483649) (by decide +kernel) (by decide) (by decide) ?_
          refine x_iadd (np := 32) (x := 0) (v := (2147484801 + 2 * u259)) (by decide +kernel) (by omega) (by decide) (by omega) (by omega) ?_
          refine x_iload (np := 33) (x := 2) (by decide +kernel) rfl (by decide) ?_
          refine x_ast (np := 34) (x := 0) (kd := 1) (n := 1952) (i := (1153 + 2 * u259)) (by decide +kernel) (Or.inl rfl) (by decide +kernel) (by omega) (by omega) (by decide) (by decide) (fun z => absurd z (by decide)) ?_
          have j272 := jU (e := (1153 + 2 * u259)) (v := 2147483648) u259 j263 rg_76_1153_2_394 (by omega) (by omega) (by omega)
          have f274 := jF (e := (1153 + 2 * u259)) (v := 2147483648) u259 f265 rg_76_1153_2_394 (by omega) (by omega) (by decide)
          have f275 := jF (e := (1153 + 2 * u259)) (v := 2147483648) u259 f266 rg_76_1153_2_394 (by omega) (by omega) (by decide)
          generalize e273 : x_up h262 76 (1153 + 2 * u259) 2147483648 = h271 at j272 f274 f275 ⊢
          refine x_aload (np := 35) (x := 0) (by decide +kernel) rfl (x_nc_le (by decide)) ?_
          refine x_dup (np := 36) (x := 0) (by decide +kernel) (by have z := x_nc_le (k := 75) (by decide); unfold x_r; omega) ?_
          have q276 : h271 75 13 = h262 75 13 := by rw [← e273]; exact x_up_k (by decide)
          have q277 : h262 75 13 = h231 75 13 := by rw [← e264]; exact x_up_k (by decide)
          refine x_getC (np := 39) (x := 717) (f := 13) (q := (h231 75 13)) (by decide +kernel) (by decide) (by decide +kernel) (q276.trans q277) (fun l278 => ?_)
          refine x_const (np := 40) (x := 9223372043297226753) (a := 2147483649) (by decide +kernel) (by decide) (by decide) ?_
          refine x_iadd (np := 41) (x := 0) (v := (1 + (h231 75 13))) (by decide +kernel) l258 (by decide) (by omega) (by omega) ?_
          refine x_putI (np := 44) (x := 717) (f := 13) (by decide +kernel) (by decide +kernel) (by omega) (Or.inl (by decide)) ?_
          have j280 := jU (e := 13) (v := (1 + (h231 75 13))) 0 j272 rg_75_13_0_1 (by omega) (by omega) (by omega)
          have f282 := jF (e := 13) (v := (1 + (h231 75 13))) 0 f274 rg_75_13_0_1 (by omega) (by omega) (by decide)
          have f283 := jF (e := 13) (v := (1 + (h231 75 13))) 0 f275 rg_75_13_0_1 (by omega) (by omega) (by decide)
          generalize e281 : x_up h271 75 13 (1 + (h231 75 13)) = h279 at j280 f282 f283 ⊢
          refine x_retV (np := 45) (x := 0) (by decide +kernel) (by decide +kernel) ⟨rfl, ?_⟩
          have q284 : h279 75 13 = (1 + (h231 75 13)) := by rw [← e281]; exact x_up_at
          refine x_goto (np := 38) (x := 9) (by decide +kernel) ?_
          have q285 : h279 75 7 = h271 75 7 := by rw [← e281]; exact x_up_i (by omega)
          have q286 : h271 75 7 = h262 75 7 := by rw [← e273]; exact x_up_k (by decide)
          have q287 : h262 75 7 = h231 75 7 := by rw [← e264]; exact x_up_k (by decide)
          have q288 : h279 75 7 = h271 75 7 := by rw [← e281]; exact x_up_i (by omega)
          have q289 : h271 75 7 = h262 75 7 := by rw [← e273]; exact x_up_k (by decide)
          have q290 : h262 75 7 = h231 75 7 := by rw [← e264]; exact x_up_k (by decide)
          have q291 : h279 75 13 = (1 + (h231 75 13)) := by rw [← e281]; exact x_up_at
          have q292 : h279 75 10 = h271 75 10 := by rw [← e281]; exact x_up_i (by omega)
          have q293 : h271 75 10 = h262 75 10 := by rw [← e273]; exact x_up_k (by decide)
          have q294 : h262 75 10 = h231 75 10 := by rw [← e264]; exact x_up_k (by decide)
          have k300 : Kp h h184 (h 75 13 - 2147483648) := Kp.less m192 (by omega)
          have k299 : Kp h h200 (h 75 13 - 2147483648) := Kp.fr k300 f202 (by omega) (by decide)
          have q301 : h200 75 13 = h184 75 13 := jK 0 f202 rg_75_13_0_1 (by omega) (by omega) (by decide)
          have k298 : Kp h h231 (h 75 13 - 2147483648) := Kp.trans k299 c239 (by omega)
          have k297 : Kp h h262 (h 75 13 - 2147483648) := by rw [← e264]; exact Kp.up k298 (by omega) (fun i hi => by omega)
          have k296 : Kp h h271 (h 75 13 - 2147483648) := by rw [← e273]; exact Kp.up k297 (by omega) (fun i hi => by omega)
          have k295 : Kp h h279 (h 75 13 - 2147483648) := by rw [← e281]; exact Kp.oth k296 (by decide)
          have q302 : h279 75 13 = (1 + (h231 75 13)) := by rw [← e281]; exact x_up_at
          have q304 : h279 76 (1152 + 2 * u259) = h271 76 (1152 + 2 * u259) := by rw [← e281]; exact x_up_k (by decide)
          have q305 : h271 76 (1152 + 2 * u259) = h262 76 (1152 + 2 * u259) := by rw [← e273]; exact x_up_i (by omega)
          have q306 : h262 76 (1152 + 2 * u259) = 2147483661 := by rw [← e264]; exact x_up_at
          have k311 : Kp h184 h200 (h184 75 13 - 2147483648) := Kp.fr Kp.refl f202 (by omega) (by decide)
          have q312 : h200 75 13 = h184 75 13 := jK 0 f202 rg_75_13_0_1 (by omega) (by omega) (by decide)
          have k310 : Kp h184 h231 (h184 75 13 - 2147483648) := Kp.trans k311 c239 (by omega)
          have k309 : Kp h184 h262 (h184 75 13 - 2147483648) := by rw [← e264]; exact Kp.up k310 (by omega) (fun i hi => by omega)
          have k308 : Kp h184 h271 (h184 75 13 - 2147483648) := by rw [← e273]; exact Kp.up k309 (by omega) (fun i hi => by omega)
          have k307 : Kp h184 h279 (h184 75 13 - 2147483648) := by rw [← e281]; exact Kp.oth k308 (by decide)
          have k315 : Kp h231 h262 (h231 75 13 - 2147483648) := by rw [← e264]; exact Kp.up Kp.refl (by omega) (fun i hi => by omega)
          have k314 : Kp h231 h271 (h231 75 13 - 2147483648) := by rw [← e273]; exact Kp.up k315 (by omega) (fun i hi => by omega)
          have k313 : Kp h231 h279 (h231 75 13 - 2147483648) := by rw [← e281]; exact Kp.oth k314 (by decide)
          have s303 : Seg (sg h279) (h 75 13 - 2147483648) (u259 + 1) := Seg.bin (Seg.kp m193 k307) (Seg.cast (a' := (h184 75 13 - 2147483648)) (b' := u259) (Seg.kp s255 k313) (by omega) (by omega)) (show 2147483656 < h279 76 (1152 + 2 * u259) by omega) (show h279 76 (1152 + 2 * u259) ≠ 2147483660 by omega)
          have s316 : Seg (sg h279) (h 75 13 - 2147483648) (h279 75 13 - 2147483648) := Seg.cast (Seg.kp s303 Kp.refl) (by omega) (by omega)
          exact i195  h279 (by omega) (by omega) (by omega) (by omega) (by omega) j280 f283 k295 s316
        have q250 : ¬ (v228 ≠ 2147483648) := q250
        refine x_const (np := 27) (x := 9223372039002259456) (a := 2147483648) (by decide +kernel) (by decide) (by decide) ?_
        have k319 : Kp h h184 (h 75 13 - 2147483648) := Kp.less m192 (by omega)
        have k318 : Kp h h200 (h 75 13 - 2147483648) := Kp.fr k319 f202 (by omega) (by decide)
        have q320 : h200 75 13 = h184 75 13 := jK 0 f202 rg_75_13_0_1 (by omega) (by omega) (by decide)
        have k317 : Kp h h231 (h 75 13 - 2147483648) := Kp.trans k318 c239 (by omega)
        refine x_retI (np := 28) (x := 0) (by decide +kernel) (by decide) (Or.inr ⟨by decide +kernel, by omega, by omega⟩) ⟨_, rfl, (by decide), ?_⟩
        exact ⟨j232, f241, (by omega), (fun z => by omega), (fun z => by omega), (fun z => by omega), (fun z => by omega), k317, (fun z => absurd z (by omega))⟩
    have k321 : Kp h h7 (h 75 13 - 2147483648) := Kp.less c15 (by omega)
    have s322 : Seg (sg h7) (h 75 13 - 2147483648) (h7 75 13 - 2147483648) := Seg.cast (Seg.kp s27 Kp.refl) (by omega) (by omega)
    exact p187 _  h7 (Nat.lt_succ_self _) (by omega) (by omega) (by omega) (by omega) j8 (Fr.refl _ _) k321 s322
  have q22 : ¬ (v4 ≠ 2147483648) := q22
  refine x_const (np := 8) (x := 9223372039002259456) (a := 2147483648) (by decide +kernel) (by decide) (by decide) ?_
  have k323 : Kp h h7 (h 75 13 - 2147483648) := Kp.less c15 (by omega)
  refine x_retI (np := 9) (x := 0) (by decide +kernel) (by decide) (Or.inr ⟨by decide +kernel, by omega, by omega⟩) ⟨_, rfl, (by decide), ?_⟩
  exact ⟨j8, f17, (by omega), (fun z => by omega), (fun z => by omega), (fun z => by omega), (fun z => by omega), k323, (fun z => absurd z (by omega))⟩
set_option maxHeartbeats 0 in
/-- LentNamesModel.readCond()Z -/
theorem c192_75_D3 {sc : Nat × Nat} {d  : Nat} {h : xh} (hJ : J h) (hr0 : (h 75 13) + 5 ≤ (h 75 7)) (hr1 : (h 75 10) = 2147483651) : X sc 192 (d + 18) (xI fun r h' => J h' ∧ Fr 97517569 h h' ∧ (2147483648 ≤ r ∧ r ≤ 2147483649) ∧ (r = 2147483649 → h' 75 13 + h 75 7 ≤ h' 75 7 + h 75 13) ∧ (r = 2147483649 → h' 75 10 = h 75 10) ∧ (r = 2147483649 → h 75 7 + 0 ≤ h' 75 7) ∧ (r = 2147483649 → h 75 13 ≤ h' 75 13) ∧ Kp h h' (h 75 13 - 2147483648) ∧ (r = 2147483649 → Seg (sg h') (h 75 13 - 2147483648) (h' 75 13 - 2147483648))) 0 0 0 [x_r 75] [] h := by
  have hF := Fr.refl 97517569 h
  have b1 := jB (e := 13) 0 hJ rg_75_13_0_1 (by omega) (by omega)
  have b2 := jB (e := 7) 0 hJ rg_75_7_0_1 (by omega) (by omega)
  have b3 := jB (e := 10) 0 hJ rg_75_10_0_1 (by omega) (by omega)
  refine x_aload (np := 1) (x := 0) (by decide +kernel) rfl (x_nc_le (by decide)) ?_
  refine x_cI (t := 6) (mj := 191) (n := 1) (rc := 12) (ml := 1) (nr := 0) (np := 4) (as := [x_r 75]) (rest := []) (lo1 := [x_r 75]) (by decide +kernel) (by decide) (by decide +kernel) (x_rb_of (by decide +kernel)) rfl rfl (x_wr (by decide) x_wn) x_wn (by decide) rfl (c191_75_D3 hJ  (by omega) (by omega)) (fun v4 h7 l5 q6 => ?_)
  obtain ⟨j8, f9, b10, c11, c12, c13, c14, c15, c16⟩ := q6
  have f17 := Fr.trans hF f9 (by decide)
  have b18 := jB (e := 13) 0 j8 rg_75_13_0_1 (by omega) (by omega)
  have b19 := jB (e := 7) 0 j8 rg_75_7_0_1 (by omega) (by omega)
  have b20 := jB (e := 10) 0 j8 rg_75_10_0_1 (by omega) (by omega)
  refine x_ifz (k := 1) (tg := 9) (np := 7) (by decide +kernel) (by decide) l5 (fun q21 => ?_) (fun q22 => ?_)
  · have q21 : v4 ≠ 2147483648 := q21
    have b23 := c11 (by omega)
    have b24 := c12 (by omega)
    have b25 := c13 (by omega)
    have b26 := c14 (by omega)
    have s27 := c16 (by omega)
    have p187 : ∀ (n : Nat) (h184 : xh), 4294967296 - h184 75 7 < n → h184 75 13 + h 75 7 ≤ h184 75 7 + h 75 13 → h184 75 10 = h 75 10 → h 75 7 ≤ h184 75 7 → h 75 13 ≤ h184 75 13 → J h184 → Fr 97517569 h7 h184 → Kp h h184 (h 75 13 - 2147483648) → Seg (sg h184) (h 75 13 - 2147483648) (h184 75 13 - 2147483648) → X sc 192 (d + 18) (xI fun r h' => J h' ∧ Fr 97517569 h h' ∧ (2147483648 ≤ r ∧ r ≤ 2147483649) ∧ (r = 2147483649 → h' 75 13 + h 75 7 ≤ h' 75 7 + h 75 13) ∧ (r = 2147483649 → h' 75 10 = h 75 10) ∧ (r = 2147483649 → h 75 7 + 0 ≤ h' 75 7) ∧ (r = 2147483649 → h 75 13 ≤ h' 75 13) ∧ Kp h h' (h 75 13 - 2147483648) ∧ (r = 2147483649 → Seg (sg h') (h 75 13 - 2147483648) (h' 75 13 - 2147483648))) 0 0 9 [x_r 75] [] h184 := by
      intro n
      induction n with
      | zero => intro h184 q194; exact absurd q194 (Nat.not_lt_zero _)
      | succ n i195 =>
        intro h184 q194 b188 b189 b190 b191 j186 f185 m192 m193
        have f196 := Fr.trans f17 f185 (by decide)
        refine x_aload (np := 10) (x := 0) (by decide +kernel) rfl (x_nc_le (by decide)) ?_
        refine x_ldcB (i := 15) (idx := 179) (tx := "or") (by rw [tb_y192]; exact List.mem_of_getElem? (i := 54) rfl) (by decide) (by rw [tb_b192]; decide +kernel) ?_
        refine x_cI (t := 6) (mj := 171) (n := 2) (rc := 12) (ml := 2) (nr := 0) (np := 15) (as := [x_r 75, x_b (15 + 1)]) (rest := []) (lo1 := [x_r 75, x_b (15 + 1)]) (by decide +kernel) (by decide) (by decide +kernel) (x_rb_of (by decide +kernel)) rfl rfl (x_wr (by decide) (x_wB (by decide) x_wn)) x_wn (by decide) rfl (c171_75_S0 j186  (by decide)) (fun v197 h200 l198 q199 => ?_)
        obtain ⟨j201, f202, b203, c204, c205⟩ := q199
        have f206 := Fr.trans f196 f202 (by decide)
        have f207 := Fr.trans f185 f202 (by decide)
        have b208 := jB (e := 7) 0 j186 rg_75_7_0_1 (by omega) (by omega)
        have b209 := jB (e := 7) 0 j201 rg_75_7_0_1 (by omega) (by omega)
        refine x_ifz (k := 0) (tg := 37) (np := 18) (by decide +kernel) (by decide) l198 (fun q210 => ?_) (fun q211 => ?_)
        · have q210 : v197 = 2147483648 := q210
          refine x_const (np := 38) (x := 9223372043297226753) (a := 2147483649) (by decide +kernel) (by decide) (by decide) ?_
          have q212 : h200 75 13 = h184 75 13 := jK 0 f202 rg_75_13_0_1 (by omega) (by omega) (by decide)
          have b213 := jB (e := 13) 0 j186 rg_75_13_0_1 (by omega) (by omega)
          have q214 : h200 75 10 = h184 75 10 := jK 0 f202 rg_75_10_0_1 (by omega) (by omega) (by decide)
          have b215 := jB (e := 10) 0 j186 rg_75_10_0_1 (by omega) (by omega)
          have q216 : h200 75 13 = h184 75 13 := jK 0 f202 rg_75_13_0_1 (by omega) (by omega) (by decide)
          have k218 : Kp h h184 (h 75 13 - 2147483648) := Kp.less m192 (by omega)
          have k217 : Kp h h200 (h 75 13 - 2147483648) := Kp.fr k218 f202 (by omega) (by decide)
          have q219 : h200 75 13 = h184 75 13 := jK 0 f202 rg_75_13_0_1 (by omega) (by omega) (by decide)
          have k220 : Kp h184 h200 (h184 75 13 - 2147483648) := Kp.fr Kp.refl f202 (by omega) (by decide)
          have s221 : Seg (sg h200) (h 75 13 - 2147483648) (h200 75 13 - 2147483648) := Seg.cast (Seg.kp m193 k220) (by omega) (by omega)
          refine x_retI (np := 39) (x := 0) (by decide +kernel) (by decide) (Or.inr ⟨by decide +kernel, by omega, by omega⟩) ⟨_, rfl, (by decide), ?_⟩
          exact ⟨j201, f206, (by omega), (fun z => by omega), (fun z => by omega), (fun z => by omega), (fun z => by omega), k217, (fun _ => s221)⟩
        have q211 : ¬ (v197 = 2147483648) := q211
        have b222 := c205 (by omega)
        refine x_aload (np := 19) (x := 0) (by decide +kernel) rfl (x_nc_le (by decide)) ?_
        have q223 : h200 75 10 = h184 75 10 := jK 0 f202 rg_75_10_0_1 (by omega) (by omega) (by decide)
        have b224 := jB (e := 10) 0 j186 rg_75_10_0_1 (by omega) (by omega)
        have q225 : h200 75 13 = h184 75 13 := jK 0 f202 rg_75_13_0_1 (by omega) (by omega) (by decide)
        have b226 := jB (e := 13) 0 j186 rg_75_13_0_1 (by omega) (by omega)
        have q227 : h200 75 10 = h184 75 10 := jK 0 f202 rg_75_10_0_1 (by omega) (by omega) (by decide)
        refine x_cI (t := 6) (mj := 191) (n := 1) (rc := 12) (ml := 1) (nr := 0) (np := 22) (as := [x_r 75]) (rest := []) (lo1 := [x_r 75]) (by decide +kernel) (by decide) (by decide +kernel) (x_rb_of (by decide +kernel)) rfl rfl (x_wr (by decide) x_wn) x_wn (by decide) rfl (c191_75_D3 j201  (by omega) (by omega)) (fun v228 h231 l229 q230 => ?_)
        obtain ⟨j232, f233, b234, c235, c236, c237, c238, c239, c240⟩ := q230
        have f241 := Fr.trans f206 f233 (by decide)
        have f242 := Fr.trans f207 f233 (by decide)
        have q243 : h200 75 13 = h184 75 13 := jK 0 f202 rg_75_13_0_1 (by omega) (by omega) (by decide)
        have b244 := jB (e := 13) 0 j232 rg_75_13_0_1 (by omega) (by omega)
        have b245 := jB (e := 7) 0 j232 rg_75_7_0_1 (by omega) (by omega)
        have q246 : h200 75 10 = h184 75 10 := jK 0 f202 rg_75_10_0_1 (by omega) (by omega) (by decide)
        have b247 := jB (e := 10) 0 j232 rg_75_10_0_1 (by omega) (by omega)
        have q248 : h200 75 13 = h184 75 13 := jK 0 f202 rg_75_13_0_1 (by omega) (by omega) (by decide)
        refine x_ifz (k := 1) (tg := 27) (np := 25) (by decide +kernel) (by decide) l229 (fun q249 => ?_) (fun q250 => ?_)
        · have q249 : v228 ≠ 2147483648 := q249
          have b251 := c235 (by omega)
          have b252 := c236 (by omega)
          have b253 := c237 (by omega)
          have b254 := c238 (by omega)
          have s255 := c240 (by omega)
          have q256 : h200 75 13 = h184 75 13 := jK 0 f202 rg_75_13_0_1 (by omega) (by omega) (by decide)
          refine x_aload (np := 28) (x := 0) (by decide +kernel) rfl (x_nc_le (by decide)) ?_
          refine x_const (np := 30) (x := 9223372099131801614) (a := 2147483662) (by decide +kernel) (by decide) (by decide) ?_
          refine x_const (np := 31) (x := 9223372039002259456) (a := 2147483648) (by decide +kernel) (by decide) (by decide) ?_
          refine x_nV (t := 6) (mj := 187) (n := 3) (rc := 12) (ml := 3) (nr := 0) (np := 34) (as := [x_r 75, iv_c 2147483662, iv_c 2147483648]) (rest := []) (lo1 := [x_r 75, iv_c 2147483662, iv_c 2147483648]) (by decide +kernel) (by decide) (by decide +kernel) (x_rb_of (by decide +kernel)) rfl rfl (x_wr (by decide) (x_wi (by decide) (x_wi (by decide) x_wn))) x_wn (by decide) rfl ?_
          refine x_aload (np := 1) (x := 0) (by decide +kernel) rfl (x_nc_le (by decide)) ?_
          have q257 : h231 75 1 = 76 := by have z := jB (e := 1) 0 j232 rg_75_1_0_1 (by decide) (by decide); omega
          refine x_getR (np := 4) (x := 705) (f := 1) (q := 76) (by decide +kernel) (by decide) (by decide +kernel) q257 ?_
          refine x_const (np := 7) (x := 9223376986804585600) (a := 2147484800) (by decide +kernel) (by decide) (by decide) ?_
          refine x_const (np := 8) (x := 9223372047592194050) (a := 2147483650) (by decide +kernel) (by decide) (by decide) ?_
          refine x_aload (np := 9) (x := 0) (by decide +kernel) rfl (x_nc_le (by decide)) ?_
          refine x_getC (np := 12) (x := 717) (f := 13) (q := (h231 75 13)) (by decide +kernel) (by decide) (by decide +kernel) rfl (fun l258 => ?_)
          obtain ⟨u259, q260⟩ : ∃ z, (h231 75 13) = 2147483648 + z := ⟨(h231 75 13) - 2147483648, by omega⟩
          refine x_imul (np := 13) (x := 0) (i := 2) (j := u259) (v := (2147483648 + 2 * u259)) (by decide +kernel) (by omega) (by omega) (by omega) (by omega) (by decide) l258 ?_
          refine x_iadd (np := 14) (x := 0) (v := (2147484800 + 2 * u259)) (by decide +kernel) (by decide) (by omega) (by omega) (by omega) ?_
          refine x_iload (np := 15) (x := 1) (by decide +kernel) rfl (by decide) ?_
          refine x_ast (np := 16) (x := 0) (kd := 1) (n := 1952) (i := (1152 + 2 * u259)) (by decide +kernel) (Or.inl rfl) (by decide +kernel) (by omega) (by omega) (by decide) (by decide) (fun z => absurd z (by decide)) ?_
          have j263 := jU (e := (1152 + 2 * u259)) (v := 2147483662) u259 j232 rg_76_1152_2_394 (by omega) (by omega) (by omega)
          have f265 := jF (e := (1152 + 2 * u259)) (v := 2147483662) u259 f241 rg_76_1152_2_394 (by omega) (by omega) (by decide)
          have f266 := jF (e := (1152 + 2 * u259)) (v := 2147483662) u259 f242 rg_76_1152_2_394 (by omega) (by omega) (by decide)
          generalize e264 : x_up h231 76 (1152 + 2 * u259) 2147483662 = h262 at j263 f265 f266 ⊢
          refine x_aload (np := 17) (x := 0) (by decide +kernel) rfl (x_nc_le (by decide)) ?_
          have q267 : h262 75 1 = 76 := by have z := jB (e := 1) 0 j263 rg_75_1_0_1 (by decide) (by decide); omega
          refine x_getR (np := 20) (x := 705) (f := 1) (q := 76) (by decide +kernel) (by decide) (by decide +kernel) q267 ?_
          refine x_const (np := 23) (x := 9223376986804585600) (a := 2147484800) (by decide +kernel) (by decide) (by decide) ?_
          refine x_const (np := 24) (x := 9223372047592194050) (a := 2147483650) (by decide +kernel) (by decide) (by decide) ?_
          refine x_aload (np := 25) (x := 0) (by decide +kernel) rfl (x_nc_le (by decide)) ?_
          have q268 : h262 75 13 = h231 75 13 := by rw [← e264]; exact x_up_k (by decide)
          refine x_getC (np := 28) (x := 717) (f := 13) (q := (h231 75 13)) (by decide +kernel) (by decide) (by decide +kernel) q268 (fun l269 => ?_)
          refine x_imul (np := 29) (x := 0) (i := 2) (j := u259) (v := (2147483648 + 2 * u259)) (by decide +kernel) (by omega) (by omega) (by omega) (by omega) (by decide) l258 ?_
          refine x_iadd (np := 30) (x := 0) (v := (2147484800 + 2 * u259)) (by decide +kernel) (by decide) (by omega) (by omega) (by omega) ?_
          refine x_const (np := 31) (x := 9223372043297226753) (a := 2147483649) (by decide +kernel) (by decide) (by decide) ?_
          refine x_iadd (np := 32) (x := 0) (v := (2147484801 + 2 * u259)) (by decide +kernel) (by omega) (by decide) (by omega) (by omega) ?_
          refine x_iload (np := 33) (x := 2) (by decide +kernel) rfl (by decide) ?_
          refine x_ast (np := 34) (x := 0) (kd := 1) (n := 1952) (i := (1153 + 2 * u259)) (by decide +kernel) (Or.inl rfl) (by decide +kernel) (by omega) (by omega) (by decide) (by decide) (fun z => absurd z (by decide)) ?_
          have j272 := jU (e := (1153 + 2 * u259)) (v := 2147483648) u259 j263 rg_76_1153_2_394 (by omega) (by omega) (by omega)
          have f274 := jF (e := (1153 + 2 * u259)) (v := 2147483648) u259 f265 rg_76_1153_2_394 (by omega) (by omega) (by decide)
          have f275 := jF (e := (1153 + 2 * u259)) (v := 2147483648) u259 f266 rg_76_1153_2_394 (by omega) (by omega) (by decide)
          generalize e273 : x_up h262 76 (1153 + 2 * u259) 2147483648 = h271 at j272 f274 f275 ⊢
          refine x_aload (np := 35) (x := 0) (by decide +kernel) rfl (x_nc_le (by decide)) ?_
          refine x_dup (np := 36) (x := 0) (by decide +kernel) (by have z := x_nc_le (k := 75) (by decide); unfold x_r; omega) ?_
          have q276 : h271 75 13 = h262 75 13 := by rw [← e273]; exact x_up_k (by decide)
          have q277 : h262 75 13 = h231 75 13 := by rw [← e264]; exact x_up_k (by decide)
          refine x_getC (np := 39) (x := 717) (f := 13) (q := (h231 75 13)) (by decide +kernel) (by decide) (by decide +kernel) (q276.trans q277) (fun l278 => ?_)
          refine x_const (np := 40) (x := 9223372043297226753) (a := 2147483649) (by decide +kernel) (by decide) (by decide) ?_
          refine x_iadd (np := 41) (x := 0) (v := (1 + (h231 75 13))) (by decide +kernel) l258 (by decide) (by omega) (by omega) ?_
          refine x_putI (np := 44) (x := 717) (f := 13) (by decide +kernel) (by decide +kernel) (by omega) (Or.inl (by decide)) ?_
          have j280 := jU (e := 13) (v := (1 + (h231 75 13))) 0 j272 rg_75_13_0_1 (by omega) (by omega) (by omega)
          have f282 := jF (e := 13) (v := (1 + (h231 75 13))) 0 f274 rg_75_13_0_1 (by omega) (by omega) (by decide)
          have f283 := jF (e := 13) (v := (1 + (h231 75 13))) 0 f275 rg_75_13_0_1 (by omega) (by omega) (by decide)
          generalize e281 : x_up h271 75 13 (1 + (h231 75 13)) = h279 at j280 f282 f283 ⊢
          refine x_retV (np := 45) (x := 0) (by decide +kernel) (by decide +kernel) ⟨rfl, ?_⟩
          have q284 : h279 75 13 = (1 + (h231 75 13)) := by rw [← e281]; exact x_up_at
          refine x_goto (np := 37) (x := 9) (by decide +kernel) ?_
          have q285 : h279 75 7 = h271 75 7 := by rw [← e281]; exact x_up_i (by omega)
          have q286 : h271 75 7 = h262 75 7 := by rw [← e273]; exact x_up_k (by decide)
          have q287 : h262 75 7 = h231 75 7 := by rw [← e264]; exact x_up_k (by decide)
          have q288 : h279 75 7 = h271 75 7 := by rw [← e281]; exact x_up_i (by omega)
          have q289 : h271 75 7 = h262 75 7 := by rw [← e273]; exact x_up_k (by decide)
          have q290 : h262 75 7 = h231 75 7 := by rw [← e264]; exact x_up_k (by decide)
          have q291 : h279 75 13 = (1 + (h231 75 13)) := by rw [← e281]; exact x_up_at
          have q292 : h279 75 10 = h271 75 10 := by rw [← e281]; exact x_up_i (by omega)
          have q293 : h271 75 10 = h262 75 10 := by rw [← e273]; exact x_up_k (by decide)
          have q294 : h262 75 10 = h231 75 10 := by rw [← e264]; exact x_up_k (by decide)
          have k300 : Kp h h184 (h 75 13 - 2147483648) := Kp.less m192 (by omega)
          have k299 : Kp h h200 (h 75 13 - 2147483648) := Kp.fr k300 f202 (by omega) (by decide)
          have q301 : h200 75 13 = h184 75 13 := jK 0 f202 rg_75_13_0_1 (by omega) (by omega) (by decide)
          have k298 : Kp h h231 (h 75 13 - 2147483648) := Kp.trans k299 c239 (by omega)
          have k297 : Kp h h262 (h 75 13 - 2147483648) := by rw [← e264]; exact Kp.up k298 (by omega) (fun i hi => by omega)
          have k296 : Kp h h271 (h 75 13 - 2147483648) := by rw [← e273]; exact Kp.up k297 (by omega) (fun i hi => by omega)
          have k295 : Kp h h279 (h 75 13 - 2147483648) := by rw [← e281]; exact Kp.oth k296 (by decide)
          have q302 : h279 75 13 = (1 + (h231 75 13)) := by rw [← e281]; exact x_up_at
          have q304 : h279 76 (1152 + 2 * u259) = h271 76 (1152 + 2 * u259) := by rw [← e281]; exact x_up_k (by decide)
          have q305 : h271 76 (1152 + 2 * u259) = h262 76 (1152 + 2 * u259) := by rw [← e273]; exact x_up_i (by omega)
          have q306 : h262 76 (1152 + 2 * u259) = 2147483662 := by rw [← e264]; exact x_up_at
          have k311 : Kp h184 h200 (h184 75 13 - 2147483648) := Kp.fr Kp.refl f202 (by omega) (by decide)
          have q312 : h200 75 13 = h184 75 13 := jK 0 f202 rg_75_13_0_1 (by omega) (by omega) (by decide)
          have k310 : Kp h184 h231 (h184 75 13 - 2147483648) := Kp.trans k311 c239 (by omega)
          have k309 : Kp h184 h262 (h184 75 13 - 2147483648) := by rw [← e264]; exact Kp.up k310 (by omega) (fun i hi => by omega)
          have k308 : Kp h184 h271 (h184 75 13 - 2147483648) := by rw [← e273]; exact Kp.up k309 (by omega) (fun i hi => by omega)
          have k307 : Kp h184 h279 (h184 75 13 - 2147483648) := by rw [← e281]; exact Kp.oth k308 (by decide)
          have k315 : Kp h231 h262 (h231 75 13 - 2147483648) := by rw [← e264]; exact Kp.up Kp.refl (by omega) (fun i hi => by omega)
          have k314 : Kp h231 h271 (h231 75 13 - 2147483648) := by rw [← e273]; exact Kp.up k315 (by omega) (fun i hi => by omega)
          have k313 : Kp h231 h279 (h231 75 13 - 2147483648) := by rw [← e281]; exact Kp.oth k314 (by decide)
          have s303 : Seg (sg h279) (h 75 13 - 2147483648) (u259 + 1) := Seg.bin (Seg.kp m193 k307) (Seg.cast (a' := (h184 75 13 - 2147483648)) (b' := u259) (Seg.kp s255 k313) (by omega) (by omega)) (show 2147483656 < h279 76 (1152 + 2 * u259) by omega) (show h279 76 (1152 + 2 * u259) ≠ 2147483660 by omega)
          have s316 : Seg (sg h279) (h 75 13 - 2147483648) (h279 75 13 - 2147483648) := Seg.cast (Seg.kp s303 Kp.refl) (by omega) (by omega)
          exact i195  h279 (by omega) (by omega) (by omega) (by omega) (by omega) j280 f283 k295 s316
        have q250 : ¬ (v228 ≠ 2147483648) := q250
        refine x_const (np := 26) (x := 9223372039002259456) (a := 2147483648) (by decide +kernel) (by decide) (by decide) ?_
        have k319 : Kp h h184 (h 75 13 - 2147483648) := Kp.less m192 (by omega)
        have k318 : Kp h h200 (h 75 13 - 2147483648) := Kp.fr k319 f202 (by omega) (by decide)
        have q320 : h200 75 13 = h184 75 13 := jK 0 f202 rg_75_13_0_1 (by omega) (by omega) (by decide)
        have k317 : Kp h h231 (h 75 13 - 2147483648) := Kp.trans k318 c239 (by omega)
        refine x_retI (np := 27) (x := 0) (by decide +kernel) (by decide) (Or.inr ⟨by decide +kernel, by omega, by omega⟩) ⟨_, rfl, (by decide), ?_⟩
        exact ⟨j232, f241, (by omega), (fun z => by omega), (fun z => by omega), (fun z => by omega), (fun z => by omega), k317, (fun z => absurd z (by omega))⟩
    have k321 : Kp h h7 (h 75 13 - 2147483648) := Kp.less c15 (by omega)
    have s322 : Seg (sg h7) (h 75 13 - 2147483648) (h7 75 13 - 2147483648) := Seg.cast (Seg.kp s27 Kp.refl) (by omega) (by omega)
    exact p187 _  h7 (Nat.lt_succ_self _) (by omega) (by omega) (by omega) (by omega) j8 (Fr.refl _ _) k321 s322
  have q22 : ¬ (v4 ≠ 2147483648) := q22
  refine x_const (np := 8) (x := 9223372039002259456) (a := 2147483648) (by decide +kernel) (by decide) (by decide) ?_
  have k323 : Kp h h7 (h 75 13 - 2147483648) := Kp.less c15 (by omega)
  refine x_retI (np := 9) (x := 0) (by decide +kernel) (by decide) (Or.inr ⟨by decide +kernel, by omega, by omega⟩) ⟨_, rfl, (by decide), ?_⟩
  exact ⟨j8, f17, (by omega), (fun z => by omega), (fun z => by omega), (fun z => by omega), (fun z => by omega), k323, (fun z => absurd z (by omega))⟩
set_option maxHeartbeats 0 in
/-- LentNamesModel.readAtom()Z -/
theorem c190_75_D2 {sc : Nat × Nat} {d  : Nat} {h : xh} (hJ : J h) (hr0 : (h 75 13) + 5 ≤ (h 75 7)) (hr1 : (h 75 10) = 2147483650) : X sc 190 (d + 19) (xI fun r h' => J h' ∧ Fr 97517569 h h' ∧ (2147483648 ≤ r ∧ r ≤ 2147483649) ∧ (r = 2147483649 → h' 75 13 + h 75 7 ≤ h' 75 7 + h 75 13) ∧ (r = 2147483649 → h' 75 10 = h 75 10) ∧ (r = 2147483649 → h 75 7 + 0 ≤ h' 75 7) ∧ (r = 2147483649 → h 75 13 ≤ h' 75 13) ∧ Kp h h' (h 75 13 - 2147483648) ∧ (r = 2147483649 → Seg (sg h') (h 75 13 - 2147483648) (h' 75 13 - 2147483648))) 0 0 0 [x_r 75, 147573952589676412928, 147573952589676412928] [] h := by
  have hF := Fr.refl 97517569 h
  have b1 := jB (e := 13) 0 hJ rg_75_13_0_1 (by omega) (by omega)
  have b2 := jB (e := 7) 0 hJ rg_75_7_0_1 (by omega) (by omega)
  have b3 := jB (e := 10) 0 hJ rg_75_10_0_1 (by omega) (by omega)
  refine x_aload (np := 1) (x := 0) (by decide +kernel) rfl (x_nc_le (by decide)) ?_
  refine x_const (np := 3) (x := 9223372210800951336) (a := 2147483688) (by decide +kernel) (by decide) (by decide) ?_
  refine x_cI (t := 6) (mj := 173) (n := 2) (rc := 12) (ml := 2) (nr := 0) (np := 6) (as := [x_r 75, iv_c 2147483688]) (rest := []) (lo1 := [x_r 75, iv_c 2147483688]) (by decide +kernel) (by decide) (by decide +kernel) (x_rb_of (by decide +kernel)) rfl rfl (x_wr (by decide) (x_wi (by decide) x_wn)) x_wn (by decide) rfl (c173_75 hJ  (by omega)) (fun v4 h7 l5 q6 => ?_)
  obtain ⟨j8, f9, b10, c11, c12⟩ := q6
  have f13 := Fr.trans hF f9 (by decide)
  have b14 := jB (e := 7) 0 j8 rg_75_7_0_1 (by omega) (by omega)
  refine x_ifz (k := 0) (tg := 56) (np := 9) (by decide +kernel) (by decide) l5 (fun q15 => ?_) (fun q16 => ?_)
  · have q15 : v4 = 2147483648 := q15
    refine x_aload (np := 57) (x := 0) (by decide +kernel) rfl (x_nc_le (by decide)) ?_
    refine x_ldcB (i := 24) (idx := 245) (tx := "not") (by rw [tb_y190]; exact List.mem_of_getElem? (i := 59) rfl) (by decide) (by rw [tb_b190]; decide +kernel) ?_
    refine x_cI (t := 6) (mj := 171) (n := 2) (rc := 12) (ml := 2) (nr := 0) (np := 62) (as := [x_r 75, x_b (24 + 1)]) (rest := []) (lo1 := [x_r 75, x_b (24 + 1)]) (by decide +kernel) (by decide) (by decide +kernel) (x_rb_of (by decide +kernel)) rfl rfl (x_wr (by decide) (x_wB (by decide) x_wn)) x_wn (by decide) rfl (c171_75_S0 j8  (by decide)) (fun v17 h20 l18 q19 => ?_)
    obtain ⟨j21, f22, b23, c24, c25⟩ := q19
    have f26 := Fr.trans f13 f22 (by decide)
    have b27 := jB (e := 7) 0 j21 rg_75_7_0_1 (by omega) (by omega)
    refine x_ifz (k := 0) (tg := 114) (np := 65) (by decide +kernel) (by decide) l18 (fun q28 => ?_) (fun q29 => ?_)
    · have q28 : v17 = 2147483648 := q28
      refine x_aload (np := 115) (x := 0) (by decide +kernel) rfl (x_nc_le (by decide)) ?_
      refine x_ldcB (i := 25) (idx := 250) (tx := "own") (by rw [tb_y190]; exact List.mem_of_getElem? (i := 60) rfl) (by decide) (by rw [tb_b190]; decide +kernel) ?_
      refine x_cI (t := 6) (mj := 171) (n := 2) (rc := 12) (ml := 2) (nr := 0) (np := 120) (as := [x_r 75, x_b (25 + 1)]) (rest := []) (lo1 := [x_r 75, x_b (25 + 1)]) (by decide +kernel) (by decide) (by decide +kernel) (x_rb_of (by decide +kernel)) rfl rfl (x_wr (by decide) (x_wB (by decide) x_wn)) x_wn (by decide) rfl (c171_75_S0 j21  (by decide)) (fun v30 h33 l31 q32 => ?_)
      obtain ⟨j34, f35, b36, c37, c38⟩ := q32
      have f39 := Fr.trans f26 f35 (by decide)
      have b40 := jB (e := 7) 0 j34 rg_75_7_0_1 (by omega) (by omega)
      refine x_istore (np := 121) (x := 1) (lo' := [x_r 75, iv_c v30, 147573952589676412928]) (by decide +kernel) l31 (Nat.le_of_ble_eq_true rfl) rfl ?_
      refine x_iload (np := 122) (x := 1) (by decide +kernel) rfl l31 ?_
      refine x_ifz (k := 1) (tg := 134) (np := 125) (by decide +kernel) (by decide) l31 (fun q41 => ?_) (fun q42 => ?_)
      · have q41 : v30 ≠ 2147483648 := q41
        have b43 := c38 (by omega)
        refine x_aload (np := 135) (x := 0) (by decide +kernel) rfl (x_nc_le (by decide)) ?_
        refine x_iload (np := 136) (x := 1) (by decide +kernel) rfl l31 ?_
        refine x_ifz (k := 0) (tg := 144) (np := 139) (by decide +kernel) (by decide) l31 (fun q44 => ?_) (fun q45 => ?_)
        · have q44 : v30 = 2147483648 := q44
          exfalso; omega
        have q45 : ¬ (v30 = 2147483648) := q45
        refine x_const (np := 141) (x := 9223372064772063238) (a := 2147483654) (by decide +kernel) (by decide) (by decide) ?_
        refine x_goto (np := 144) (x := 146) (by decide +kernel) ?_
        refine x_const (np := 147) (x := 9223372039002259456) (a := 2147483648) (by decide +kernel) (by decide) (by decide) ?_
        refine x_nV (t := 6) (mj := 187) (n := 3) (rc := 12) (ml := 3) (nr := 0) (np := 150) (as := [x_r 75, iv_c 2147483654, iv_c 2147483648]) (rest := []) (lo1 := [x_r 75, iv_c 2147483654, iv_c 2147483648]) (by decide +kernel) (by decide) (by decide +kernel) (x_rb_of (by decide +kernel)) rfl rfl (x_wr (by decide) (x_wi (by decide) (x_wi (by decide) x_wn))) x_wn (by decide) rfl ?_
        refine x_aload (np := 1) (x := 0) (by decide +kernel) rfl (x_nc_le (by decide)) ?_
        have q46 : h33 75 1 = 76 := by have z := jB (e := 1) 0 j34 rg_75_1_0_1 (by decide) (by decide); omega
        refine x_getR (np := 4) (x := 705) (f := 1) (q := 76) (by decide +kernel) (by decide) (by decide +kernel) q46 ?_
        refine x_const (np := 7) (x := 9223376986804585600) (a := 2147484800) (by decide +kernel) (by decide) (by decide) ?_
        refine x_const (np := 8) (x := 9223372047592194050) (a := 2147483650) (by decide +kernel) (by decide) (by decide) ?_
        refine x_aload (np := 9) (x := 0) (by decide +kernel) rfl (x_nc_le (by decide)) ?_
        have q47 : h33 75 13 = h20 75 13 := jK 0 f35 rg_75_13_0_1 (by omega) (by omega) (by decide)
        have q48 : h20 75 13 = h7 75 13 := jK 0 f22 rg_75_13_0_1 (by omega) (by omega) (by decide)
        have q49 : h7 75 13 = h 75 13 := jK 0 f9 rg_75_13_0_1 (by omega) (by omega) (by decide)
        refine x_getC (np := 12) (x := 717) (f := 13) (q := (h 75 13)) (by decide +kernel) (by decide) (by decide +kernel) ((q47.trans q48).trans q49) (fun l50 => ?_)
        obtain ⟨u51, q52⟩ : ∃ z, (h 75 13) = 2147483648 + z := ⟨(h 75 13) - 2147483648, by omega⟩
        refine x_imul (np := 13) (x := 0) (i := 2) (j := u51) (v := (2147483648 + 2 * u51)) (by decide +kernel) (by omega) (by omega) (by omega) (by omega) (by decide) l50 ?_
        refine x_iadd (np := 14) (x := 0) (v := (2147484800 + 2 * u51)) (by decide +kernel) (by decide) (by omega) (by omega) (by omega) ?_
        refine x_iload (np := 15) (x := 1) (by decide +kernel) rfl (by decide) ?_
        refine x_ast (np := 16) (x := 0) (kd := 1) (n := 1952) (i := (1152 + 2 * u51)) (by decide +kernel) (Or.inl rfl) (by decide +kernel) (by omega) (by omega) (by decide) (by decide) (fun z => absurd z (by decide)) ?_
        have j55 := jU (e := (1152 + 2 * u51)) (v := 2147483654) u51 j34 rg_76_1152_2_394 (by omega) (by omega) (by omega)
        have f57 := jF (e := (1152 + 2 * u51)) (v := 2147483654) u51 f39 rg_76_1152_2_394 (by omega) (by omega) (by decide)
        generalize e56 : x_up h33 76 (1152 + 2 * u51) 2147483654 = h54 at j55 f57 ⊢
        refine x_aload (np := 17) (x := 0) (by decide +kernel) rfl (x_nc_le (by decide)) ?_
        have q58 : h54 75 1 = 76 := by have z := jB (e := 1) 0 j55 rg_75_1_0_1 (by decide) (by decide); omega
        refine x_getR (np := 20) (x := 705) (f := 1) (q := 76) (by decide +kernel) (by decide) (by decide +kernel) q58 ?_
        refine x_const (np := 23) (x := 9223376986804585600) (a := 2147484800) (by decide +kernel) (by decide) (by decide) ?_
        refine x_const (np := 24) (x := 9223372047592194050) (a := 2147483650) (by decide +kernel) (by decide) (by decide) ?_
        refine x_aload (np := 25) (x := 0) (by decide +kernel) rfl (x_nc_le (by decide)) ?_
        have q59 : h54 75 13 = h33 75 13 := by rw [← e56]; exact x_up_k (by decide)
        have q60 : h33 75 13 = h20 75 13 := jK 0 f35 rg_75_13_0_1 (by omega) (by omega) (by decide)
        have q61 : h20 75 13 = h7 75 13 := jK 0 f22 rg_75_13_0_1 (by omega) (by omega) (by decide)
        have q62 : h7 75 13 = h 75 13 := jK 0 f9 rg_75_13_0_1 (by omega) (by omega) (by decide)
        refine x_getC (np := 28) (x := 717) (f := 13) (q := (h 75 13)) (by decide +kernel) (by decide) (by decide +kernel) (((q59.trans q60).trans q61).trans q62) (fun l63 => ?_)
        refine x_imul (np := 29) (x := 0) (i := 2) (j := u51) (v := (2147483648 + 2 * u51)) (by decide +kernel) (by omega) (by omega) (by omega) (by omega) (by decide) l50 ?_
        refine x_iadd (np := 30) (x := 0) (v := (2147484800 + 2 * u51)) (by decide +kernel) (by decide) (by omega) (by omega) (by omega) ?_
        refine x_const (np := 31) (x := 9223372043297226753) (a := 2147483649) (by decide +kernel) (by decide) (by decide) ?_
        refine x_iadd (np := 32) (x := 0) (v := (2147484801 + 2 * u51)) (by decide +kernel) (by omega) (by decide) (by omega) (by omega) ?_
        refine x_iload (np := 33) (x := 2) (by decide +kernel) rfl (by decide) ?_
        refine x_ast (np := 34) (x := 0) (kd := 1) (n := 1952) (i := (1153 + 2 * u51)) (by decide +kernel) (Or.inl rfl) (by decide +kernel) (by omega) (by omega) (by decide) (by decide) (fun z => absurd z (by decide)) ?_
        have j66 := jU (e := (1153 + 2 * u51)) (v := 2147483648) u51 j55 rg_76_1153_2_394 (by omega) (by omega) (by omega)
        have f68 := jF (e := (1153 + 2 * u51)) (v := 2147483648) u51 f57 rg_76_1153_2_394 (by omega) (by omega) (by decide)
        generalize e67 : x_up h54 76 (1153 + 2 * u51) 2147483648 = h65 at j66 f68 ⊢
        refine x_aload (np := 35) (x := 0) (by decide +kernel) rfl (x_nc_le (by decide)) ?_
        refine x_dup (np := 36) (x := 0) (by decide +kernel) (by have z := x_nc_le (k := 75) (by decide); unfold x_r; omega) ?_
        have q69 : h65 75 13 = h54 75 13 := by rw [← e67]; exact x_up_k (by decide)
        have q70 : h54 75 13 = h33 75 13 := by rw [← e56]; exact x_up_k (by decide)
        have q71 : h33 75 13 = h20 75 13 := jK 0 f35 rg_75_13_0_1 (by omega) (by omega) (by decide)
        have q72 : h20 75 13 = h7 75 13 := jK 0 f22 rg_75_13_0_1 (by omega) (by omega) (by decide)
        have q73 : h7 75 13 = h 75 13 := jK 0 f9 rg_75_13_0_1 (by omega) (by omega) (by decide)
        refine x_getC (np := 39) (x := 717) (f := 13) (q := (h 75 13)) (by decide +kernel) (by decide) (by decide +kernel) ((((q69.trans q70).trans q71).trans q72).trans q73) (fun l74 => ?_)
        refine x_const (np := 40) (x := 9223372043297226753) (a := 2147483649) (by decide +kernel) (by decide) (by decide) ?_
        refine x_iadd (np := 41) (x := 0) (v := (1 + (h 75 13))) (by decide +kernel) l50 (by decide) (by omega) (by omega) ?_
        refine x_putI (np := 44) (x := 717) (f := 13) (by decide +kernel) (by decide +kernel) (by omega) (Or.inl (by decide)) ?_
        have j76 := jU (e := 13) (v := (1 + (h 75 13))) 0 j66 rg_75_13_0_1 (by omega) (by omega) (by omega)
        have f78 := jF (e := 13) (v := (1 + (h 75 13))) 0 f68 rg_75_13_0_1 (by omega) (by omega) (by decide)
        generalize e77 : x_up h65 75 13 (1 + (h 75 13)) = h75 at j76 f78 ⊢
        refine x_retV (np := 45) (x := 0) (by decide +kernel) (by decide +kernel) ⟨rfl, ?_⟩
        have q79 : h75 75 13 = (1 + (h 75 13)) := by rw [← e77]; exact x_up_at
        refine x_const (np := 151) (x := 9223372043297226753) (a := 2147483649) (by decide +kernel) (by decide) (by decide) ?_
        have q80 : h75 75 13 = (1 + (h 75 13)) := by rw [← e77]; exact x_up_at
        have q81 : h75 75 7 = h65 75 7 := by rw [← e77]; exact x_up_i (by omega)
        have q82 : h65 75 7 = h54 75 7 := by rw [← e67]; exact x_up_k (by decide)
        have q83 : h54 75 7 = h33 75 7 := by rw [← e56]; exact x_up_k (by decide)
        have q84 : h75 75 10 = h65 75 10 := by rw [← e77]; exact x_up_i (by omega)
        have q85 : h65 75 10 = h54 75 10 := by rw [← e67]; exact x_up_k (by decide)
        have q86 : h54 75 10 = h33 75 10 := by rw [← e56]; exact x_up_k (by decide)
        have q87 : h33 75 10 = h20 75 10 := jK 0 f35 rg_75_10_0_1 (by omega) (by omega) (by decide)
        have q88 : h20 75 10 = h7 75 10 := jK 0 f22 rg_75_10_0_1 (by omega) (by omega) (by decide)
        have q89 : h7 75 10 = h 75 10 := jK 0 f9 rg_75_10_0_1 (by omega) (by omega) (by decide)
        have q90 : h75 75 7 = h65 75 7 := by rw [← e77]; exact x_up_i (by omega)
        have q91 : h65 75 7 = h54 75 7 := by rw [← e67]; exact x_up_k (by decide)
        have q92 : h54 75 7 = h33 75 7 := by rw [← e56]; exact x_up_k (by decide)
        have q93 : h75 75 13 = (1 + (h 75 13)) := by rw [← e77]; exact x_up_at
        have k99 : Kp h h7 (h 75 13 - 2147483648) := Kp.fr Kp.refl f9 (by omega) (by decide)
        have k98 : Kp h h20 (h 75 13 - 2147483648) := Kp.fr k99 f22 (by omega) (by decide)
        have k97 : Kp h h33 (h 75 13 - 2147483648) := Kp.fr k98 f35 (by omega) (by decide)
        have k96 : Kp h h54 (h 75 13 - 2147483648) := by rw [← e56]; exact Kp.up k97 (by omega) (fun i hi => by omega)
        have k95 : Kp h h65 (h 75 13 - 2147483648) := by rw [← e67]; exact Kp.up k96 (by omega) (fun i hi => by omega)
        have k94 : Kp h h75 (h 75 13 - 2147483648) := by rw [← e77]; exact Kp.oth k95 (by decide)
        have q100 : h75 75 13 = (1 + (h 75 13)) := by rw [← e77]; exact x_up_at
        have q102 : h75 76 (1152 + 2 * u51) = h65 76 (1152 + 2 * u51) := by rw [← e77]; exact x_up_k (by decide)
        have q103 : h65 76 (1152 + 2 * u51) = h54 76 (1152 + 2 * u51) := by rw [← e67]; exact x_up_i (by omega)
        have q104 : h54 76 (1152 + 2 * u51) = 2147483654 := by rw [← e56]; exact x_up_at
        have s101 : Seg (sg h75) u51 (u51 + 1) := Seg.push (show 2147483648 ≤ h75 76 (1152 + 2 * u51) by omega) (show h75 76 (1152 + 2 * u51) ≤ 2147483656 by omega)
        have s105 : Seg (sg h75) (h 75 13 - 2147483648) (h75 75 13 - 2147483648) := Seg.cast (Seg.kp s101 Kp.refl) (by omega) (by omega)
        refine x_retI (np := 152) (x := 0) (by decide +kernel) (by decide) (Or.inr ⟨by decide +kernel, by omega, by omega⟩) ⟨_, rfl, (by decide), ?_⟩
        exact ⟨j76, f78, (by omega), (fun z => by omega), (fun z => by omega), (fun z => by omega), (fun z => by omega), k94, (fun _ => s105)⟩
      have q42 : ¬ (v30 ≠ 2147483648) := q42
      refine x_aload (np := 126) (x := 0) (by decide +kernel) rfl (x_nc_le (by decide)) ?_
      refine x_ldcB (i := 26) (idx := 252) (tx := "mine") (by rw [tb_y190]; exact List.mem_of_getElem? (i := 61) rfl) (by decide) (by rw [tb_b190]; decide +kernel) ?_
      refine x_cI (t := 6) (mj := 171) (n := 2) (rc := 12) (ml := 2) (nr := 0) (np := 131) (as := [x_r 75, x_b (26 + 1)]) (rest := []) (lo1 := [x_r 75, x_b (26 + 1)]) (by decide +kernel) (by decide) (by decide +kernel) (x_rb_of (by decide +kernel)) rfl rfl (x_wr (by decide) (x_wB (by decide) x_wn)) x_wn (by decide) rfl (c171_75_S0 j34  (by decide)) (fun v106 h109 l107 q108 => ?_)
      obtain ⟨j110, f111, b112, c113, c114⟩ := q108
      have f115 := Fr.trans f39 f111 (by decide)
      have b116 := jB (e := 7) 0 j110 rg_75_7_0_1 (by omega) (by omega)
      refine x_ifz (k := 0) (tg := 152) (np := 134) (by decide +kernel) (by decide) l107 (fun q117 => ?_) (fun q118 => ?_)
      · have q117 : v106 = 2147483648 := q117
        refine x_aload (np := 153) (x := 0) (by decide +kernel) rfl (x_nc_le (by decide)) ?_
        have q119 : h109 75 13 = h33 75 13 := jK 0 f111 rg_75_13_0_1 (by omega) (by omega) (by decide)
        have q120 : h33 75 13 = h20 75 13 := jK 0 f35 rg_75_13_0_1 (by omega) (by omega) (by decide)
        have q121 : h20 75 13 = h7 75 13 := jK 0 f22 rg_75_13_0_1 (by omega) (by omega) (by decide)
        have q122 : h7 75 13 = h 75 13 := jK 0 f9 rg_75_13_0_1 (by omega) (by omega) (by decide)
        refine x_cI (t := 6) (mj := 189) (n := 1) (rc := 12) (ml := 1) (nr := 0) (np := 156) (as := [x_r 75]) (rest := []) (lo1 := [x_r 75]) (by decide +kernel) (by decide) (by decide +kernel) (x_rb_of (by decide +kernel)) rfl rfl (x_wr (by decide) x_wn) x_wn (by decide) rfl (c189_75 j110  (by omega)) (fun v123 h126 l124 q125 => ?_)
        obtain ⟨j127, f128, b129, c130, c131, c132, c133, c134⟩ := q125
        have f135 := Fr.trans f115 f128 (by decide)
        have q136 : h109 75 13 = h33 75 13 := jK 0 f111 rg_75_13_0_1 (by omega) (by omega) (by decide)
        have q137 : h33 75 13 = h20 75 13 := jK 0 f35 rg_75_13_0_1 (by omega) (by omega) (by decide)
        have q138 : h20 75 13 = h7 75 13 := jK 0 f22 rg_75_13_0_1 (by omega) (by omega) (by decide)
        have q139 : h7 75 13 = h 75 13 := jK 0 f9 rg_75_13_0_1 (by omega) (by omega) (by decide)
        have b140 := jB (e := 13) 0 j127 rg_75_13_0_1 (by omega) (by omega)
        have b141 := jB (e := 7) 0 j127 rg_75_7_0_1 (by omega) (by omega)
        have q142 : h109 75 13 = h33 75 13 := jK 0 f111 rg_75_13_0_1 (by omega) (by omega) (by decide)
        have q143 : h33 75 13 = h20 75 13 := jK 0 f35 rg_75_13_0_1 (by omega) (by omega) (by decide)
        have q144 : h20 75 13 = h7 75 13 := jK 0 f22 rg_75_13_0_1 (by omega) (by omega) (by decide)
        have q145 : h7 75 13 = h 75 13 := jK 0 f9 rg_75_13_0_1 (by omega) (by omega) (by decide)
        refine x_ifz (k := 1) (tg := 161) (np := 159) (by decide +kernel) (by decide) l124 (fun q146 => ?_) (fun q147 => ?_)
        · have q146 : v123 ≠ 2147483648 := q146
          have b148 := c130 (by omega)
          have b149 := c131 (by omega)
          have b150 := c132 (by omega)
          have s151 := c134 (by omega)
          have q152 : h109 75 13 = h33 75 13 := jK 0 f111 rg_75_13_0_1 (by omega) (by omega) (by decide)
          have q153 : h33 75 13 = h20 75 13 := jK 0 f35 rg_75_13_0_1 (by omega) (by omega) (by decide)
          have q154 : h20 75 13 = h7 75 13 := jK 0 f22 rg_75_13_0_1 (by omega) (by omega) (by decide)
          have q155 : h7 75 13 = h 75 13 := jK 0 f9 rg_75_13_0_1 (by omega) (by omega) (by decide)
          refine x_aload (np := 162) (x := 0) (by decide +kernel) rfl (x_nc_le (by decide)) ?_
          refine x_const (np := 164) (x := 9223372296700297276) (a := 2147483708) (by decide +kernel) (by decide) (by decide) ?_
          refine x_cI (t := 6) (mj := 173) (n := 2) (rc := 12) (ml := 2) (nr := 0) (np := 167) (as := [x_r 75, iv_c 2147483708]) (rest := []) (lo1 := [x_r 75, iv_c 2147483708]) (by decide +kernel) (by decide) (by decide +kernel) (x_rb_of (by decide +kernel)) rfl rfl (x_wr (by decide) (x_wi (by decide) x_wn)) x_wn (by decide) rfl (c173_75 j127  (by omega)) (fun v156 h159 l157 q158 => ?_)
          obtain ⟨j160, f161, b162, c163, c164⟩ := q158
          have f165 := Fr.trans f135 f161 (by decide)
          have b166 := jB (e := 7) 0 j160 rg_75_7_0_1 (by omega) (by omega)
          refine x_istore (np := 168) (x := 2) (lo' := [x_r 75, iv_c v30, iv_c v156]) (by decide +kernel) l157 (Nat.le_of_ble_eq_true rfl) rfl ?_
          refine x_iload (np := 169) (x := 2) (by decide +kernel) rfl l157 ?_
          refine x_ifz (k := 1) (tg := 181) (np := 172) (by decide +kernel) (by decide) l157 (fun q167 => ?_) (fun q168 => ?_)
          · have q167 : v156 ≠ 2147483648 := q167
            have b169 := c164 (by omega)
            refine x_aload (np := 182) (x := 0) (by decide +kernel) rfl (x_nc_le (by decide)) ?_
            have q170 : h159 75 13 = h126 75 13 := jK 0 f161 rg_75_13_0_1 (by omega) (by omega) (by decide)
            refine x_cI (t := 6) (mj := 189) (n := 1) (rc := 12) (ml := 1) (nr := 0) (np := 185) (as := [x_r 75]) (rest := []) (lo1 := [x_r 75]) (by decide +kernel) (by decide) (by decide +kernel) (x_rb_of (by decide +kernel)) rfl rfl (x_wr (by decide) x_wn) x_wn (by decide) rfl (c189_75 j160  (by omega)) (fun v171 h174 l172 q173 => ?_)
            obtain ⟨j175, f176, b177, c178, c179, c180, c181, c182⟩ := q173
            have f183 := Fr.trans f165 f176 (by decide)
            have q184 : h159 75 13 = h126 75 13 := jK 0 f161 rg_75_13_0_1 (by omega) (by omega) (by decide)
            have b185 := jB (e := 13) 0 j175 rg_75_13_0_1 (by omega) (by omega)
            have b186 := jB (e := 7) 0 j175 rg_75_7_0_1 (by omega) (by omega)
            have q187 : h159 75 13 = h126 75 13 := jK 0 f161 rg_75_13_0_1 (by omega) (by omega) (by decide)
            refine x_ifz (k := 1) (tg := 190) (np := 188) (by decide +kernel) (by decide) l172 (fun q188 => ?_) (fun q189 => ?_)
            · have q188 : v171 ≠ 2147483648 := q188
              have b190 := c178 (by omega)
              have b191 := c179 (by omega)
              have b192 := c180 (by omega)
              have s193 := c182 (by omega)
              have q194 : h159 75 13 = h126 75 13 := jK 0 f161 rg_75_13_0_1 (by omega) (by omega) (by decide)
              refine x_aload (np := 191) (x := 0) (by decide +kernel) rfl (x_nc_le (by decide)) ?_
              refine x_iload (np := 192) (x := 2) (by decide +kernel) rfl l157 ?_
              refine x_ifz (k := 0) (tg := 200) (np := 195) (by decide +kernel) (by decide) l157 (fun q195 => ?_) (fun q196 => ?_)
              · have q195 : v156 = 2147483648 := q195
                exfalso; omega
              have q196 : ¬ (v156 = 2147483648) := q196
              refine x_const (np := 197) (x := 9223372081951932426) (a := 2147483658) (by decide +kernel) (by decide) (by decide) ?_
              refine x_goto (np := 200) (x := 202) (by decide +kernel) ?_
              refine x_const (np := 203) (x := 9223372039002259456) (a := 2147483648) (by decide +kernel) (by decide) (by decide) ?_
              refine x_nV (t := 6) (mj := 187) (n := 3) (rc := 12) (ml := 3) (nr := 0) (np := 206) (as := [x_r 75, iv_c 2147483658, iv_c 2147483648]) (rest := []) (lo1 := [x_r 75, iv_c 2147483658, iv_c 2147483648]) (by decide +kernel) (by decide) (by decide +kernel) (x_rb_of (by decide +kernel)) rfl rfl (x_wr (by decide) (x_wi (by decide) (x_wi (by decide) x_wn))) x_wn (by decide) rfl ?_
              refine x_aload (np := 1) (x := 0) (by decide +kernel) rfl (x_nc_le (by decide)) ?_
              have q197 : h174 75 1 = 76 := by have z := jB (e := 1) 0 j175 rg_75_1_0_1 (by decide) (by decide); omega
              refine x_getR (np := 4) (x := 705) (f := 1) (q := 76) (by decide +kernel) (by decide) (by decide +kernel) q197 ?_
              refine x_const (np := 7) (x := 9223376986804585600) (a := 2147484800) (by decide +kernel) (by decide) (by decide) ?_
              refine x_const (np := 8) (x := 9223372047592194050) (a := 2147483650) (by decide +kernel) (by decide) (by decide) ?_
              refine x_aload (np := 9) (x := 0) (by decide +kernel) rfl (x_nc_le (by decide)) ?_
              refine x_getC (np := 12) (x := 717) (f := 13) (q := (h174 75 13)) (by decide +kernel) (by decide) (by decide +kernel) rfl (fun l198 => ?_)
              obtain ⟨u199, q200⟩ : ∃ z, (h174 75 13) = 2147483648 + z := ⟨(h174 75 13) - 2147483648, by omega⟩
              refine x_imul (np := 13) (x := 0) (i := 2) (j := u199) (v := (2147483648 + 2 * u199)) (by decide +kernel) (by omega) (by omega) (by omega) (by omega) (by decide) l198 ?_
              refine x_iadd (np := 14) (x := 0) (v := (2147484800 + 2 * u199)) (by decide +kernel) (by decide) (by omega) (by omega) (by omega) ?_
              refine x_iload (np := 15) (x := 1) (by decide +kernel) rfl (by decide) ?_
              refine x_ast (np := 16) (x := 0) (kd := 1) (n := 1952) (i := (1152 + 2 * u199)) (by decide +kernel) (Or.inl rfl) (by decide +kernel) (by omega) (by omega) (by decide) (by decide) (fun z => absurd z (by decide)) ?_
              have j203 := jU (e := (1152 + 2 * u199)) (v := 2147483658) u199 j175 rg_76_1152_2_395 (by omega) (by omega) (by omega)
              have f205 := jF (e := (1152 + 2 * u199)) (v := 2147483658) u199 f183 rg_76_1152_2_395 (by omega) (by omega) (by decide)
              generalize e204 : x_up h174 76 (1152 + 2 * u199) 2147483658 = h202 at j203 f205 ⊢
              refine x_aload (np := 17) (x := 0) (by decide +kernel) rfl (x_nc_le (by decide)) ?_
              have q206 : h202 75 1 = 76 := by have z := jB (e := 1) 0 j203 rg_75_1_0_1 (by decide) (by decide); omega
              refine x_getR (np := 20) (x := 705) (f := 1) (q := 76) (by decide +kernel) (by decide) (by decide +kernel) q206 ?_
              refine x_const (np := 23) (x := 9223376986804585600) (a := 2147484800) (by decide +kernel) (by decide) (by decide) ?_
              refine x_const (np := 24) (x := 9223372047592194050) (a := 2147483650) (by decide +kernel) (by decide) (by decide) ?_
              refine x_aload (np := 25) (x := 0) (by decide +kernel) rfl (x_nc_le (by decide)) ?_
              have q207 : h202 75 13 = h174 75 13 := by rw [← e204]; exact x_up_k (by decide)
              refine x_getC (np := 28) (x := 717) (f := 13) (q := (h174 75 13)) (by decide +kernel) (by decide) (by decide +kernel) q207 (fun l208 => ?_)
              refine x_imul (np := 29) (x := 0) (i := 2) (j := u199) (v := (2147483648 + 2 * u199)) (by decide +kernel) (by omega) (by omega) (by omega) (by omega) (by decide) l198 ?_
              refine x_iadd (np := 30) (x := 0) (v := (2147484800 + 2 * u199)) (by decide +kernel) (by decide) (by omega) (by omega) (by omega) ?_
              refine x_const (np := 31) (x := 9223372043297226753) (a := 2147483649) (by decide +kernel) (by decide) (by decide) ?_
              refine x_iadd (np := 32) (x := 0) (v := (2147484801 + 2 * u199)) (by decide +kernel) (by omega) (by decide) (by omega) (by omega) ?_
              refine x_iload (np := 33) (x := 2) (by decide +kernel) rfl (by decide) ?_
              refine x_ast (np := 34) (x := 0) (kd := 1) (n := 1952) (i := (1153 + 2 * u199)) (by decide +kernel) (Or.inl rfl) (by decide +kernel) (by omega) (by omega) (by decide) (by decide) (fun z => absurd z (by decide)) ?_
              have j211 := jU (e := (1153 + 2 * u199)) (v := 2147483648) u199 j203 rg_76_1153_2_395 (by omega) (by omega) (by omega)
              have f213 := jF (e := (1153 + 2 * u199)) (v := 2147483648) u199 f205 rg_76_1153_2_395 (by omega) (by omega) (by decide)
              generalize e212 : x_up h202 76 (1153 + 2 * u199) 2147483648 = h210 at j211 f213 ⊢
              refine x_aload (np := 35) (x := 0) (by decide +kernel) rfl (x_nc_le (by decide)) ?_
              refine x_dup (np := 36) (x := 0) (by decide +kernel) (by have z := x_nc_le (k := 75) (by decide); unfold x_r; omega) ?_
              have q214 : h210 75 13 = h202 75 13 := by rw [← e212]; exact x_up_k (by decide)
              have q215 : h202 75 13 = h174 75 13 := by rw [← e204]; exact x_up_k (by decide)
              refine x_getC (np := 39) (x := 717) (f := 13) (q := (h174 75 13)) (by decide +kernel) (by decide) (by decide +kernel) (q214.trans q215) (fun l216 => ?_)
              refine x_const (np := 40) (x := 9223372043297226753) (a := 2147483649) (by decide +kernel) (by decide) (by decide) ?_
              refine x_iadd (np := 41) (x := 0) (v := (1 + (h174 75 13))) (by decide +kernel) l198 (by decide) (by omega) (by omega) ?_
              refine x_putI (np := 44) (x := 717) (f := 13) (by decide +kernel) (by decide +kernel) (by omega) (Or.inl (by decide)) ?_
              have j218 := jU (e := 13) (v := (1 + (h174 75 13))) 0 j211 rg_75_13_0_1 (by omega) (by omega) (by omega)
              have f220 := jF (e := 13) (v := (1 + (h174 75 13))) 0 f213 rg_75_13_0_1 (by omega) (by omega) (by decide)
              generalize e219 : x_up h210 75 13 (1 + (h174 75 13)) = h217 at j218 f220 ⊢
              refine x_retV (np := 45) (x := 0) (by decide +kernel) (by decide +kernel) ⟨rfl, ?_⟩
              have q221 : h217 75 13 = (1 + (h174 75 13)) := by rw [← e219]; exact x_up_at
              refine x_const (np := 207) (x := 9223372043297226753) (a := 2147483649) (by decide +kernel) (by decide) (by decide) ?_
              have q222 : h217 75 13 = (1 + (h174 75 13)) := by rw [← e219]; exact x_up_at
              have q223 : h217 75 7 = h210 75 7 := by rw [← e219]; exact x_up_i (by omega)
              have q224 : h210 75 7 = h202 75 7 := by rw [← e212]; exact x_up_k (by decide)
              have q225 : h202 75 7 = h174 75 7 := by rw [← e204]; exact x_up_k (by decide)
              have q226 : h217 75 10 = h210 75 10 := by rw [← e219]; exact x_up_i (by omega)
              have q227 : h210 75 10 = h202 75 10 := by rw [← e212]; exact x_up_k (by decide)
              have q228 : h202 75 10 = h174 75 10 := by rw [← e204]; exact x_up_k (by decide)
              have q229 : h174 75 10 = h159 75 10 := jK 0 f176 rg_75_10_0_1 (by omega) (by omega) (by decide)
              have q230 : h159 75 10 = h126 75 10 := jK 0 f161 rg_75_10_0_1 (by omega) (by omega) (by decide)
              have q231 : h126 75 10 = h109 75 10 := jK 0 f128 rg_75_10_0_1 (by omega) (by omega) (by decide)
              have q232 : h109 75 10 = h33 75 10 := jK 0 f111 rg_75_10_0_1 (by omega) (by omega) (by decide)
              have q233 : h33 75 10 = h20 75 10 := jK 0 f35 rg_75_10_0_1 (by omega) (by omega) (by decide)
              have q234 : h20 75 10 = h7 75 10 := jK 0 f22 rg_75_10_0_1 (by omega) (by omega) (by decide)
              have q235 : h7 75 10 = h 75 10 := jK 0 f9 rg_75_10_0_1 (by omega) (by omega) (by decide)
              have q236 : h217 75 7 = h210 75 7 := by rw [← e219]; exact x_up_i (by omega)
              have q237 : h210 75 7 = h202 75 7 := by rw [← e212]; exact x_up_k (by decide)
              have q238 : h202 75 7 = h174 75 7 := by rw [← e204]; exact x_up_k (by decide)
              have q239 : h217 75 13 = (1 + (h174 75 13)) := by rw [← e219]; exact x_up_at
              have k249 : Kp h h7 (h 75 13 - 2147483648) := Kp.fr Kp.refl f9 (by omega) (by decide)
              have k248 : Kp h h20 (h 75 13 - 2147483648) := Kp.fr k249 f22 (by omega) (by decide)
              have k247 : Kp h h33 (h 75 13 - 2147483648) := Kp.fr k248 f35 (by omega) (by decide)
              have k246 : Kp h h109 (h 75 13 - 2147483648) := Kp.fr k247 f111 (by omega) (by decide)
              have q250 : h109 75 13 = h33 75 13 := jK 0 f111 rg_75_13_0_1 (by omega) (by omega) (by decide)
              have q251 : h33 75 13 = h20 75 13 := jK 0 f35 rg_75_13_0_1 (by omega) (by omega) (by decide)
              have q252 : h20 75 13 = h7 75 13 := jK 0 f22 rg_75_13_0_1 (by omega) (by omega) (by decide)
              have q253 : h7 75 13 = h 75 13 := jK 0 f9 rg_75_13_0_1 (by omega) (by omega) (by decide)
              have k245 : Kp h h126 (h 75 13 - 2147483648) := Kp.trans k246 c133 (by omega)
              have k244 : Kp h h159 (h 75 13 - 2147483648) := Kp.fr k245 f161 (by omega) (by decide)
              have q254 : h159 75 13 = h126 75 13 := jK 0 f161 rg_75_13_0_1 (by omega) (by omega) (by decide)
              have k243 : Kp h h174 (h 75 13 - 2147483648) := Kp.trans k244 c181 (by omega)
              have k242 : Kp h h202 (h 75 13 - 2147483648) := by rw [← e204]; exact Kp.up k243 (by omega) (fun i hi => by omega)
              have k241 : Kp h h210 (h 75 13 - 2147483648) := by rw [← e212]; exact Kp.up k242 (by omega) (fun i hi => by omega)
              have k240 : Kp h h217 (h 75 13 - 2147483648) := by rw [← e219]; exact Kp.oth k241 (by decide)
              have q255 : h217 75 13 = (1 + (h174 75 13)) := by rw [← e219]; exact x_up_at
              have q257 : h217 76 (1152 + 2 * u199) = h210 76 (1152 + 2 * u199) := by rw [← e219]; exact x_up_k (by decide)
              have q258 : h210 76 (1152 + 2 * u199) = h202 76 (1152 + 2 * u199) := by rw [← e212]; exact x_up_i (by omega)
              have q259 : h202 76 (1152 + 2 * u199) = 2147483658 := by rw [← e204]; exact x_up_at
              have k264 : Kp h126 h159 (h126 75 13 - 2147483648) := Kp.fr Kp.refl f161 (by omega) (by decide)
              have q265 : h159 75 13 = h126 75 13 := jK 0 f161 rg_75_13_0_1 (by omega) (by omega) (by decide)
              have k263 : Kp h126 h174 (h126 75 13 - 2147483648) := Kp.trans k264 c181 (by omega)
              have k262 : Kp h126 h202 (h126 75 13 - 2147483648) := by rw [← e204]; exact Kp.up k263 (by omega) (fun i hi => by omega)
              have k261 : Kp h126 h210 (h126 75 13 - 2147483648) := by rw [← e212]; exact Kp.up k262 (by omega) (fun i hi => by omega)
              have k260 : Kp h126 h217 (h126 75 13 - 2147483648) := by rw [← e219]; exact Kp.oth k261 (by decide)
              have k268 : Kp h174 h202 (h174 75 13 - 2147483648) := by rw [← e204]; exact Kp.up Kp.refl (by omega) (fun i hi => by omega)
              have k267 : Kp h174 h210 (h174 75 13 - 2147483648) := by rw [← e212]; exact Kp.up k268 (by omega) (fun i hi => by omega)
              have k266 : Kp h174 h217 (h174 75 13 - 2147483648) := by rw [← e219]; exact Kp.oth k267 (by decide)
              have s256 : Seg (sg h217) (h109 75 13 - 2147483648) (u199 + 1) := Seg.bin (Seg.kp s151 k260) (Seg.cast (a' := (h126 75 13 - 2147483648)) (b' := u199) (Seg.kp s193 k266) (by omega) (by omega)) (show 2147483656 < h217 76 (1152 + 2 * u199) by omega) (show h217 76 (1152 + 2 * u199) ≠ 2147483660 by omega)
              have s269 : Seg (sg h217) (h 75 13 - 2147483648) (h217 75 13 - 2147483648) := Seg.cast (Seg.kp s256 Kp.refl) (by omega) (by omega)
              refine x_retI (np := 208) (x := 0) (by decide +kernel) (by decide) (Or.inr ⟨by decide +kernel, by omega, by omega⟩) ⟨_, rfl, (by decide), ?_⟩
              exact ⟨j218, f220, (by omega), (fun z => by omega), (fun z => by omega), (fun z => by omega), (fun z => by omega), k240, (fun _ => s269)⟩
            have q189 : ¬ (v171 ≠ 2147483648) := q189
            refine x_const (np := 189) (x := 9223372039002259456) (a := 2147483648) (by decide +kernel) (by decide) (by decide) ?_
            have q270 : h174 75 10 = h159 75 10 := jK 0 f176 rg_75_10_0_1 (by omega) (by omega) (by decide)
            have q271 : h159 75 10 = h126 75 10 := jK 0 f161 rg_75_10_0_1 (by omega) (by omega) (by decide)
            have q272 : h126 75 10 = h109 75 10 := jK 0 f128 rg_75_10_0_1 (by omega) (by omega) (by decide)
            have q273 : h109 75 10 = h33 75 10 := jK 0 f111 rg_75_10_0_1 (by omega) (by omega) (by decide)
            have q274 : h33 75 10 = h20 75 10 := jK 0 f35 rg_75_10_0_1 (by omega) (by omega) (by decide)
            have q275 : h20 75 10 = h7 75 10 := jK 0 f22 rg_75_10_0_1 (by omega) (by omega) (by decide)
            have q276 : h7 75 10 = h 75 10 := jK 0 f9 rg_75_10_0_1 (by omega) (by omega) (by decide)
            have k283 : Kp h h7 (h 75 13 - 2147483648) := Kp.fr Kp.refl f9 (by omega) (by decide)
            have k282 : Kp h h20 (h 75 13 - 2147483648) := Kp.fr k283 f22 (by omega) (by decide)
            have k281 : Kp h h33 (h 75 13 - 2147483648) := Kp.fr k282 f35 (by omega) (by decide)
            have k280 : Kp h h109 (h 75 13 - 2147483648) := Kp.fr k281 f111 (by omega) (by decide)
            have q284 : h109 75 13 = h33 75 13 := jK 0 f111 rg_75_13_0_1 (by omega) (by omega) (by decide)
            have q285 : h33 75 13 = h20 75 13 := jK 0 f35 rg_75_13_0_1 (by omega) (by omega) (by decide)
            have q286 : h20 75 13 = h7 75 13 := jK 0 f22 rg_75_13_0_1 (by omega) (by omega) (by decide)
            have q287 : h7 75 13 = h 75 13 := jK 0 f9 rg_75_13_0_1 (by omega) (by omega) (by decide)
            have k279 : Kp h h126 (h 75 13 - 2147483648) := Kp.trans k280 c133 (by omega)
            have k278 : Kp h h159 (h 75 13 - 2147483648) := Kp.fr k279 f161 (by omega) (by decide)
            have q288 : h159 75 13 = h126 75 13 := jK 0 f161 rg_75_13_0_1 (by omega) (by omega) (by decide)
            have k277 : Kp h h174 (h 75 13 - 2147483648) := Kp.trans k278 c181 (by omega)
            refine x_retI (np := 190) (x := 0) (by decide +kernel) (by decide) (Or.inr ⟨by decide +kernel, by omega, by omega⟩) ⟨_, rfl, (by decide), ?_⟩
            exact ⟨j175, f183, (by omega), (fun z => by omega), (fun z => by omega), (fun z => by omega), (fun z => by omega), k277, (fun z => absurd z (by omega))⟩
          have q168 : ¬ (v156 ≠ 2147483648) := q168
          refine x_aload (np := 173) (x := 0) (by decide +kernel) rfl (x_nc_le (by decide)) ?_
          refine x_const (np := 175) (x := 9223372305290231870) (a := 2147483710) (by decide +kernel) (by decide) (by decide) ?_
          refine x_cI (t := 6) (mj := 173) (n := 2) (rc := 12) (ml := 2) (nr := 0) (np := 178) (as := [x_r 75, iv_c 2147483710]) (rest := []) (lo1 := [x_r 75, iv_c 2147483710]) (by decide +kernel) (by decide) (by decide +kernel) (x_rb_of (by decide +kernel)) rfl rfl (x_wr (by decide) (x_wi (by decide) x_wn)) x_wn (by decide) rfl (c173_75 j160  (by omega)) (fun v289 h292 l290 q291 => ?_)
          obtain ⟨j293, f294, b295, c296, c297⟩ := q291
          have f298 := Fr.trans f165 f294 (by decide)
          have b299 := jB (e := 7) 0 j293 rg_75_7_0_1 (by omega) (by omega)
          refine x_ifz (k := 0) (tg := 188) (np := 181) (by decide +kernel) (by decide) l290 (fun q300 => ?_) (fun q301 => ?_)
          · have q300 : v289 = 2147483648 := q300
            refine x_const (np := 189) (x := 9223372039002259456) (a := 2147483648) (by decide +kernel) (by decide) (by decide) ?_
            have q302 : h292 75 13 = h159 75 13 := jK 0 f294 rg_75_13_0_1 (by omega) (by omega) (by decide)
            have q303 : h159 75 13 = h126 75 13 := jK 0 f161 rg_75_13_0_1 (by omega) (by omega) (by decide)
            have q304 : h292 75 10 = h159 75 10 := jK 0 f294 rg_75_10_0_1 (by omega) (by omega) (by decide)
            have q305 : h159 75 10 = h126 75 10 := jK 0 f161 rg_75_10_0_1 (by omega) (by omega) (by decide)
            have q306 : h126 75 10 = h109 75 10 := jK 0 f128 rg_75_10_0_1 (by omega) (by omega) (by decide)
            have q307 : h109 75 10 = h33 75 10 := jK 0 f111 rg_75_10_0_1 (by omega) (by omega) (by decide)
            have q308 : h33 75 10 = h20 75 10 := jK 0 f35 rg_75_10_0_1 (by omega) (by omega) (by decide)
            have q309 : h20 75 10 = h7 75 10 := jK 0 f22 rg_75_10_0_1 (by omega) (by omega) (by decide)
            have q310 : h7 75 10 = h 75 10 := jK 0 f9 rg_75_10_0_1 (by omega) (by omega) (by decide)
            have q311 : h292 75 13 = h159 75 13 := jK 0 f294 rg_75_13_0_1 (by omega) (by omega) (by decide)
            have q312 : h159 75 13 = h126 75 13 := jK 0 f161 rg_75_13_0_1 (by omega) (by omega) (by decide)
            have k319 : Kp h h7 (h 75 13 - 2147483648) := Kp.fr Kp.refl f9 (by omega) (by decide)
            have k318 : Kp h h20 (h 75 13 - 2147483648) := Kp.fr k319 f22 (by omega) (by decide)
            have k317 : Kp h h33 (h 75 13 - 2147483648) := Kp.fr k318 f35 (by omega) (by decide)
            have k316 : Kp h h109 (h 75 13 - 2147483648) := Kp.fr k317 f111 (by omega) (by decide)
            have q320 : h109 75 13 = h33 75 13 := jK 0 f111 rg_75_13_0_1 (by omega) (by omega) (by decide)
            have q321 : h33 75 13 = h20 75 13 := jK 0 f35 rg_75_13_0_1 (by omega) (by omega) (by decide)
            have q322 : h20 75 13 = h7 75 13 := jK 0 f22 rg_75_13_0_1 (by omega) (by omega) (by decide)
            have q323 : h7 75 13 = h 75 13 := jK 0 f9 rg_75_13_0_1 (by omega) (by omega) (by decide)
            have k315 : Kp h h126 (h 75 13 - 2147483648) := Kp.trans k316 c133 (by omega)
            have k314 : Kp h h159 (h 75 13 - 2147483648) := Kp.fr k315 f161 (by omega) (by decide)
            have k313 : Kp h h292 (h 75 13 - 2147483648) := Kp.fr k314 f294 (by omega) (by decide)
            refine x_retI (np := 190) (x := 0) (by decide +kernel) (by decide) (Or.inr ⟨by decide +kernel, by omega, by omega⟩) ⟨_, rfl, (by decide), ?_⟩
            exact ⟨j293, f298, (by omega), (fun z => by omega), (fun z => by omega), (fun z => by omega), (fun z => by omega), k313, (fun z => absurd z (by omega))⟩
          have q301 : ¬ (v289 = 2147483648) := q301
          have b324 := c297 (by omega)
          refine x_aload (np := 182) (x := 0) (by decide +kernel) rfl (x_nc_le (by decide)) ?_
          have q325 : h292 75 13 = h159 75 13 := jK 0 f294 rg_75_13_0_1 (by omega) (by omega) (by decide)
          have q326 : h159 75 13 = h126 75 13 := jK 0 f161 rg_75_13_0_1 (by omega) (by omega) (by decide)
          refine x_cI (t := 6) (mj := 189) (n := 1) (rc := 12) (ml := 1) (nr := 0) (np := 185) (as := [x_r 75]) (rest := []) (lo1 := [x_r 75]) (by decide +kernel) (by decide) (by decide +kernel) (x_rb_of (by decide +kernel)) rfl rfl (x_wr (by decide) x_wn) x_wn (by decide) rfl (c189_75 j293  (by omega)) (fun v327 h330 l328 q329 => ?_)
          obtain ⟨j331, f332, b333, c334, c335, c336, c337, c338⟩ := q329
          have f339 := Fr.trans f298 f332 (by decide)
          have q340 : h292 75 13 = h159 75 13 := jK 0 f294 rg_75_13_0_1 (by omega) (by omega) (by decide)
          have q341 : h159 75 13 = h126 75 13 := jK 0 f161 rg_75_13_0_1 (by omega) (by omega) (by decide)
          have b342 := jB (e := 13) 0 j331 rg_75_13_0_1 (by omega) (by omega)
          have b343 := jB (e := 7) 0 j331 rg_75_7_0_1 (by omega) (by omega)
          have q344 : h292 75 13 = h159 75 13 := jK 0 f294 rg_75_13_0_1 (by omega) (by omega) (by decide)
          have q345 : h159 75 13 = h126 75 13 := jK 0 f161 rg_75_13_0_1 (by omega) (by omega) (by decide)
          refine x_ifz (k := 1) (tg := 190) (np := 188) (by decide +kernel) (by decide) l328 (fun q346 => ?_) (fun q347 => ?_)
          · have q346 : v327 ≠ 2147483648 := q346
            have b348 := c334 (by omega)
            have b349 := c335 (by omega)
            have b350 := c336 (by omega)
            have s351 := c338 (by omega)
            have q352 : h292 75 13 = h159 75 13 := jK 0 f294 rg_75_13_0_1 (by omega) (by omega) (by decide)
            have q353 : h159 75 13 = h126 75 13 := jK 0 f161 rg_75_13_0_1 (by omega) (by omega) (by decide)
            refine x_aload (np := 191) (x := 0) (by decide +kernel) rfl (x_nc_le (by decide)) ?_
            refine x_iload (np := 192) (x := 2) (by decide +kernel) rfl l157 ?_
            refine x_ifz (k := 0) (tg := 200) (np := 195) (by decide +kernel) (by decide) l157 (fun q354 => ?_) (fun q355 => ?_)
            · have q354 : v156 = 2147483648 := q354
              refine x_const (np := 202) (x := 9223372086246899723) (a := 2147483659) (by decide +kernel) (by decide) (by decide) ?_
              refine x_const (np := 203) (x := 9223372039002259456) (a := 2147483648) (by decide +kernel) (by decide) (by decide) ?_
              refine x_nV (t := 6) (mj := 187) (n := 3) (rc := 12) (ml := 3) (nr := 0) (np := 206) (as := [x_r 75, iv_c 2147483659, iv_c 2147483648]) (rest := []) (lo1 := [x_r 75, iv_c 2147483659, iv_c 2147483648]) (by decide +kernel) (by decide) (by decide +kernel) (x_rb_of (by decide +kernel)) rfl rfl (x_wr (by decide) (x_wi (by decide) (x_wi (by decide) x_wn))) x_wn (by decide) rfl ?_
              refine x_aload (np := 1) (x := 0) (by decide +kernel) rfl (x_nc_le (by decide)) ?_
              have q356 : h330 75 1 = 76 := by have z := jB (e := 1) 0 j331 rg_75_1_0_1 (by decide) (by decide); omega
              refine x_getR (np := 4) (x := 705) (f := 1) (q := 76) (by decide +kernel) (by decide) (by decide +kernel) q356 ?_
              refine x_const (np := 7) (x := 9223376986804585600) (a := 2147484800) (by decide +kernel) (by decide) (by decide) ?_
              refine x_const (np := 8) (x := 9223372047592194050) (a := 2147483650) (by decide +kernel) (by decide) (by decide) ?_
              refine x_aload (np := 9) (x := 0) (by decide +kernel) rfl (x_nc_le (by decide)) ?_
              refine x_getC (np := 12) (x := 717) (f := 13) (q := (h330 75 13)) (by decide +kernel) (by decide) (by decide +kernel) rfl (fun l357 => ?_)
              obtain ⟨u358, q359⟩ : ∃ z, (h330 75 13) = 2147483648 + z := ⟨(h330 75 13) - 2147483648, by omega⟩
              refine x_imul (np := 13) (x := 0) (i := 2) (j := u358) (v := (2147483648 + 2 * u358)) (by decide +kernel) (by omega) (by omega) (by omega) (by omega) (by decide) l357 ?_
              refine x_iadd (np := 14) (x := 0) (v := (2147484800 + 2 * u358)) (by decide +kernel) (by decide) (by omega) (by omega) (by omega) ?_
              refine x_iload (np := 15) (x := 1) (by decide +kernel) rfl (by decide) ?_
              refine x_ast (np := 16) (x := 0) (kd := 1) (n := 1952) (i := (1152 + 2 * u358)) (by decide +kernel) (Or.inl rfl) (by decide +kernel) (by omega) (by omega) (by decide) (by decide) (fun z => absurd z (by decide)) ?_
              have j362 := jU (e := (1152 + 2 * u358)) (v := 2147483659) u358 j331 rg_76_1152_2_395 (by omega) (by omega) (by omega)
              have f364 := jF (e := (1152 + 2 * u358)) (v := 2147483659) u358 f339 rg_76_1152_2_395 (by omega) (by omega) (by decide)
              generalize e363 : x_up h330 76 (1152 + 2 * u358) 2147483659 = h361 at j362 f364 ⊢
              refine x_aload (np := 17) (x := 0) (by decide +kernel) rfl (x_nc_le (by decide)) ?_
              have q365 : h361 75 1 = 76 := by have z := jB (e := 1) 0 j362 rg_75_1_0_1 (by decide) (by decide); omega
              refine x_getR (np := 20) (x := 705) (f := 1) (q := 76) (by decide +kernel) (by decide) (by decide +kernel) q365 ?_
              refine x_const (np := 23) (x := 9223376986804585600) (a := 2147484800) (by decide +kernel) (by decide) (by decide) ?_
              refine x_const (np := 24) (x := 9223372047592194050) (a := 2147483650) (by decide +kernel) (by decide) (by decide) ?_
              refine x_aload (np := 25) (x := 0) (by decide +kernel) rfl (x_nc_le (by decide)) ?_
              have q366 : h361 75 13 = h330 75 13 := by rw [← e363]; exact x_up_k (by decide)
              refine x_getC (np := 28) (x := 717) (f := 13) (q := (h330 75 13)) (by decide +kernel) (by decide) (by decide +kernel) q366 (fun l367 => ?_)
              refine x_imul (np := 29) (x := 0) (i := 2) (j := u358) (v := (2147483648 + 2 * u358)) (by decide +kernel) (by omega) (by omega) (by omega) (by omega) (by decide) l357 ?_
              refine x_iadd (np := 30) (x := 0) (v := (2147484800 + 2 * u358)) (by decide +kernel) (by decide) (by omega) (by omega) (by omega) ?_
              refine x_const (np := 31) (x := 9223372043297226753) (a := 2147483649) (by decide +kernel) (by decide) (by decide) ?_
              refine x_iadd (np := 32) (x := 0) (v := (2147484801 + 2 * u358)) (by decide +kernel) (by omega) (by decide) (by omega) (by omega) ?_
              refine x_iload (np := 33) (x := 2) (by decide +kernel) rfl (by decide) ?_
              refine x_ast (np := 34) (x := 0) (kd := 1) (n := 1952) (i := (1153 + 2 * u358)) (by decide +kernel) (Or.inl rfl) (by decide +kernel) (by omega) (by omega) (by decide) (by decide) (fun z => absurd z (by decide)) ?_
              have j370 := jU (e := (1153 + 2 * u358)) (v := 2147483648) u358 j362 rg_76_1153_2_395 (by omega) (by omega) (by omega)
              have f372 := jF (e := (1153 + 2 * u358)) (v := 2147483648) u358 f364 rg_76_1153_2_395 (by omega) (by omega) (by decide)
              generalize e371 : x_up h361 76 (1153 + 2 * u358) 2147483648 = h369 at j370 f372 ⊢
              refine x_aload (np := 35) (x := 0) (by decide +kernel) rfl (x_nc_le (by decide)) ?_
              refine x_dup (np := 36) (x := 0) (by decide +kernel) (by have z := x_nc_le (k := 75) (by decide); unfold x_r; omega) ?_
              have q373 : h369 75 13 = h361 75 13 := by rw [← e371]; exact x_up_k (by decide)
              have q374 : h361 75 13 = h330 75 13 := by rw [← e363]; exact x_up_k (by decide)
              refine x_getC (np := 39) (x := 717) (f := 13) (q := (h330 75 13)) (by decide +kernel) (by decide) (by decide +kernel) (q373.trans q374) (fun l375 => ?_)
              refine x_const (np := 40) (x := 9223372043297226753) (a := 2147483649) (by decide +kernel) (by decide) (by decide) ?_
              refine x_iadd (np := 41) (x := 0) (v := (1 + (h330 75 13))) (by decide +kernel) l357 (by decide) (by omega) (by omega) ?_
              refine x_putI (np := 44) (x := 717) (f := 13) (by decide +kernel) (by decide +kernel) (by omega) (Or.inl (by decide)) ?_
              have j377 := jU (e := 13) (v := (1 + (h330 75 13))) 0 j370 rg_75_13_0_1 (by omega) (by omega) (by omega)
              have f379 := jF (e := 13) (v := (1 + (h330 75 13))) 0 f372 rg_75_13_0_1 (by omega) (by omega) (by decide)
              generalize e378 : x_up h369 75 13 (1 + (h330 75 13)) = h376 at j377 f379 ⊢
              refine x_retV (np := 45) (x := 0) (by decide +kernel) (by decide +kernel) ⟨rfl, ?_⟩
              have q380 : h376 75 13 = (1 + (h330 75 13)) := by rw [← e378]; exact x_up_at
              refine x_const (np := 207) (x := 9223372043297226753) (a := 2147483649) (by decide +kernel) (by decide) (by decide) ?_
              have q381 : h376 75 13 = (1 + (h330 75 13)) := by rw [← e378]; exact x_up_at
              have q382 : h376 75 7 = h369 75 7 := by rw [← e378]; exact x_up_i (by omega)
              have q383 : h369 75 7 = h361 75 7 := by rw [← e371]; exact x_up_k (by decide)
              have q384 : h361 75 7 = h330 75 7 := by rw [← e363]; exact x_up_k (by decide)
              have q385 : h376 75 10 = h369 75 10 := by rw [← e378]; exact x_up_i (by omega)
              have q386 : h369 75 10 = h361 75 10 := by rw [← e371]; exact x_up_k (by decide)
              have q387 : h361 75 10 = h330 75 10 := by rw [← e363]; exact x_up_k (by decide)
              have q388 : h330 75 10 = h292 75 10 := jK 0 f332 rg_75_10_0_1 (by omega) (by omega) (by decide)
              have q389 : h292 75 10 = h159 75 10 := jK 0 f294 rg_75_10_0_1 (by omega) (by omega) (by decide)
              have q390 : h159 75 10 = h126 75 10 := jK 0 f161 rg_75_10_0_1 (by omega) (by omega) (by decide)
              have q391 : h126 75 10 = h109 75 10 := jK 0 f128 rg_75_10_0_1 (by omega) (by omega) (by decide)
              have q392 : h109 75 10 = h33 75 10 := jK 0 f111 rg_75_10_0_1 (by omega) (by omega) (by decide)
              have q393 : h33 75 10 = h20 75 10 := jK 0 f35 rg_75_10_0_1 (by omega) (by omega) (by decide)
              have q394 : h20 75 10 = h7 75 10 := jK 0 f22 rg_75_10_0_1 (by omega) (by omega) (by decide)
              have q395 : h7 75 10 = h 75 10 := jK 0 f9 rg_75_10_0_1 (by omega) (by omega) (by decide)
              have q396 : h376 75 7 = h369 75 7 := by rw [← e378]; exact x_up_i (by omega)
              have q397 : h369 75 7 = h361 75 7 := by rw [← e371]; exact x_up_k (by decide)
              have q398 : h361 75 7 = h330 75 7 := by rw [← e363]; exact x_up_k (by decide)
              have q399 : h376 75 13 = (1 + (h330 75 13)) := by rw [← e378]; exact x_up_at
              have k410 : Kp h h7 (h 75 13 - 2147483648) := Kp.fr Kp.refl f9 (by omega) (by decide)
              have k409 : Kp h h20 (h 75 13 - 2147483648) := Kp.fr k410 f22 (by omega) (by decide)
              have k408 : Kp h h33 (h 75 13 - 2147483648) := Kp.fr k409 f35 (by omega) (by decide)
              have k407 : Kp h h109 (h 75 13 - 2147483648) := Kp.fr k408 f111 (by omega) (by decide)
              have q411 : h109 75 13 = h33 75 13 := jK 0 f111 rg_75_13_0_1 (by omega) (by omega) (by decide)
              have q412 : h33 75 13 = h20 75 13 := jK 0 f35 rg_75_13_0_1 (by omega) (by omega) (by decide)
              have q413 : h20 75 13 = h7 75 13 := jK 0 f22 rg_75_13_0_1 (by omega) (by omega) (by decide)
              have q414 : h7 75 13 = h 75 13 := jK 0 f9 rg_75_13_0_1 (by omega) (by omega) (by decide)
              have k406 : Kp h h126 (h 75 13 - 2147483648) := Kp.trans k407 c133 (by omega)
              have k405 : Kp h h159 (h 75 13 - 2147483648) := Kp.fr k406 f161 (by omega) (by decide)
              have k404 : Kp h h292 (h 75 13 - 2147483648) := Kp.fr k405 f294 (by omega) (by decide)
              have q415 : h292 75 13 = h159 75 13 := jK 0 f294 rg_75_13_0_1 (by omega) (by omega) (by decide)
              have q416 : h159 75 13 = h126 75 13 := jK 0 f161 rg_75_13_0_1 (by omega) (by omega) (by decide)
              have k403 : Kp h h330 (h 75 13 - 2147483648) := Kp.trans k404 c337 (by omega)
              have k402 : Kp h h361 (h 75 13 - 2147483648) := by rw [← e363]; exact Kp.up k403 (by omega) (fun i hi => by omega)
              have k401 : Kp h h369 (h 75 13 - 2147483648) := by rw [← e371]; exact Kp.up k402 (by omega) (fun i hi => by omega)
              have k400 : Kp h h376 (h 75 13 - 2147483648) := by rw [← e378]; exact Kp.oth k401 (by decide)
              have q417 : h376 75 13 = (1 + (h330 75 13)) := by rw [← e378]; exact x_up_at
              have q419 : h376 76 (1152 + 2 * u358) = h369 76 (1152 + 2 * u358) := by rw [← e378]; exact x_up_k (by decide)
              have q420 : h369 76 (1152 + 2 * u358) = h361 76 (1152 + 2 * u358) := by rw [← e371]; exact x_up_i (by omega)
              have q421 : h361 76 (1152 + 2 * u358) = 2147483659 := by rw [← e363]; exact x_up_at
              have k427 : Kp h126 h159 (h126 75 13 - 2147483648) := Kp.fr Kp.refl f161 (by omega) (by decide)
              have k426 : Kp h126 h292 (h126 75 13 - 2147483648) := Kp.fr k427 f294 (by omega) (by decide)
              have q428 : h292 75 13 = h159 75 13 := jK 0 f294 rg_75_13_0_1 (by omega) (by omega) (by decide)
              have q429 : h159 75 13 = h126 75 13 := jK 0 f161 rg_75_13_0_1 (by omega) (by omega) (by decide)
              have k425 : Kp h126 h330 (h126 75 13 - 2147483648) := Kp.trans k426 c337 (by omega)
              have k424 : Kp h126 h361 (h126 75 13 - 2147483648) := by rw [← e363]; exact Kp.up k425 (by omega) (fun i hi => by omega)
              have k423 : Kp h126 h369 (h126 75 13 - 2147483648) := by rw [← e371]; exact Kp.up k424 (by omega) (fun i hi => by omega)
              have k422 : Kp h126 h376 (h126 75 13 - 2147483648) := by rw [← e378]; exact Kp.oth k423 (by decide)
              have k432 : Kp h330 h361 (h330 75 13 - 2147483648) := by rw [← e363]; exact Kp.up Kp.refl (by omega) (fun i hi => by omega)
              have k431 : Kp h330 h369 (h330 75 13 - 2147483648) := by rw [← e371]; exact Kp.up k432 (by omega) (fun i hi => by omega)
              have k430 : Kp h330 h376 (h330 75 13 - 2147483648) := by rw [← e378]; exact Kp.oth k431 (by decide)
              have s418 : Seg (sg h376) (h109 75 13 - 2147483648) (u358 + 1) := Seg.bin (Seg.kp s151 k422) (Seg.cast (a' := (h126 75 13 - 2147483648)) (b' := u358) (Seg.kp s351 k430) (by omega) (by omega)) (show 2147483656 < h376 76 (1152 + 2 * u358) by omega) (show h376 76 (1152 + 2 * u358) ≠ 2147483660 by omega)
              have s433 : Seg (sg h376) (h 75 13 - 2147483648) (h376 75 13 - 2147483648) := Seg.cast (Seg.kp s418 Kp.refl) (by omega) (by omega)
              refine x_retI (np := 208) (x := 0) (by decide +kernel) (by decide) (Or.inr ⟨by decide +kernel, by omega, by omega⟩) ⟨_, rfl, (by decide), ?_⟩
              exact ⟨j377, f379, (by omega), (fun z => by omega), (fun z => by omega), (fun z => by omega), (fun z => by omega), k400, (fun _ => s433)⟩
            have q355 : ¬ (v156 = 2147483648) := q355
            exfalso; omega
          have q347 : ¬ (v327 ≠ 2147483648) := q347
          refine x_const (np := 189) (x := 9223372039002259456) (a := 2147483648) (by decide +kernel) (by decide) (by decide) ?_
          have q434 : h330 75 10 = h292 75 10 := jK 0 f332 rg_75_10_0_1 (by omega) (by omega) (by decide)
          have q435 : h292 75 10 = h159 75 10 := jK 0 f294 rg_75_10_0_1 (by omega) (by omega) (by decide)
          have q436 : h159 75 10 = h126 75 10 := jK 0 f161 rg_75_10_0_1 (by omega) (by omega) (by decide)
          have q437 : h126 75 10 = h109 75 10 := jK 0 f128 rg_75_10_0_1 (by omega) (by omega) (by decide)
          have q438 : h109 75 10 = h33 75 10 := jK 0 f111 rg_75_10_0_1 (by omega) (by omega) (by decide)
          have q439 : h33 75 10 = h20 75 10 := jK 0 f35 rg_75_10_0_1 (by omega) (by omega) (by decide)
          have q440 : h20 75 10 = h7 75 10 := jK 0 f22 rg_75_10_0_1 (by omega) (by omega) (by decide)
          have q441 : h7 75 10 = h 75 10 := jK 0 f9 rg_75_10_0_1 (by omega) (by omega) (by decide)
          have k449 : Kp h h7 (h 75 13 - 2147483648) := Kp.fr Kp.refl f9 (by omega) (by decide)
          have k448 : Kp h h20 (h 75 13 - 2147483648) := Kp.fr k449 f22 (by omega) (by decide)
          have k447 : Kp h h33 (h 75 13 - 2147483648) := Kp.fr k448 f35 (by omega) (by decide)
          have k446 : Kp h h109 (h 75 13 - 2147483648) := Kp.fr k447 f111 (by omega) (by decide)
          have q450 : h109 75 13 = h33 75 13 := jK 0 f111 rg_75_13_0_1 (by omega) (by omega) (by decide)
          have q451 : h33 75 13 = h20 75 13 := jK 0 f35 rg_75_13_0_1 (by omega) (by omega) (by decide)
          have q452 : h20 75 13 = h7 75 13 := jK 0 f22 rg_75_13_0_1 (by omega) (by omega) (by decide)
          have q453 : h7 75 13 = h 75 13 := jK 0 f9 rg_75_13_0_1 (by omega) (by omega) (by decide)
          have k445 : Kp h h126 (h 75 13 - 2147483648) := Kp.trans k446 c133 (by omega)
          have k444 : Kp h h159 (h 75 13 - 2147483648) := Kp.fr k445 f161 (by omega) (by decide)
          have k443 : Kp h h292 (h 75 13 - 2147483648) := Kp.fr k444 f294 (by omega) (by decide)
          have q454 : h292 75 13 = h159 75 13 := jK 0 f294 rg_75_13_0_1 (by omega) (by omega) (by decide)
          have q455 : h159 75 13 = h126 75 13 := jK 0 f161 rg_75_13_0_1 (by omega) (by omega) (by decide)
          have k442 : Kp h h330 (h 75 13 - 2147483648) := Kp.trans k443 c337 (by omega)
          refine x_retI (np := 190) (x := 0) (by decide +kernel) (by decide) (Or.inr ⟨by decide +kernel, by omega, by omega⟩) ⟨_, rfl, (by decide), ?_⟩
          exact ⟨j331, f339, (by omega), (fun z => by omega), (fun z => by omega), (fun z => by omega), (fun z => by omega), k442, (fun z => absurd z (by omega))⟩
        have q147 : ¬ (v123 ≠ 2147483648) := q147
        refine x_const (np := 160) (x := 9223372039002259456) (a := 2147483648) (by decide +kernel) (by decide) (by decide) ?_
        have q456 : h126 75 10 = h109 75 10 := jK 0 f128 rg_75_10_0_1 (by omega) (by omega) (by decide)
        have q457 : h109 75 10 = h33 75 10 := jK 0 f111 rg_75_10_0_1 (by omega) (by omega) (by decide)
        have q458 : h33 75 10 = h20 75 10 := jK 0 f35 rg_75_10_0_1 (by omega) (by omega) (by decide)
        have q459 : h20 75 10 = h7 75 10 := jK 0 f22 rg_75_10_0_1 (by omega) (by omega) (by decide)
        have q460 : h7 75 10 = h 75 10 := jK 0 f9 rg_75_10_0_1 (by omega) (by omega) (by decide)
        have k465 : Kp h h7 (h 75 13 - 2147483648) := Kp.fr Kp.refl f9 (by omega) (by decide)
        have k464 : Kp h h20 (h 75 13 - 2147483648) := Kp.fr k465 f22 (by omega) (by decide)
        have k463 : Kp h h33 (h 75 13 - 2147483648) := Kp.fr k464 f35 (by omega) (by decide)
        have k462 : Kp h h109 (h 75 13 - 2147483648) := Kp.fr k463 f111 (by omega) (by decide)
        have q466 : h109 75 13 = h33 75 13 := jK 0 f111 rg_75_13_0_1 (by omega) (by omega) (by decide)
        have q467 : h33 75 13 = h20 75 13 := jK 0 f35 rg_75_13_0_1 (by omega) (by omega) (by decide)
        have q468 : h20 75 13 = h7 75 13 := jK 0 f22 rg_75_13_0_1 (by omega) (by omega) (by decide)
        have q469 : h7 75 13 = h 75 13 := jK 0 f9 rg_75_13_0_1 (by omega) (by omega) (by decide)
        have k461 : Kp h h126 (h 75 13 - 2147483648) := Kp.trans k462 c133 (by omega)
        refine x_retI (np := 161) (x := 0) (by decide +kernel) (by decide) (Or.inr ⟨by decide +kernel, by omega, by omega⟩) ⟨_, rfl, (by decide), ?_⟩
        exact ⟨j127, f135, (by omega), (fun z => by omega), (fun z => by omega), (fun z => by omega), (fun z => by omega), k461, (fun z => absurd z (by omega))⟩
      have q118 : ¬ (v106 = 2147483648) := q118
      have b470 := c114 (by omega)
      refine x_aload (np := 135) (x := 0) (by decide +kernel) rfl (x_nc_le (by decide)) ?_
      refine x_iload (np := 136) (x := 1) (by decide +kernel) rfl l31 ?_
      refine x_ifz (k := 0) (tg := 144) (np := 139) (by decide +kernel) (by decide) l31 (fun q471 => ?_) (fun q472 => ?_)
      · have q471 : v30 = 2147483648 := q471
        refine x_const (np := 146) (x := 9223372069067030535) (a := 2147483655) (by decide +kernel) (by decide) (by decide) ?_
        refine x_const (np := 147) (x := 9223372039002259456) (a := 2147483648) (by decide +kernel) (by decide) (by decide) ?_
        refine x_nV (t := 6) (mj := 187) (n := 3) (rc := 12) (ml := 3) (nr := 0) (np := 150) (as := [x_r 75, iv_c 2147483655, iv_c 2147483648]) (rest := []) (lo1 := [x_r 75, iv_c 2147483655, iv_c 2147483648]) (by decide +kernel) (by decide) (by decide +kernel) (x_rb_of (by decide +kernel)) rfl rfl (x_wr (by decide) (x_wi (by decide) (x_wi (by decide) x_wn))) x_wn (by decide) rfl ?_
        refine x_aload (np := 1) (x := 0) (by decide +kernel) rfl (x_nc_le (by decide)) ?_
        have q473 : h109 75 1 = 76 := by have z := jB (e := 1) 0 j110 rg_75_1_0_1 (by decide) (by decide); omega
        refine x_getR (np := 4) (x := 705) (f := 1) (q := 76) (by decide +kernel) (by decide) (by decide +kernel) q473 ?_
        refine x_const (np := 7) (x := 9223376986804585600) (a := 2147484800) (by decide +kernel) (by decide) (by decide) ?_
        refine x_const (np := 8) (x := 9223372047592194050) (a := 2147483650) (by decide +kernel) (by decide) (by decide) ?_
        refine x_aload (np := 9) (x := 0) (by decide +kernel) rfl (x_nc_le (by decide)) ?_
        have q474 : h109 75 13 = h33 75 13 := jK 0 f111 rg_75_13_0_1 (by omega) (by omega) (by decide)
        have q475 : h33 75 13 = h20 75 13 := jK 0 f35 rg_75_13_0_1 (by omega) (by omega) (by decide)
        have q476 : h20 75 13 = h7 75 13 := jK 0 f22 rg_75_13_0_1 (by omega) (by omega) (by decide)
        have q477 : h7 75 13 = h 75 13 := jK 0 f9 rg_75_13_0_1 (by omega) (by omega) (by decide)
        refine x_getC (np := 12) (x := 717) (f := 13) (q := (h 75 13)) (by decide +kernel) (by decide) (by decide +kernel) (((q474.trans q475).trans q476).trans q477) (fun l478 => ?_)
        obtain ⟨u479, q480⟩ : ∃ z, (h 75 13) = 2147483648 + z := ⟨(h 75 13) - 2147483648, by omega⟩
        refine x_imul (np := 13) (x := 0) (i := 2) (j := u479) (v := (2147483648 + 2 * u479)) (by decide +kernel) (by omega) (by omega) (by omega) (by omega) (by decide) l478 ?_
        refine x_iadd (np := 14) (x := 0) (v := (2147484800 + 2 * u479)) (by decide +kernel) (by decide) (by omega) (by omega) (by omega) ?_
        refine x_iload (np := 15) (x := 1) (by decide +kernel) rfl (by decide) ?_
        refine x_ast (np := 16) (x := 0) (kd := 1) (n := 1952) (i := (1152 + 2 * u479)) (by decide +kernel) (Or.inl rfl) (by decide +kernel) (by omega) (by omega) (by decide) (by decide) (fun z => absurd z (by decide)) ?_
        have j483 := jU (e := (1152 + 2 * u479)) (v := 2147483655) u479 j110 rg_76_1152_2_394 (by omega) (by omega) (by omega)
        have f485 := jF (e := (1152 + 2 * u479)) (v := 2147483655) u479 f115 rg_76_1152_2_394 (by omega) (by omega) (by decide)
        generalize e484 : x_up h109 76 (1152 + 2 * u479) 2147483655 = h482 at j483 f485 ⊢
        refine x_aload (np := 17) (x := 0) (by decide +kernel) rfl (x_nc_le (by decide)) ?_
        have q486 : h482 75 1 = 76 := by have z := jB (e := 1) 0 j483 rg_75_1_0_1 (by decide) (by decide); omega
        refine x_getR (np := 20) (x := 705) (f := 1) (q := 76) (by decide +kernel) (by decide) (by decide +kernel) q486 ?_
        refine x_const (np := 23) (x := 9223376986804585600) (a := 2147484800) (by decide +kernel) (by decide) (by decide) ?_
        refine x_const (np := 24) (x := 9223372047592194050) (a := 2147483650) (by decide +kernel) (by decide) (by decide) ?_
        refine x_aload (np := 25) (x := 0) (by decide +kernel) rfl (x_nc_le (by decide)) ?_
        have q487 : h482 75 13 = h109 75 13 := by rw [← e484]; exact x_up_k (by decide)
        have q488 : h109 75 13 = h33 75 13 := jK 0 f111 rg_75_13_0_1 (by omega) (by omega) (by decide)
        have q489 : h33 75 13 = h20 75 13 := jK 0 f35 rg_75_13_0_1 (by omega) (by omega) (by decide)
        have q490 : h20 75 13 = h7 75 13 := jK 0 f22 rg_75_13_0_1 (by omega) (by omega) (by decide)
        have q491 : h7 75 13 = h 75 13 := jK 0 f9 rg_75_13_0_1 (by omega) (by omega) (by decide)
        refine x_getC (np := 28) (x := 717) (f := 13) (q := (h 75 13)) (by decide +kernel) (by decide) (by decide +kernel) ((((q487.trans q488).trans q489).trans q490).trans q491) (fun l492 => ?_)
        refine x_imul (np := 29) (x := 0) (i := 2) (j := u479) (v := (2147483648 + 2 * u479)) (by decide +kernel) (by omega) (by omega) (by omega) (by omega) (by decide) l478 ?_
        refine x_iadd (np := 30) (x := 0) (v := (2147484800 + 2 * u479)) (by decide +kernel) (by decide) (by omega) (by omega) (by omega) ?_
        refine x_const (np := 31) (x := 9223372043297226753) (a := 2147483649) (by decide +kernel) (by decide) (by decide) ?_
        refine x_iadd (np := 32) (x := 0) (v := (2147484801 + 2 * u479)) (by decide +kernel) (by omega) (by decide) (by omega) (by omega) ?_
        refine x_iload (np := 33) (x := 2) (by decide +kernel) rfl (by decide) ?_
        refine x_ast (np := 34) (x := 0) (kd := 1) (n := 1952) (i := (1153 + 2 * u479)) (by decide +kernel) (Or.inl rfl) (by decide +kernel) (by omega) (by omega) (by decide) (by decide) (fun z => absurd z (by decide)) ?_
        have j495 := jU (e := (1153 + 2 * u479)) (v := 2147483648) u479 j483 rg_76_1153_2_394 (by omega) (by omega) (by omega)
        have f497 := jF (e := (1153 + 2 * u479)) (v := 2147483648) u479 f485 rg_76_1153_2_394 (by omega) (by omega) (by decide)
        generalize e496 : x_up h482 76 (1153 + 2 * u479) 2147483648 = h494 at j495 f497 ⊢
        refine x_aload (np := 35) (x := 0) (by decide +kernel) rfl (x_nc_le (by decide)) ?_
        refine x_dup (np := 36) (x := 0) (by decide +kernel) (by have z := x_nc_le (k := 75) (by decide); unfold x_r; omega) ?_
        have q498 : h494 75 13 = h482 75 13 := by rw [← e496]; exact x_up_k (by decide)
        have q499 : h482 75 13 = h109 75 13 := by rw [← e484]; exact x_up_k (by decide)
        have q500 : h109 75 13 = h33 75 13 := jK 0 f111 rg_75_13_0_1 (by omega) (by omega) (by decide)
        have q501 : h33 75 13 = h20 75 13 := jK 0 f35 rg_75_13_0_1 (by omega) (by omega) (by decide)
        have q502 : h20 75 13 = h7 75 13 := jK 0 f22 rg_75_13_0_1 (by omega) (by omega) (by decide)
        have q503 : h7 75 13 = h 75 13 := jK 0 f9 rg_75_13_0_1 (by omega) (by omega) (by decide)
        refine x_getC (np := 39) (x := 717) (f := 13) (q := (h 75 13)) (by decide +kernel) (by decide) (by decide +kernel) (((((q498.trans q499).trans q500).trans q501).trans q502).trans q503) (fun l504 => ?_)
        refine x_const (np := 40) (x := 9223372043297226753) (a := 2147483649) (by decide +kernel) (by decide) (by decide) ?_
        refine x_iadd (np := 41) (x := 0) (v := (1 + (h 75 13))) (by decide +kernel) l478 (by decide) (by omega) (by omega) ?_
        refine x_putI (np := 44) (x := 717) (f := 13) (by decide +kernel) (by decide +kernel) (by omega) (Or.inl (by decide)) ?_
        have j506 := jU (e := 13) (v := (1 + (h 75 13))) 0 j495 rg_75_13_0_1 (by omega) (by omega) (by omega)
        have f508 := jF (e := 13) (v := (1 + (h 75 13))) 0 f497 rg_75_13_0_1 (by omega) (by omega) (by decide)
        generalize e507 : x_up h494 75 13 (1 + (h 75 13)) = h505 at j506 f508 ⊢
        refine x_retV (np := 45) (x := 0) (by decide +kernel) (by decide +kernel) ⟨rfl, ?_⟩
        have q509 : h505 75 13 = (1 + (h 75 13)) := by rw [← e507]; exact x_up_at
        refine x_const (np := 151) (x := 9223372043297226753) (a := 2147483649) (by decide +kernel) (by decide) (by decide) ?_
        have q510 : h505 75 13 = (1 + (h 75 13)) := by rw [← e507]; exact x_up_at
        have q511 : h505 75 7 = h494 75 7 := by rw [← e507]; exact x_up_i (by omega)
        have q512 : h494 75 7 = h482 75 7 := by rw [← e496]; exact x_up_k (by decide)
        have q513 : h482 75 7 = h109 75 7 := by rw [← e484]; exact x_up_k (by decide)
        have q514 : h505 75 10 = h494 75 10 := by rw [← e507]; exact x_up_i (by omega)
        have q515 : h494 75 10 = h482 75 10 := by rw [← e496]; exact x_up_k (by decide)
        have q516 : h482 75 10 = h109 75 10 := by rw [← e484]; exact x_up_k (by decide)
        have q517 : h109 75 10 = h33 75 10 := jK 0 f111 rg_75_10_0_1 (by omega) (by omega) (by decide)
        have q518 : h33 75 10 = h20 75 10 := jK 0 f35 rg_75_10_0_1 (by omega) (by omega) (by decide)
        have q519 : h20 75 10 = h7 75 10 := jK 0 f22 rg_75_10_0_1 (by omega) (by omega) (by decide)
        have q520 : h7 75 10 = h 75 10 := jK 0 f9 rg_75_10_0_1 (by omega) (by omega) (by decide)
        have q521 : h505 75 7 = h494 75 7 := by rw [← e507]; exact x_up_i (by omega)
        have q522 : h494 75 7 = h482 75 7 := by rw [← e496]; exact x_up_k (by decide)
        have q523 : h482 75 7 = h109 75 7 := by rw [← e484]; exact x_up_k (by decide)
        have q524 : h505 75 13 = (1 + (h 75 13)) := by rw [← e507]; exact x_up_at
        have k531 : Kp h h7 (h 75 13 - 2147483648) := Kp.fr Kp.refl f9 (by omega) (by decide)
        have k530 : Kp h h20 (h 75 13 - 2147483648) := Kp.fr k531 f22 (by omega) (by decide)
        have k529 : Kp h h33 (h 75 13 - 2147483648) := Kp.fr k530 f35 (by omega) (by decide)
        have k528 : Kp h h109 (h 75 13 - 2147483648) := Kp.fr k529 f111 (by omega) (by decide)
        have k527 : Kp h h482 (h 75 13 - 2147483648) := by rw [← e484]; exact Kp.up k528 (by omega) (fun i hi => by omega)
        have k526 : Kp h h494 (h 75 13 - 2147483648) := by rw [← e496]; exact Kp.up k527 (by omega) (fun i hi => by omega)
        have k525 : Kp h h505 (h 75 13 - 2147483648) := by rw [← e507]; exact Kp.oth k526 (by decide)
        have q532 : h505 75 13 = (1 + (h 75 13)) := by rw [← e507]; exact x_up_at
        have q534 : h505 76 (1152 + 2 * u479) = h494 76 (1152 + 2 * u479) := by rw [← e507]; exact x_up_k (by decide)
        have q535 : h494 76 (1152 + 2 * u479) = h482 76 (1152 + 2 * u479) := by rw [← e496]; exact x_up_i (by omega)
        have q536 : h482 76 (1152 + 2 * u479) = 2147483655 := by rw [← e484]; exact x_up_at
        have s533 : Seg (sg h505) u479 (u479 + 1) := Seg.push (show 2147483648 ≤ h505 76 (1152 + 2 * u479) by omega) (show h505 76 (1152 + 2 * u479) ≤ 2147483656 by omega)
        have s537 : Seg (sg h505) (h 75 13 - 2147483648) (h505 75 13 - 2147483648) := Seg.cast (Seg.kp s533 Kp.refl) (by omega) (by omega)
        refine x_retI (np := 152) (x := 0) (by decide +kernel) (by decide) (Or.inr ⟨by decide +kernel, by omega, by omega⟩) ⟨_, rfl, (by decide), ?_⟩
        exact ⟨j506, f508, (by omega), (fun z => by omega), (fun z => by omega), (fun z => by omega), (fun z => by omega), k525, (fun _ => s537)⟩
      have q472 : ¬ (v30 = 2147483648) := q472
      exfalso; omega
    have q29 : ¬ (v17 = 2147483648) := q29
    have b538 := c25 (by omega)
    refine x_aload (np := 66) (x := 0) (by decide +kernel) rfl (x_nc_le (by decide)) ?_
    have q539 : h20 75 10 = h7 75 10 := jK 0 f22 rg_75_10_0_1 (by omega) (by omega) (by decide)
    have q540 : h7 75 10 = h 75 10 := jK 0 f9 rg_75_10_0_1 (by omega) (by omega) (by decide)
    refine x_getC (np := 69) (x := 714) (f := 10) (q := (h 75 10)) (by decide +kernel) (by decide) (by decide +kernel) (q539.trans q540) (fun l541 => ?_)
    refine x_const (np := 71) (x := 9223372064772063238) (a := 2147483654) (by decide +kernel) (by decide) (by decide) ?_
    refine x_icmp (k := 1) (tg := 76) (np := 74) (by decide +kernel) (by decide) l541 (by decide) (fun q542 => ?_) (fun q543 => ?_)
    · have q542 : (h 75 10) ≠ 2147483654 := q542
      refine x_aload (np := 77) (x := 0) (by decide +kernel) rfl (x_nc_le (by decide)) ?_
      refine x_dup (np := 78) (x := 0) (by decide +kernel) (by have z := x_nc_le (k := 75) (by decide); unfold x_r; omega) ?_
      have q544 : h20 75 10 = h7 75 10 := jK 0 f22 rg_75_10_0_1 (by omega) (by omega) (by decide)
      have q545 : h7 75 10 = h 75 10 := jK 0 f9 rg_75_10_0_1 (by omega) (by omega) (by decide)
      refine x_getC (np := 81) (x := 714) (f := 10) (q := (h 75 10)) (by decide +kernel) (by decide) (by decide +kernel) (q544.trans q545) (fun l546 => ?_)
      refine x_const (np := 82) (x := 9223372043297226753) (a := 2147483649) (by decide +kernel) (by decide) (by decide) ?_
      refine x_iadd (np := 83) (x := 0) (v := (1 + (h 75 10))) (by decide +kernel) l541 (by decide) (by omega) (by omega) ?_
      refine x_putI (np := 86) (x := 714) (f := 10) (by decide +kernel) (by decide +kernel) (by omega) (Or.inl (by decide)) ?_
      have j548 := jU (e := 10) (v := (1 + (h 75 10))) 0 j21 rg_75_10_0_1 (by omega) (by omega) (by omega)
      have f550 := jF (e := 10) (v := (1 + (h 75 10))) 0 f26 rg_75_10_0_1 (by omega) (by omega) (by decide)
      generalize e549 : x_up h20 75 10 (1 + (h 75 10)) = h547 at j548 f550 ⊢
      refine x_aload (np := 87) (x := 0) (by decide +kernel) rfl (x_nc_le (by decide)) ?_
      have q551 : h547 75 10 = (1 + (h 75 10)) := by rw [← e549]; exact x_up_at
      have q552 : h547 75 13 = h20 75 13 := by rw [← e549]; exact x_up_i (by omega)
      have q553 : h20 75 13 = h7 75 13 := jK 0 f22 rg_75_13_0_1 (by omega) (by omega) (by decide)
      have q554 : h7 75 13 = h 75 13 := jK 0 f9 rg_75_13_0_1 (by omega) (by omega) (by decide)
      have q555 : h547 75 7 = h20 75 7 := by rw [← e549]; exact x_up_i (by omega)
      have q556 : h547 75 10 = (1 + (h 75 10)) := by rw [← e549]; exact x_up_at
      refine x_cI (t := 6) (mj := 190) (n := 1) (rc := 12) (ml := 3) (nr := 0) (np := 90) (as := [x_r 75]) (rest := []) (lo1 := [x_r 75, 147573952589676412928, 147573952589676412928]) (by decide +kernel) (by decide) (by decide +kernel) (x_rb_of (by decide +kernel)) rfl rfl (x_wr (by decide) x_wn) x_wn (by decide) rfl (c190_75_D3 j548  (by omega) (by omega)) (fun v557 h560 l558 q559 => ?_)
      obtain ⟨j561, f562, b563, c564, c565, c566, c567, c568, c569⟩ := q559
      have f570 := Fr.trans f550 f562 (by decide)
      have q571 : h547 75 13 = h20 75 13 := by rw [← e549]; exact x_up_i (by omega)
      have q572 : h20 75 13 = h7 75 13 := jK 0 f22 rg_75_13_0_1 (by omega) (by omega) (by decide)
      have q573 : h7 75 13 = h 75 13 := jK 0 f9 rg_75_13_0_1 (by omega) (by omega) (by decide)
      have b574 := jB (e := 13) 0 j561 rg_75_13_0_1 (by omega) (by omega)
      have q575 : h547 75 7 = h20 75 7 := by rw [← e549]; exact x_up_i (by omega)
      have b576 := jB (e := 7) 0 j561 rg_75_7_0_1 (by omega) (by omega)
      have q577 : h547 75 10 = (1 + (h 75 10)) := by rw [← e549]; exact x_up_at
      have b578 := jB (e := 10) 0 j561 rg_75_10_0_1 (by omega) (by omega)
      have q579 : h547 75 7 = h20 75 7 := by rw [← e549]; exact x_up_i (by omega)
      have q580 : h547 75 13 = h20 75 13 := by rw [← e549]; exact x_up_i (by omega)
      have q581 : h20 75 13 = h7 75 13 := jK 0 f22 rg_75_13_0_1 (by omega) (by omega) (by decide)
      have q582 : h7 75 13 = h 75 13 := jK 0 f9 rg_75_13_0_1 (by omega) (by omega) (by decide)
      refine x_ifz (k := 1) (tg := 95) (np := 93) (by decide +kernel) (by decide) l558 (fun q583 => ?_) (fun q584 => ?_)
      · have q583 : v557 ≠ 2147483648 := q583
        have b585 := c564 (by omega)
        have b586 := c565 (by omega)
        have b587 := c566 (by omega)
        have b588 := c567 (by omega)
        have s589 := c569 (by omega)
        have q590 : h547 75 13 = h20 75 13 := by rw [← e549]; exact x_up_i (by omega)
        have q591 : h20 75 13 = h7 75 13 := jK 0 f22 rg_75_13_0_1 (by omega) (by omega) (by decide)
        have q592 : h7 75 13 = h 75 13 := jK 0 f9 rg_75_13_0_1 (by omega) (by omega) (by decide)
        refine x_aload (np := 96) (x := 0) (by decide +kernel) rfl (x_nc_le (by decide)) ?_
        refine x_dup (np := 97) (x := 0) (by decide +kernel) (by have z := x_nc_le (k := 75) (by decide); unfold x_r; omega) ?_
        refine x_getC (np := 100) (x := 714) (f := 10) (q := (h560 75 10)) (by decide +kernel) (by decide) (by decide +kernel) rfl (fun l593 => ?_)
        refine x_const (np := 101) (x := 9223372043297226753) (a := 2147483649) (by decide +kernel) (by decide) (by decide) ?_
        obtain ⟨v594, q595⟩ : ∃ z, z + 2147483649 = (h560 75 10) + 2147483648 := ⟨(h560 75 10) + 2147483648 - 2147483649, by omega⟩
        refine x_isub (np := 102) (x := 0) (v := v594) (by decide +kernel) l593 (by decide) (by omega) (by omega) ?_
        refine x_putI (np := 105) (x := 714) (f := 10) (by decide +kernel) (by decide +kernel) (by omega) (Or.inl (by decide)) ?_
        have j597 := jU (e := 10) (v := v594) 0 j561 rg_75_10_0_1 (by omega) (by omega) (by omega)
        have f599 := jF (e := 10) (v := v594) 0 f570 rg_75_10_0_1 (by omega) (by omega) (by decide)
        generalize e598 : x_up h560 75 10 v594 = h596 at j597 f599 ⊢
        refine x_aload (np := 106) (x := 0) (by decide +kernel) rfl (x_nc_le (by decide)) ?_
        refine x_const (np := 108) (x := 9223372090541867020) (a := 2147483660) (by decide +kernel) (by decide) (by decide) ?_
        refine x_const (np := 109) (x := 9223372039002259456) (a := 2147483648) (by decide +kernel) (by decide) (by decide) ?_
        refine x_nV (t := 6) (mj := 187) (n := 3) (rc := 12) (ml := 3) (nr := 0) (np := 112) (as := [x_r 75, iv_c 2147483660, iv_c 2147483648]) (rest := []) (lo1 := [x_r 75, iv_c 2147483660, iv_c 2147483648]) (by decide +kernel) (by decide) (by decide +kernel) (x_rb_of (by decide +kernel)) rfl rfl (x_wr (by decide) (x_wi (by decide) (x_wi (by decide) x_wn))) x_wn (by decide) rfl ?_
        refine x_aload (np := 1) (x := 0) (by decide +kernel) rfl (x_nc_le (by decide)) ?_
        have q600 : h596 75 1 = 76 := by have z := jB (e := 1) 0 j597 rg_75_1_0_1 (by decide) (by decide); omega
        refine x_getR (np := 4) (x := 705) (f := 1) (q := 76) (by decide +kernel) (by decide) (by decide +kernel) q600 ?_
        refine x_const (np := 7) (x := 9223376986804585600) (a := 2147484800) (by decide +kernel) (by decide) (by decide) ?_
        refine x_const (np := 8) (x := 9223372047592194050) (a := 2147483650) (by decide +kernel) (by decide) (by decide) ?_
        refine x_aload (np := 9) (x := 0) (by decide +kernel) rfl (x_nc_le (by decide)) ?_
        have q601 : h596 75 13 = h560 75 13 := by rw [← e598]; exact x_up_i (by omega)
        refine x_getC (np := 12) (x := 717) (f := 13) (q := (h560 75 13)) (by decide +kernel) (by decide) (by decide +kernel) q601 (fun l602 => ?_)
        obtain ⟨u603, q604⟩ : ∃ z, (h560 75 13) = 2147483648 + z := ⟨(h560 75 13) - 2147483648, by omega⟩
        refine x_imul (np := 13) (x := 0) (i := 2) (j := u603) (v := (2147483648 + 2 * u603)) (by decide +kernel) (by omega) (by omega) (by omega) (by omega) (by decide) l602 ?_
        refine x_iadd (np := 14) (x := 0) (v := (2147484800 + 2 * u603)) (by decide +kernel) (by decide) (by omega) (by omega) (by omega) ?_
        refine x_iload (np := 15) (x := 1) (by decide +kernel) rfl (by decide) ?_
        refine x_ast (np := 16) (x := 0) (kd := 1) (n := 1952) (i := (1152 + 2 * u603)) (by decide +kernel) (Or.inl rfl) (by decide +kernel) (by omega) (by omega) (by decide) (by decide) (fun z => absurd z (by decide)) ?_
        have j607 := jU (e := (1152 + 2 * u603)) (v := 2147483660) u603 j597 rg_76_1152_2_394 (by omega) (by omega) (by omega)
        have f609 := jF (e := (1152 + 2 * u603)) (v := 2147483660) u603 f599 rg_76_1152_2_394 (by omega) (by omega) (by decide)
        generalize e608 : x_up h596 76 (1152 + 2 * u603) 2147483660 = h606 at j607 f609 ⊢
        refine x_aload (np := 17) (x := 0) (by decide +kernel) rfl (x_nc_le (by decide)) ?_
        have q610 : h606 75 1 = 76 := by have z := jB (e := 1) 0 j607 rg_75_1_0_1 (by decide) (by decide); omega
        refine x_getR (np := 20) (x := 705) (f := 1) (q := 76) (by decide +kernel) (by decide) (by decide +kernel) q610 ?_
        refine x_const (np := 23) (x := 9223376986804585600) (a := 2147484800) (by decide +kernel) (by decide) (by decide) ?_
        refine x_const (np := 24) (x := 9223372047592194050) (a := 2147483650) (by decide +kernel) (by decide) (by decide) ?_
        refine x_aload (np := 25) (x := 0) (by decide +kernel) rfl (x_nc_le (by decide)) ?_
        have q611 : h606 75 13 = h596 75 13 := by rw [← e608]; exact x_up_k (by decide)
        have q612 : h596 75 13 = h560 75 13 := by rw [← e598]; exact x_up_i (by omega)
        refine x_getC (np := 28) (x := 717) (f := 13) (q := (h560 75 13)) (by decide +kernel) (by decide) (by decide +kernel) (q611.trans q612) (fun l613 => ?_)
        refine x_imul (np := 29) (x := 0) (i := 2) (j := u603) (v := (2147483648 + 2 * u603)) (by decide +kernel) (by omega) (by omega) (by omega) (by omega) (by decide) l602 ?_
        refine x_iadd (np := 30) (x := 0) (v := (2147484800 + 2 * u603)) (by decide +kernel) (by decide) (by omega) (by omega) (by omega) ?_
        refine x_const (np := 31) (x := 9223372043297226753) (a := 2147483649) (by decide +kernel) (by decide) (by decide) ?_
        refine x_iadd (np := 32) (x := 0) (v := (2147484801 + 2 * u603)) (by decide +kernel) (by omega) (by decide) (by omega) (by omega) ?_
        refine x_iload (np := 33) (x := 2) (by decide +kernel) rfl (by decide) ?_
        refine x_ast (np := 34) (x := 0) (kd := 1) (n := 1952) (i := (1153 + 2 * u603)) (by decide +kernel) (Or.inl rfl) (by decide +kernel) (by omega) (by omega) (by decide) (by decide) (fun z => absurd z (by decide)) ?_
        have j616 := jU (e := (1153 + 2 * u603)) (v := 2147483648) u603 j607 rg_76_1153_2_394 (by omega) (by omega) (by omega)
        have f618 := jF (e := (1153 + 2 * u603)) (v := 2147483648) u603 f609 rg_76_1153_2_394 (by omega) (by omega) (by decide)
        generalize e617 : x_up h606 76 (1153 + 2 * u603) 2147483648 = h615 at j616 f618 ⊢
        refine x_aload (np := 35) (x := 0) (by decide +kernel) rfl (x_nc_le (by decide)) ?_
        refine x_dup (np := 36) (x := 0) (by decide +kernel) (by have z := x_nc_le (k := 75) (by decide); unfold x_r; omega) ?_
        have q619 : h615 75 13 = h606 75 13 := by rw [← e617]; exact x_up_k (by decide)
        have q620 : h606 75 13 = h596 75 13 := by rw [← e608]; exact x_up_k (by decide)
        have q621 : h596 75 13 = h560 75 13 := by rw [← e598]; exact x_up_i (by omega)
        refine x_getC (np := 39) (x := 717) (f := 13) (q := (h560 75 13)) (by decide +kernel) (by decide) (by decide +kernel) ((q619.trans q620).trans q621) (fun l622 => ?_)
        refine x_const (np := 40) (x := 9223372043297226753) (a := 2147483649) (by decide +kernel) (by decide) (by decide) ?_
        refine x_iadd (np := 41) (x := 0) (v := (1 + (h560 75 13))) (by decide +kernel) l602 (by decide) (by omega) (by omega) ?_
        refine x_putI (np := 44) (x := 717) (f := 13) (by decide +kernel) (by decide +kernel) (by omega) (Or.inl (by decide)) ?_
        have j624 := jU (e := 13) (v := (1 + (h560 75 13))) 0 j616 rg_75_13_0_1 (by omega) (by omega) (by omega)
        have f626 := jF (e := 13) (v := (1 + (h560 75 13))) 0 f618 rg_75_13_0_1 (by omega) (by omega) (by decide)
        generalize e625 : x_up h615 75 13 (1 + (h560 75 13)) = h623 at j624 f626 ⊢
        refine x_retV (np := 45) (x := 0) (by decide +kernel) (by decide +kernel) ⟨rfl, ?_⟩
        have q627 : h623 75 13 = (1 + (h560 75 13)) := by rw [← e625]; exact x_up_at
        refine x_const (np := 113) (x := 9223372043297226753) (a := 2147483649) (by decide +kernel) (by decide) (by decide) ?_
        have q628 : h623 75 13 = (1 + (h560 75 13)) := by rw [← e625]; exact x_up_at
        have q629 : h623 75 7 = h615 75 7 := by rw [← e625]; exact x_up_i (by omega)
        have q630 : h615 75 7 = h606 75 7 := by rw [← e617]; exact x_up_k (by decide)
        have q631 : h606 75 7 = h596 75 7 := by rw [← e608]; exact x_up_k (by decide)
        have q632 : h596 75 7 = h560 75 7 := by rw [← e598]; exact x_up_i (by omega)
        have q633 : h623 75 10 = h615 75 10 := by rw [← e625]; exact x_up_i (by omega)
        have q634 : h615 75 10 = h606 75 10 := by rw [← e617]; exact x_up_k (by decide)
        have q635 : h606 75 10 = h596 75 10 := by rw [← e608]; exact x_up_k (by decide)
        have q636 : h596 75 10 = v594 := by rw [← e598]; exact x_up_at
        have q637 : h623 75 7 = h615 75 7 := by rw [← e625]; exact x_up_i (by omega)
        have q638 : h615 75 7 = h606 75 7 := by rw [← e617]; exact x_up_k (by decide)
        have q639 : h606 75 7 = h596 75 7 := by rw [← e608]; exact x_up_k (by decide)
        have q640 : h596 75 7 = h560 75 7 := by rw [← e598]; exact x_up_i (by omega)
        have q641 : h623 75 13 = (1 + (h560 75 13)) := by rw [← e625]; exact x_up_at
        have k649 : Kp h h7 (h 75 13 - 2147483648) := Kp.fr Kp.refl f9 (by omega) (by decide)
        have k648 : Kp h h20 (h 75 13 - 2147483648) := Kp.fr k649 f22 (by omega) (by decide)
        have k647 : Kp h h547 (h 75 13 - 2147483648) := by rw [← e549]; exact Kp.oth k648 (by decide)
        have q650 : h547 75 13 = h20 75 13 := by rw [← e549]; exact x_up_i (by omega)
        have q651 : h20 75 13 = h7 75 13 := jK 0 f22 rg_75_13_0_1 (by omega) (by omega) (by decide)
        have q652 : h7 75 13 = h 75 13 := jK 0 f9 rg_75_13_0_1 (by omega) (by omega) (by decide)
        have k646 : Kp h h560 (h 75 13 - 2147483648) := Kp.trans k647 c568 (by omega)
        have k645 : Kp h h596 (h 75 13 - 2147483648) := by rw [← e598]; exact Kp.oth k646 (by decide)
        have k644 : Kp h h606 (h 75 13 - 2147483648) := by rw [← e608]; exact Kp.up k645 (by omega) (fun i hi => by omega)
        have k643 : Kp h h615 (h 75 13 - 2147483648) := by rw [← e617]; exact Kp.up k644 (by omega) (fun i hi => by omega)
        have k642 : Kp h h623 (h 75 13 - 2147483648) := by rw [← e625]; exact Kp.oth k643 (by decide)
        have q653 : h623 75 13 = (1 + (h560 75 13)) := by rw [← e625]; exact x_up_at
        have q655 : h623 76 (1152 + 2 * u603) = h615 76 (1152 + 2 * u603) := by rw [← e625]; exact x_up_k (by decide)
        have q656 : h615 76 (1152 + 2 * u603) = h606 76 (1152 + 2 * u603) := by rw [← e617]; exact x_up_i (by omega)
        have q657 : h606 76 (1152 + 2 * u603) = 2147483660 := by rw [← e608]; exact x_up_at
        have k661 : Kp h560 h596 (h560 75 13 - 2147483648) := by rw [← e598]; exact Kp.oth Kp.refl (by decide)
        have k660 : Kp h560 h606 (h560 75 13 - 2147483648) := by rw [← e608]; exact Kp.up k661 (by omega) (fun i hi => by omega)
        have k659 : Kp h560 h615 (h560 75 13 - 2147483648) := by rw [← e617]; exact Kp.up k660 (by omega) (fun i hi => by omega)
        have k658 : Kp h560 h623 (h560 75 13 - 2147483648) := by rw [← e625]; exact Kp.oth k659 (by decide)
        have s654 : Seg (sg h623) (h547 75 13 - 2147483648) (u603 + 1) := Seg.not (Seg.cast (a' := (h547 75 13 - 2147483648)) (b' := u603) (Seg.kp s589 k658) rfl (by omega)) (show h623 76 (1152 + 2 * u603) = 2147483660 by omega)
        have s662 : Seg (sg h623) (h 75 13 - 2147483648) (h623 75 13 - 2147483648) := Seg.cast (Seg.kp s654 Kp.refl) (by omega) (by omega)
        refine x_retI (np := 114) (x := 0) (by decide +kernel) (by decide) (Or.inr ⟨by decide +kernel, by omega, by omega⟩) ⟨_, rfl, (by decide), ?_⟩
        exact ⟨j624, f626, (by omega), (fun z => by omega), (fun z => by omega), (fun z => by omega), (fun z => by omega), k642, (fun _ => s662)⟩
      have q584 : ¬ (v557 ≠ 2147483648) := q584
      refine x_const (np := 94) (x := 9223372039002259456) (a := 2147483648) (by decide +kernel) (by decide) (by decide) ?_
      have k666 : Kp h h7 (h 75 13 - 2147483648) := Kp.fr Kp.refl f9 (by omega) (by decide)
      have k665 : Kp h h20 (h 75 13 - 2147483648) := Kp.fr k666 f22 (by omega) (by decide)
      have k664 : Kp h h547 (h 75 13 - 2147483648) := by rw [← e549]; exact Kp.oth k665 (by decide)
      have q667 : h547 75 13 = h20 75 13 := by rw [← e549]; exact x_up_i (by omega)
      have q668 : h20 75 13 = h7 75 13 := jK 0 f22 rg_75_13_0_1 (by omega) (by omega) (by decide)
      have q669 : h7 75 13 = h 75 13 := jK 0 f9 rg_75_13_0_1 (by omega) (by omega) (by decide)
      have k663 : Kp h h560 (h 75 13 - 2147483648) := Kp.trans k664 c568 (by omega)
      refine x_retI (np := 95) (x := 0) (by decide +kernel) (by decide) (Or.inr ⟨by decide +kernel, by omega, by omega⟩) ⟨_, rfl, (by decide), ?_⟩
      exact ⟨j561, f570, (by omega), (fun z => by omega), (fun z => by omega), (fun z => by omega), (fun z => by omega), k663, (fun z => absurd z (by omega))⟩
    have q543 : ¬ ((h 75 10) ≠ 2147483654) := q543
    exfalso; omega
  have q16 : ¬ (v4 = 2147483648) := q16
  have b670 := c12 (by omega)
  refine x_aload (np := 10) (x := 0) (by decide +kernel) rfl (x_nc_le (by decide)) ?_
  have q671 : h7 75 10 = h 75 10 := jK 0 f9 rg_75_10_0_1 (by omega) (by omega) (by decide)
  refine x_getC (np := 13) (x := 714) (f := 10) (q := (h 75 10)) (by decide +kernel) (by decide) (by decide +kernel) q671 (fun l672 => ?_)
  refine x_const (np := 15) (x := 9223372064772063238) (a := 2147483654) (by decide +kernel) (by decide) (by decide) ?_
  refine x_icmp (k := 1) (tg := 20) (np := 18) (by decide +kernel) (by decide) l672 (by decide) (fun q673 => ?_) (fun q674 => ?_)
  · have q673 : (h 75 10) ≠ 2147483654 := q673
    refine x_aload (np := 21) (x := 0) (by decide +kernel) rfl (x_nc_le (by decide)) ?_
    refine x_dup (np := 22) (x := 0) (by decide +kernel) (by have z := x_nc_le (k := 75) (by decide); unfold x_r; omega) ?_
    have q675 : h7 75 10 = h 75 10 := jK 0 f9 rg_75_10_0_1 (by omega) (by omega) (by decide)
    refine x_getC (np := 25) (x := 714) (f := 10) (q := (h 75 10)) (by decide +kernel) (by decide) (by decide +kernel) q675 (fun l676 => ?_)
    refine x_const (np := 26) (x := 9223372043297226753) (a := 2147483649) (by decide +kernel) (by decide) (by decide) ?_
    refine x_iadd (np := 27) (x := 0) (v := (1 + (h 75 10))) (by decide +kernel) l672 (by decide) (by omega) (by omega) ?_
    refine x_putI (np := 30) (x := 714) (f := 10) (by decide +kernel) (by decide +kernel) (by omega) (Or.inl (by decide)) ?_
    have j678 := jU (e := 10) (v := (1 + (h 75 10))) 0 j8 rg_75_10_0_1 (by omega) (by omega) (by omega)
    have f680 := jF (e := 10) (v := (1 + (h 75 10))) 0 f13 rg_75_10_0_1 (by omega) (by omega) (by decide)
    generalize e679 : x_up h7 75 10 (1 + (h 75 10)) = h677 at j678 f680 ⊢
    refine x_aload (np := 31) (x := 0) (by decide +kernel) rfl (x_nc_le (by decide)) ?_
    have q681 : h677 75 10 = (1 + (h 75 10)) := by rw [← e679]; exact x_up_at
    have q682 : h677 75 13 = h7 75 13 := by rw [← e679]; exact x_up_i (by omega)
    have q683 : h7 75 13 = h 75 13 := jK 0 f9 rg_75_13_0_1 (by omega) (by omega) (by decide)
    have q684 : h677 75 7 = h7 75 7 := by rw [← e679]; exact x_up_i (by omega)
    have q685 : h677 75 10 = (1 + (h 75 10)) := by rw [← e679]; exact x_up_at
    refine x_cI (t := 6) (mj := 192) (n := 1) (rc := 12) (ml := 1) (nr := 0) (np := 34) (as := [x_r 75]) (rest := []) (lo1 := [x_r 75]) (by decide +kernel) (by decide) (by decide +kernel) (x_rb_of (by decide +kernel)) rfl rfl (x_wr (by decide) x_wn) x_wn (by decide) rfl (c192_75_D3 j678  (by omega) (by omega)) (fun v686 h689 l687 q688 => ?_)
    obtain ⟨j690, f691, b692, c693, c694, c695, c696, c697, c698⟩ := q688
    have f699 := Fr.trans f680 f691 (by decide)
    have q700 : h677 75 13 = h7 75 13 := by rw [← e679]; exact x_up_i (by omega)
    have q701 : h7 75 13 = h 75 13 := jK 0 f9 rg_75_13_0_1 (by omega) (by omega) (by decide)
    have b702 := jB (e := 13) 0 j690 rg_75_13_0_1 (by omega) (by omega)
    have q703 : h677 75 7 = h7 75 7 := by rw [← e679]; exact x_up_i (by omega)
    have b704 := jB (e := 7) 0 j690 rg_75_7_0_1 (by omega) (by omega)
    have q705 : h677 75 10 = (1 + (h 75 10)) := by rw [← e679]; exact x_up_at
    have b706 := jB (e := 10) 0 j690 rg_75_10_0_1 (by omega) (by omega)
    have q707 : h677 75 7 = h7 75 7 := by rw [← e679]; exact x_up_i (by omega)
    have q708 : h677 75 13 = h7 75 13 := by rw [← e679]; exact x_up_i (by omega)
    have q709 : h7 75 13 = h 75 13 := jK 0 f9 rg_75_13_0_1 (by omega) (by omega) (by decide)
    refine x_ifz (k := 1) (tg := 39) (np := 37) (by decide +kernel) (by decide) l687 (fun q710 => ?_) (fun q711 => ?_)
    · have q710 : v686 ≠ 2147483648 := q710
      have b712 := c693 (by omega)
      have b713 := c694 (by omega)
      have b714 := c695 (by omega)
      have b715 := c696 (by omega)
      have s716 := c698 (by omega)
      have q717 : h677 75 13 = h7 75 13 := by rw [← e679]; exact x_up_i (by omega)
      have q718 : h7 75 13 = h 75 13 := jK 0 f9 rg_75_13_0_1 (by omega) (by omega) (by decide)
      refine x_aload (np := 40) (x := 0) (by decide +kernel) rfl (x_nc_le (by decide)) ?_
      refine x_dup (np := 41) (x := 0) (by decide +kernel) (by have z := x_nc_le (k := 75) (by decide); unfold x_r; omega) ?_
      refine x_getC (np := 44) (x := 714) (f := 10) (q := (h689 75 10)) (by decide +kernel) (by decide) (by decide +kernel) rfl (fun l719 => ?_)
      refine x_const (np := 45) (x := 9223372043297226753) (a := 2147483649) (by decide +kernel) (by decide) (by decide) ?_
      obtain ⟨v720, q721⟩ : ∃ z, z + 2147483649 = (h689 75 10) + 2147483648 := ⟨(h689 75 10) + 2147483648 - 2147483649, by omega⟩
      refine x_isub (np := 46) (x := 0) (v := v720) (by decide +kernel) l719 (by decide) (by omega) (by omega) ?_
      refine x_putI (np := 49) (x := 714) (f := 10) (by decide +kernel) (by decide +kernel) (by omega) (Or.inl (by decide)) ?_
      have j723 := jU (e := 10) (v := v720) 0 j690 rg_75_10_0_1 (by omega) (by omega) (by omega)
      have f725 := jF (e := 10) (v := v720) 0 f699 rg_75_10_0_1 (by omega) (by omega) (by decide)
      generalize e724 : x_up h689 75 10 v720 = h722 at j723 f725 ⊢
      refine x_aload (np := 50) (x := 0) (by decide +kernel) rfl (x_nc_le (by decide)) ?_
      refine x_const (np := 52) (x := 9223372215095918633) (a := 2147483689) (by decide +kernel) (by decide) (by decide) ?_
      refine x_cI (t := 6) (mj := 173) (n := 2) (rc := 12) (ml := 2) (nr := 0) (np := 55) (as := [x_r 75, iv_c 2147483689]) (rest := []) (lo1 := [x_r 75, iv_c 2147483689]) (by decide +kernel) (by decide) (by decide +kernel) (x_rb_of (by decide +kernel)) rfl rfl (x_wr (by decide) (x_wi (by decide) x_wn)) x_wn (by decide) rfl (c173_75 j723  (by omega)) (fun v726 h729 l727 q728 => ?_)
      obtain ⟨j730, f731, b732, c733, c734⟩ := q728
      have f735 := Fr.trans f725 f731 (by decide)
      have q736 : h722 75 7 = h689 75 7 := by rw [← e724]; exact x_up_i (by omega)
      have b737 := jB (e := 7) 0 j730 rg_75_7_0_1 (by omega) (by omega)
      have q738 : h722 75 7 = h689 75 7 := by rw [← e724]; exact x_up_i (by omega)
      have q739 : h729 75 13 = h722 75 13 := jK 0 f731 rg_75_13_0_1 (by omega) (by omega) (by decide)
      have q740 : h722 75 13 = h689 75 13 := by rw [← e724]; exact x_up_i (by omega)
      have q741 : h729 75 10 = h722 75 10 := jK 0 f731 rg_75_10_0_1 (by omega) (by omega) (by decide)
      have q742 : h722 75 10 = v720 := by rw [← e724]; exact x_up_at
      have q743 : h729 75 13 = h722 75 13 := jK 0 f731 rg_75_13_0_1 (by omega) (by omega) (by decide)
      have q744 : h722 75 13 = h689 75 13 := by rw [← e724]; exact x_up_i (by omega)
      have k749 : Kp h h7 (h 75 13 - 2147483648) := Kp.fr Kp.refl f9 (by omega) (by decide)
      have k748 : Kp h h677 (h 75 13 - 2147483648) := by rw [← e679]; exact Kp.oth k749 (by decide)
      have q750 : h677 75 13 = h7 75 13 := by rw [← e679]; exact x_up_i (by omega)
      have q751 : h7 75 13 = h 75 13 := jK 0 f9 rg_75_13_0_1 (by omega) (by omega) (by decide)
      have k747 : Kp h h689 (h 75 13 - 2147483648) := Kp.trans k748 c697 (by omega)
      have k746 : Kp h h722 (h 75 13 - 2147483648) := by rw [← e724]; exact Kp.oth k747 (by decide)
      have k745 : Kp h h729 (h 75 13 - 2147483648) := Kp.fr k746 f731 (by omega) (by decide)
      have q752 : h729 75 13 = h722 75 13 := jK 0 f731 rg_75_13_0_1 (by omega) (by omega) (by decide)
      have q753 : h722 75 13 = h689 75 13 := by rw [← e724]; exact x_up_i (by omega)
      have k755 : Kp h689 h722 (h689 75 13 - 2147483648) := by rw [← e724]; exact Kp.oth Kp.refl (by decide)
      have k754 : Kp h689 h729 (h689 75 13 - 2147483648) := Kp.fr k755 f731 (by omega) (by decide)
      have s756 : Seg (sg h729) (h 75 13 - 2147483648) (h729 75 13 - 2147483648) := Seg.cast (Seg.kp s716 k754) (by omega) (by omega)
      refine x_retI (np := 56) (x := 0) (by decide +kernel) l727 (Or.inr ⟨by decide +kernel, by omega, by omega⟩) ⟨_, rfl, l727, ?_⟩
      exact ⟨j730, f735, (by omega), (fun z => by omega), (fun z => by omega), (fun z => by omega), (fun z => by omega), k745, (fun _ => s756)⟩
    have q711 : ¬ (v686 ≠ 2147483648) := q711
    refine x_const (np := 38) (x := 9223372039002259456) (a := 2147483648) (by decide +kernel) (by decide) (by decide) ?_
    have k759 : Kp h h7 (h 75 13 - 2147483648) := Kp.fr Kp.refl f9 (by omega) (by decide)
    have k758 : Kp h h677 (h 75 13 - 2147483648) := by rw [← e679]; exact Kp.oth k759 (by decide)
    have q760 : h677 75 13 = h7 75 13 := by rw [← e679]; exact x_up_i (by omega)
    have q761 : h7 75 13 = h 75 13 := jK 0 f9 rg_75_13_0_1 (by omega) (by omega) (by decide)
    have k757 : Kp h h689 (h 75 13 - 2147483648) := Kp.trans k758 c697 (by omega)
    refine x_retI (np := 39) (x := 0) (by decide +kernel) (by decide) (Or.inr ⟨by decide +kernel, by omega, by omega⟩) ⟨_, rfl, (by decide), ?_⟩
    exact ⟨j690, f699, (by omega), (fun z => by omega), (fun z => by omega), (fun z => by omega), (fun z => by omega), k757, (fun z => absurd z (by omega))⟩
  have q674 : ¬ ((h 75 10) ≠ 2147483654) := q674
  exfalso; omega
