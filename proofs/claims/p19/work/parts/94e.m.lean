/-! ===== methods ===== -/
set_option maxHeartbeats 0 in
/-- LentNamesModel.readAllOf()Z -/
theorem c191_75_D0 {sc : Nat × Nat} {d  : Nat} {h : xh} (hJ : J h) (hr0 : (h 75 13) + 5 ≤ (h 75 7)) (hr1 : (h 75 10) = 2147483648) : X sc 191 (d + 26) (xI fun r h' => J h' ∧ Fr 97517569 h h' ∧ (2147483648 ≤ r ∧ r ≤ 2147483649) ∧ (r = 2147483649 → h' 75 13 + h 75 7 ≤ h' 75 7 + h 75 13) ∧ (r = 2147483649 → h' 75 10 = h 75 10) ∧ (r = 2147483649 → h 75 7 + 0 ≤ h' 75 7) ∧ (r = 2147483649 → h 75 13 ≤ h' 75 13) ∧ Kp h h' (h 75 13 - 2147483648) ∧ (r = 2147483649 → Seg (sg h') (h 75 13 - 2147483648) (h' 75 13 - 2147483648))) 0 0 0 [x_r 75] [] h := by
  have hF := Fr.refl 97517569 h
  have b1 := jB (e := 13) 0 hJ rg_75_13_0_1 (by omega) (by omega)
  have b2 := jB (e := 7) 0 hJ rg_75_7_0_1 (by omega) (by omega)
  have b3 := jB (e := 10) 0 hJ rg_75_10_0_1 (by omega) (by omega)
  refine x_aload (np := 1) (x := 0) (by decide +kernel) rfl (x_nc_le (by decide)) ?_
  refine x_cI (t := 6) (mj := 190) (n := 1) (rc := 12) (ml := 3) (nr := 0) (np := 4) (as := [x_r 75]) (rest := []) (lo1 := [x_r 75, 147573952589676412928, 147573952589676412928]) (by decide +kernel) (by decide) (by decide +kernel) (x_rb_of (by decide +kernel)) rfl rfl (x_wr (by decide) x_wn) x_wn (by decide) rfl (c190_75_D0 hJ  (by omega) (by omega)) (fun v4 h7 l5 q6 => ?_)
  obtain ⟨j8, f9, b10, c11, c12, c13, c14, c15, c16⟩ := q6
  have f17 := Fr.trans hF f9 (by decide)
  have b18 := jB (e := 13) 0 j8 rg_75_13_0_1 (by omega) (by omega)
  have b19 := jB (e := 7) 0 j8 rg_75_7_0_1 (by omega) (by omega)
  have b20 := jB (e := 10) 0 j8 rg_75_10_0_1 (by omega) (by omega)
  refine x_ifz (k := 1) (tg := 9) (np := 7) (by decide +kernel) (by decide) l5 (fun q21 => ?_) (fun q22 => ?_)
  · have q21 : v4 ≠ 2147483648 := q21
    have b23 := c11 (by omega)
    have b24 := c12 (by omega)
    have b25 := c13 (by omega)
    have b26 := c14 (by omega)
    have s27 := c16 (by omega)
    have p187 : ∀ (n : Nat) (h184 : xh), 4294967296 - h184 75 7 < n → h184 75 13 + h 75 7 ≤ h184 75 7 + h 75 13 → h184 75 10 = h 75 10 → h 75 7 ≤ h184 75 7 → h 75 13 ≤ h184 75 13 → J h184 → Fr 97517569 h7 h184 → Kp h h184 (h 75 13 - 2147483648) → Seg (sg h184) (h 75 13 - 2147483648) (h184 75 13 - 2147483648) → X sc 191 (d + 26) (xI fun r h' => J h' ∧ Fr 97517569 h h' ∧ (2147483648 ≤ r ∧ r ≤ 2147483649) ∧ (r = 2147483649 → h' 75 13 + h 75 7 ≤ h' 75 7 + h 75 13) ∧ (r = 2147483649 → h' 75 10 = h 75 10) ∧ (r = 2147483649 → h 75 7 + 0 ≤ h' 75 7) ∧ (r = 2147483649 → h 75 13 ≤ h' 75 13) ∧ Kp h h' (h 75 13 - 2147483648) ∧ (r = 2147483649 → Seg (sg h') (h 75 13 - 2147483648) (h' 75 13 - 2147483648))) 0 0 9 [x_r 75] [] h184 := by
      intro n
      induction n with
      | zero => intro h184 q194; exact absurd q194 (Nat.not_lt_zero _)
      | succ n i195 =>
        intro h184 q194 b188 b189 b190 b191 j186 f185 m192 m193
        have f196 := Fr.trans f17 f185 (by decide)
        refine x_aload (np := 10) (x := 0) (by decide +kernel) rfl (x_nc_le (by decide)) ?_
        refine x_ldcwB (i := 31) (idx := 257) (tx := "and") (by rw [tb_y191]; exact List.mem_of_getElem? (i := 66) rfl) (by decide) (by rw [tb_b191]; decide +kernel) ?_
        refine x_cI (t := 6) (mj := 171) (n := 2) (rc := 12) (ml := 2) (nr := 0) (np := 16) (as := [x_r 75, x_b (31 + 1)]) (rest := []) (lo1 := [x_r 75, x_b (31 + 1)]) (by decide +kernel) (by decide) (by decide +kernel) (x_rb_of (by decide +kernel)) rfl rfl (x_wr (by decide) (x_wB (by decide) x_wn)) x_wn (by decide) rfl (c171_75_S0 j186  (by decide)) (fun v197 h200 l198 q199 => ?_)
        obtain ⟨j201, f202, b203, c204, c205⟩ := q199
        have f206 := Fr.trans f196 f202 (by decide)
        have f207 := Fr.trans f185 f202 (by decide)
        have b208 := jB (e := 7) 0 j186 rg_75_7_0_1 (by omega) (by omega)
        have b209 := jB (e := 7) 0 j201 rg_75_7_0_1 (by omega) (by omega)
        refine x_ifz (k := 0) (tg := 38) (np := 19) (by decide +kernel) (by decide) l198 (fun q210 => ?_) (fun q211 => ?_)
        · have q210 : v197 = 2147483648 := q210
          refine x_const (np := 39) (x := 9223372043297226753) (a := 2147483649) (by decide +kernel) (by decide) (by decide) ?_
          have q212 : h200 75 13 = h184 75 13 := jK 0 f202 rg_75_13_0_1 (by omega) (by omega) (by decide)
          have b213 := jB (e := 13) 0 j186 rg_75_13_0_1 (by omega) (by omega)
          have q214 : h200 75 10 = h184 75 10 := jK 0 f202 rg_75_10_0_1 (by omega) (by omega) (by decide)
          have b215 := jB (e := 10) 0 j186 rg_75_10_0_1 (by omega) (by omega)
          have q216 : h200 75 13 = h184 75 13 := jK 0 f202 rg_75_13_0_1 (by omega) (by omega) (by decide)
          have k218 : Kp h h184 (h 75 13 - 2147483648) := Kp.less m192 (by omega)
          have k217 : Kp h h200 (h 75 13 - 2147483648) := Kp.fr k218 f202 (by omega) (by decide)
          have q219 : h200 75 13 = h184 75 13 := jK 0 f202 rg_75_13_0_1 (by omega) (by omega) (by decide)
          have k220 : Kp h184 h200 (h184 75 13 - 2147483648) := Kp.fr Kp.refl f202 (by omega) (by decide)
          have s221 : Seg (sg h200) (h 75 13 - 2147483648) (h200 75 13 - 2147483648) := Seg.cast (Seg.kp m193 k220) (by omega) (by omega)
          refine x_retI (np := 40) (x := 0) (by decide +kernel) (by decide) (Or.inr ⟨by decide +kernel, by omega, by omega⟩) ⟨_, rfl, (by decide), ?_⟩
          exact ⟨j201, f206, (by omega), (fun z => by omega), (fun z => by omega), (fun z => by omega), (fun z => by omega), k217, (fun _ => s221)⟩
        have q211 : ¬ (v197 = 2147483648) := q211
        have b222 := c205 (by omega)
        refine x_aload (np := 20) (x := 0) (by decide +kernel) rfl (x_nc_le (by decide)) ?_
        have q223 : h200 75 10 = h184 75 10 := jK 0 f202 rg_75_10_0_1 (by omega) (by omega) (by decide)
        have b224 := jB (e := 10) 0 j186 rg_75_10_0_1 (by omega) (by omega)
        have q225 : h200 75 13 = h184 75 13 := jK 0 f202 rg_75_13_0_1 (by omega) (by omega) (by decide)
        have b226 := jB (e := 13) 0 j186 rg_75_13_0_1 (by omega) (by omega)
        have q227 : h200 75 10 = h184 75 10 := jK 0 f202 rg_75_10_0_1 (by omega) (by omega) (by decide)
        refine x_cI (t := 6) (mj := 190) (n := 1) (rc := 12) (ml := 3) (nr := 0) (np := 23) (as := [x_r 75]) (rest := []) (lo1 := [x_r 75, 147573952589676412928, 147573952589676412928]) (by decide +kernel) (by decide) (by decide +kernel) (x_rb_of (by decide +kernel)) rfl rfl (x_wr (by decide) x_wn) x_wn (by decide) rfl (c190_75_D0 j201  (by omega) (by omega)) (fun v228 h231 l229 q230 => ?_)
        obtain ⟨j232, f233, b234, c235, c236, c237, c238, c239, c240⟩ := q230
        have f241 := Fr.trans f206 f233 (by decide)
        have f242 := Fr.trans f207 f233 (by decide)
        have q243 : h200 75 13 = h184 75 13 := jK 0 f202 rg_75_13_0_1 (by omega) (by omega) (by decide)
        have b244 := jB (e := 13) 0 j232 rg_75_13_0_1 (by omega) (by omega)
        have b245 := jB (e := 7) 0 j232 rg_75_7_0_1 (by omega) (by omega)
        have q246 : h200 75 10 = h184 75 10 := jK 0 f202 rg_75_10_0_1 (by omega) (by omega) (by decide)
        have b247 := jB (e := 10) 0 j232 rg_75_10_0_1 (by omega) (by omega)
        have q248 : h200 75 13 = h184 75 13 := jK 0 f202 rg_75_13_0_1 (by omega) (by omega) (by decide)
        refine x_ifz (k := 1) (tg := 28) (np := 26) (by decide +kernel) (by decide) l229 (fun q249 => ?_) (fun q250 => ?_)
        · have q249 : v228 ≠ 2147483648 := q249
          have b251 := c235 (by omega)
          have b252 := c236 (by omega)
          have b253 := c237 (by omega)
          have b254 := c238 (by omega)
          have s255 := c240 (by omega)
          have q256 : h200 75 13 = h184 75 13 := jK 0 f202 rg_75_13_0_1 (by omega) (by omega) (by decide)
          refine x_aload (np := 29) (x := 0) (by decide +kernel) rfl (x_nc_le (by decide)) ?_
          refine x_const (np := 31) (x := 9223372094836834317) (a := 2147483661) (by decide +kernel) (by decide) (by decide) ?_
          refine x_const (np := 32) (x := 9223372039002259456) (a := 2147483648) (by decide +kernel) (by decide) (by decide) ?_
          refine x_nV (t := 6) (mj := 187) (n := 3) (rc := 12) (ml := 3) (nr := 0) (np := 35) (as := [x_r 75, iv_c 2147483661, iv_c 2147483648]) (rest := []) (lo1 := [x_r 75, iv_c 2147483661, iv_c 2147483648]) (by decide +kernel) (by decide) (by decide +kernel) (x_rb_of (by decide +kernel)) rfl rfl (x_wr (by decide) (x_wi (by decide) (x_wi (by decide) x_wn))) x_wn (by decide) rfl ?_
          refine x_aload (np := 1) (x := 0) (by decide +kernel) rfl (x_nc_le (by decide)) ?_
          have q257 : h231 75 1 = 76 := by have z := jB (e := 1) 0 j232 rg_75_1_0_1 (by decide) (by decide); omega
          refine x_getR (np := 4) (x := 705) (f := 1) (q := 76) (by decide +kernel) (by decide) (by decide +kernel) q257 ?_
          refine x_const (np := 7) (x := 9223376986804585600) (a := 2147484800) (by decide +kernel) (by decide) (by decide) ?_
          refine x_const (np := 8) (x := 9223372047592194050) (a := 2147483650) (by decide +kernel) (by decide) (by decide) ?_
          refine x_aload (np := 9) (x := 0) (by decide +kernel) rfl (x_nc_le (by decide)) ?_
          refine x_getC (np := 12) (x := 717) (f := 13) (q := (h231 75 13)) (by decide +kernel) (by decide) (by decide +kernel) rfl (fun l258 => ?_)
          obtain ⟨u259, q260⟩ : ∃ z, (h231 75 13) = 2147483648 + z := ⟨(h231 75 13) - 2147483648, by omega⟩
          refine x_imul (np := 13) (x := 0) (i := 2) (j := u259) (v := (2147483648 + 2 * u259)) (by decide +kernel) (by omega) (by omega) (by omega) (by omega) (by decide) l258 ?_
          refine x_iadd (np := 14) (x := 0) (v := (2147484800 + 2 * u259)) (by decide +kernel) (by decide) (by omega) (by omega) (by omega) ?_
          refine x_iload (np := 15) (x := 1) (by decide +kernel) rfl (by decide) ?_
          refine x_ast (np := 16) (x := 0) (kd := 1) (n := 1952) (i := (1152 + 2 * u259)) (by decide +kernel) (Or.inl rfl) (by decide +kernel) (by omega) (by omega) (by decide) (by decide) (fun z => absurd z (by decide)) ?_
          have j263 := jU (e := (1152 + 2 * u259)) (v := 2147483661) u259 j232 rg_76_1152_2_394 (by omega) (by omega) (by omega)
          have f265 := jF (e := (1152 + 2 * u259)) (v := 2147483661) u259 f241 rg_76_1152_2_394 (by omega) (by omega) (by decide)
          have f266 := jF (e := (1152 + 2 * u259)) (v := 2147483661) u259 f242 rg_76_1152_2_394 (by omega) (by omega) (by decide)
          generalize e264 : x_up h231 76 (1152 + 2 * u259) 2147483661 = h262 at j263 f265 f266 ⊢
          refine x_aload (np := 17) (x := 0) (by decide +kernel) rfl (x_nc_le (by decide)) ?_
          have q267 : h262 75 1 = 76 := by have z := jB (e := 1) 0 j263 rg_75_1_0_1 (by decide) (by decide); omega
          refine x_getR (np := 20) (x := 705) (f := 1) (q := 76) (by decide +kernel) (by decide) (by decide +kernel) q267 ?_
          refine x_const (np := 23) (x := 9223376986804585600) (a := 2147484800) (by decide +kernel) (by decide) (by decide) ?_
          refine x_const (np := 24) (x := 9223372047592194050) (a := 2147483650) (by decide +kernel) (by decide) (by decide) ?_
          refine x_aload (np := 25) (x := 0) (by decide +kernel) rfl (x_nc_le (by decide)) ?_
          have q268 : h262 75 13 = h231 75 13 := by rw [← e264]; exact x_up_k (by decide)
          refine x_getC (np := 28) (x := 717) (f := 13) (q := (h231 75 13)) (by decide +kernel) (by decide) (by decide +kernel) q268 (fun l269 => ?_)
          refine x_imul (np := 29) (x := 0) (i := 2) (j := u259) (v := (2147483648 + 2 * u259)) (by decide +kernel) (by omega) (by omega) (by omega) (by omega) (by decide) l258 ?_
          refine x_iadd (np := 30) (x := 0) (v := (2147484800 + 2 * u259)) (by decide +kernel) (by decide) (by omega) (by omega) (by omega) ?_
          refine x_const (np := 31) (x := 9223372043297226753) (a := 2147483649) (by decide +kernel) (by decide) (by decide) ?_
          refine x_iadd (np := 32) (x := 0) (v := (2147484801 + 2 * u259)) (by decide +kernel) (by omega) (by decide) (by omega) (by omega) ?_
          refine x_iload (np := 33) (x := 2) (by decide +kernel) rfl (by decide) ?_
          refine x_ast (np := 34) (x := 0) (kd := 1) (n := 1952) (i := (1153 + 2 * u259)) (by decide +kernel) (Or.inl rfl) (by decide +kernel) (by omega) (by omega) (by decide) (by decide) (fun z => absurd z (by decide)) ?_
          have j272 := jU (e := (1153 + 2 * u259)) (v := 2147483648) u259 j263 rg_76_1153_2_394 (by omega) (by omega) (by omega)
          have f274 := jF (e := (1153 + 2 * u259)) (v := 2147483648) u259 f265 rg_76_1153_2_394 (by omega) (by omega) (by decide)
          have f275 := jF (e := (1153 + 2 * u259)) (v := 2147483648) u259 f266 rg_76_1153_2_394 (by omega) (by omega) (by decide)
          generalize e273 : x_up h262 76 (1153 + 2 * u259) 2147483648 = h271 at j272 f274 f275 ⊢
          refine x_aload (np := 35) (x := 0) (by decide +kernel) rfl (x_nc_le (by decide)) ?_
          refine x_dup (np := 36) (x := 0) (by decide +kernel) (by have z := x_nc_le (k := 75) (by decide); unfold x_r; omega) ?_
          have q276 : h271 75 13 = h262 75 13 := by rw [← e273]; exact x_up_k (by decide)
          have q277 : h262 75 13 = h231 75 13 := by rw [← e264]; exact x_up_k (by decide)
          refine x_getC (np := 39) (x := 717) (f := 13) (q := (h231 75 13)) (by decide +kernel) (by decide) (by decide +kernel) (q276.trans q277) (fun l278 => ?_)
          refine x_const (np := 40) (x := 9223372043297226753) (a := 2147483649) (by decide +kernel) (by decide) (by decide) ?_
          refine x_iadd (np := 41) (x := 0) (v := (1 + (h231 75 13))) (by decide +kernel) l258 (by decide) (by omega) (by omega) ?_
          refine x_putI (np := 44) (x := 717) (f := 13) (by decide +kernel) (by decide +kernel) (by omega) (Or.inl (by decide)) ?_
          have j280 := jU (e := 13) (v := (1 + (h231 75 13))) 0 j272 rg_75_13_0_1 (by omega) (by omega) (by omega)
          have f282 := jF (e := 13) (v := (1 + (h231 75 13))) 0 f274 rg_75_13_0_1 (by omega) (by omega) (by decide)
          have f283 := jF (e := 13) (v := (1 + (h231 75 13))) 0 f275 rg_75_13_0_1 (by omega) (by omega) (by decide)
          generalize e281 : x_up h271 75 13 (1 + (h231 75 13)) = h279 at j280 f282 f283 ⊢
          refine x_retV (np := 45) (x := 0) (by decide +kernel) (by decide +kernel) ⟨rfl, ?_⟩
          have q284 : h279 75 13 = (1 + (h231 75 13)) := by rw [← e281]; exact x_up_at
          refine x_goto (np := 38) (x := 9) (by decide +kernel) ?_
          have q285 : h279 75 7 = h271 75 7 := by rw [← e281]; exact x_up_i (by omega)
          have q286 : h271 75 7 = h262 75 7 := by rw [← e273]; exact x_up_k (by decide)
          have q287 : h262 75 7 = h231 75 7 := by rw [← e264]; exact x_up_k (by decide)
          have q288 : h279 75 7 = h271 75 7 := by rw [← e281]; exact x_up_i (by omega)
          have q289 : h271 75 7 = h262 75 7 := by rw [← e273]; exact x_up_k (by decide)
          have q290 : h262 75 7 = h231 75 7 := by rw [← e264]; exact x_up_k (by decide)
          have q291 : h279 75 13 = (1 + (h231 75 13)) := by rw [← e281]; exact x_up_at
          have q292 : h279 75 10 = h271 75 10 := by rw [← e281]; exact x_up_i (by omega)
          have q293 : h271 75 10 = h262 75 10 := by rw [← e273]; exact x_up_k (by decide)
          have q294 : h262 75 10 = h231 75 10 := by rw [← e264]; exact x_up_k (by decide)
          have k300 : Kp h h184 (h 75 13 - 2147483648) := Kp.less m192 (by omega)
          have k299 : Kp h h200 (h 75 13 - 2147483648) := Kp.fr k300 f202 (by omega) (by decide)
          have q301 : h200 75 13 = h184 75 13 := jK 0 f202 rg_75_13_0_1 (by omega) (by omega) (by decide)
          have k298 : Kp h h231 (h 75 13 - 2147483648) := Kp.trans k299 c239 (by omega)
          have k297 : Kp h h262 (h 75 13 - 2147483648) := by rw [← e264]; exact Kp.up k298 (by omega) (fun i hi => by omega)
          have k296 : Kp h h271 (h 75 13 - 2147483648) := by rw [← e273]; exact Kp.up k297 (by omega) (fun i hi => by omega)
          have k295 : Kp h h279 (h 75 13 - 2147483648) := by rw [← e281]; exact Kp.oth k296 (by decide)
          have q302 : h279 75 13 = (1 + (h231 75 13)) := by rw [← e281]; exact x_up_at
          have q304 : h279 76 (1152 + 2 * u259) = h271 76 (1152 + 2 * u259) := by rw [← e281]; exact x_up_k (by decide)
          have q305 : h271 76 (1152 + 2 * u259) = h262 76 (1152 + 2 * u259) := by rw [← e273]; exact x_up_i (by omega)
          have q306 : h262 76 (1152 + 2 * u259) = 2147483661 := by rw [← e264]; exact x_up_at
          have k311 : Kp h184 h200 (h184 75 13 - 2147483648) := Kp.fr Kp.refl f202 (by omega) (by decide)
          have q312 : h200 75 13 = h184 75 13 := jK 0 f202 rg_75_13_0_1 (by omega) (by omega) (by decide)
          have k310 : Kp h184 h231 (h184 75 13 - 2147483648) := Kp.trans k311 c239 (by omega)
          have k309 : Kp h184 h262 (h184 75 13 - 2147483648) := by rw [← e264]; exact Kp.up k310 (by omega) (fun i hi => by omega)
          have k308 : Kp h184 h271 (h184 75 13 - 2147483648) := by rw [← e273]; exact Kp.up k309 (by omega) (fun i hi => by omega)
          have k307 : Kp h184 h279 (h184 75 13 - 2147483648) := by rw [← e281]; exact Kp.oth k308 (by decide)
          have k315 : Kp h231 h262 (h231 75 13 - 2147483648) := by rw [← e264]; exact Kp.up Kp.refl (by omega) (fun i hi => by omega)
          have k314 : Kp h231 h271 (h231 75 13 - 2147483648) := by rw [← e273]; exact Kp.up k315 (by omega) (fun i hi => by omega)
          have k313 : Kp h231 h279 (h231 75 13 - 2147483648) := by rw [← e281]; exact Kp.oth k314 (by decide)
          have s303 : Seg (sg h279) (h 75 13 - 2147483648) (u259 + 1) := Seg.bin (Seg.kp m193 k307) (Seg.cast (a' := (h184 75 13 - 2147483648)) (b' := u259) (Seg.kp s255 k313) (by omega) (by omega)) (show 2147483656 < h279 76 (1152 + 2 * u259) by omega) (show h279 76 (1152 + 2 * u259) ≠ 2147483660 by omega)
          have s316 : Seg (sg h279) (h 75 13 - 2147483648) (h279 75 13 - 2147483648) := Seg.cast (Seg.kp s303 Kp.refl) (by omega) (by omega)
          exact i195  h279 (by omega) (by omega) (by omega) (by omega) (by omega) j280 f283 k295 s316
        have q250 : ¬ (v228 ≠ 2147483648) := q250
        refine x_const (np := 27) (x := 9223372039002259456) (a := 2147483648) (by decide +kernel) (by decide) (by decide) ?_
        have k319 : Kp h h184 (h 75 13 - 2147483648) := Kp.less m192 (by omega)
        have k318 : Kp h h200 (h 75 13 - 2147483648) := Kp.fr k319 f202 (by omega) (by decide)
        have q320 : h200 75 13 = h184 75 13 := jK 0 f202 rg_75_13_0_1 (by omega) (by omega) (by decide)
        have k317 : Kp h h231 (h 75 13 - 2147483648) := Kp.trans k318 c239 (by omega)
        refine x_retI (np := 28) (x := 0) (by decide +kernel) (by decide) (Or.inr ⟨by decide +kernel, by omega, by omega⟩) ⟨_, rfl, (by decide), ?_⟩
        exact ⟨j232, f241, (by omega), (fun z => by omega), (fun z => by omega), (fun z => by omega), (fun z => by omega), k317, (fun z => absurd z (by omega))⟩
    have k321 : Kp h h7 (h 75 13 - 2147483648) := Kp.less c15 (by omega)
    have s322 : Seg (sg h7) (h 75 13 - 2147483648) (h7 75 13 - 2147483648) := Seg.cast (Seg.kp s27 Kp.refl) (by omega) (by omega)
    exact p187 _  h7 (Nat.lt_succ_self _) (by omega) (by omega) (by omega) (by omega) j8 (Fr.refl _ _) k321 s322
  have q22 : ¬ (v4 ≠ 2147483648) := q22
  refine x_const (np := 8) (x := 9223372039002259456) (a := 2147483648) (by decide +kernel) (by decide) (by decide) ?_
  have k323 : Kp h h7 (h 75 13 - 2147483648) := Kp.less c15 (by omega)
  refine x_retI (np := 9) (x := 0) (by decide +kernel) (by decide) (Or.inr ⟨by decide +kernel, by omega, by omega⟩) ⟨_, rfl, (by decide), ?_⟩
  exact ⟨j8, f17, (by omega), (fun z => by omega), (fun z => by omega), (fun z => by omega), (fun z => by omega), k323, (fun z => absurd z (by omega))⟩
set_option maxHeartbeats 0 in
/-- LentNamesModel.readCond()Z -/
theorem c192_75_D0 {sc : Nat × Nat} {d  : Nat} {h : xh} (hJ : J h) (hr0 : (h 75 13) + 5 ≤ (h 75 7)) (hr1 : (h 75 10) = 2147483648) : X sc 192 (d + 27) (xI fun r h' => J h' ∧ Fr 97517569 h h' ∧ (2147483648 ≤ r ∧ r ≤ 2147483649) ∧ (r = 2147483649 → h' 75 13 + h 75 7 ≤ h' 75 7 + h 75 13) ∧ (r = 2147483649 → h' 75 10 = h 75 10) ∧ (r = 2147483649 → h 75 7 + 0 ≤ h' 75 7) ∧ (r = 2147483649 → h 75 13 ≤ h' 75 13) ∧ Kp h h' (h 75 13 - 2147483648) ∧ (r = 2147483649 → Seg (sg h') (h 75 13 - 2147483648) (h' 75 13 - 2147483648))) 0 0 0 [x_r 75] [] h := by
  have hF := Fr.refl 97517569 h
  have b1 := jB (e := 13) 0 hJ rg_75_13_0_1 (by omega) (by omega)
  have b2 := jB (e := 7) 0 hJ rg_75_7_0_1 (by omega) (by omega)
  have b3 := jB (e := 10) 0 hJ rg_75_10_0_1 (by omega) (by omega)
  refine x_aload (np := 1) (x := 0) (by decide +kernel) rfl (x_nc_le (by decide)) ?_
  refine x_cI (t := 6) (mj := 191) (n := 1) (rc := 12) (ml := 1) (nr := 0) (np := 4) (as := [x_r 75]) (rest := []) (lo1 := [x_r 75]) (by decide +kernel) (by decide) (by decide +kernel) (x_rb_of (by decide +kernel)) rfl rfl (x_wr (by decide) x_wn) x_wn (by decide) rfl (c191_75_D0 hJ  (by omega) (by omega)) (fun v4 h7 l5 q6 => ?_)
  obtain ⟨j8, f9, b10, c11, c12, c13, c14, c15, c16⟩ := q6
  have f17 := Fr.trans hF f9 (by decide)
  have b18 := jB (e := 13) 0 j8 rg_75_13_0_1 (by omega) (by omega)
  have b19 := jB (e := 7) 0 j8 rg_75_7_0_1 (by omega) (by omega)
  have b20 := jB (e := 10) 0 j8 rg_75_10_0_1 (by omega) (by omega)
  refine x_ifz (k := 1) (tg := 9) (np := 7) (by decide +kernel) (by decide) l5 (fun q21 => ?_) (fun q22 => ?_)
  · have q21 : v4 ≠ 2147483648 := q21
    have b23 := c11 (by omega)
    have b24 := c12 (by omega)
    have b25 := c13 (by omega)
    have b26 := c14 (by omega)
    have s27 := c16 (by omega)
    have p187 : ∀ (n : Nat) (h184 : xh), 4294967296 - h184 75 7 < n → h184 75 13 + h 75 7 ≤ h184 75 7 + h 75 13 → h184 75 10 = h 75 10 → h 75 7 ≤ h184 75 7 → h 75 13 ≤ h184 75 13 → J h184 → Fr 97517569 h7 h184 → Kp h h184 (h 75 13 - 2147483648) → Seg (sg h184) (h 75 13 - 2147483648) (h184 75 13 - 2147483648) → X sc 192 (d + 27) (xI fun r h' => J h' ∧ Fr 97517569 h h' ∧ (2147483648 ≤ r ∧ r ≤ 2147483649) ∧ (r = 2147483649 → h' 75 13 + h 75 7 ≤ h' 75 7 + h 75 13) ∧ (r = 2147483649 → h' 75 10 = h 75 10) ∧ (r = 2147483649 → h 75 7 + 0 ≤ h' 75 7) ∧ (r = 2147483649 → h 75 13 ≤ h' 75 13) ∧ Kp h h' (h 75 13 - 2147483648) ∧ (r = 2147483649 → Seg (sg h') (h 75 13 - 2147483648) (h' 75 13 - 2147483648))) 0 0 9 [x_r 75] [] h184 := by
      intro n
      induction n with
      | zero => intro h184 q194; exact absurd q194 (Nat.not_lt_zero _)
      | succ n i195 =>
        intro h184 q194 b188 b189 b190 b191 j186 f185 m192 m193
        have f196 := Fr.trans f17 f185 (by decide)
        refine x_aload (np := 10) (x := 0) (by decide +kernel) rfl (x_nc_le (by decide)) ?_
        refine x_ldcB (i := 15) (idx := 179) (tx := "or") (by rw [tb_y192]; exact List.mem_of_getElem? (i := 54) rfl) (by decide) (by rw [tb_b192]; decide +kernel) ?_
        refine x_cI (t := 6) (mj := 171) (n := 2) (rc := 12) (ml := 2) (nr := 0) (np := 15) (as := [x_r 75, x_b (15 + 1)]) (rest := []) (lo1 := [x_r 75, x_b (15 + 1)]) (by decide +kernel) (by decide) (by decide +kernel) (x_rb_of (by decide +kernel)) rfl rfl (x_wr (by decide) (x_wB (by decide) x_wn)) x_wn (by decide) rfl (c171_75_S0 j186  (by decide)) (fun v197 h200 l198 q199 => ?_)
        obtain ⟨j201, f202, b203, c204, c205⟩ := q199
        have f206 := Fr.trans f196 f202 (by decide)
        have f207 := Fr.trans f185 f202 (by decide)
        have b208 := jB (e := 7) 0 j186 rg_75_7_0_1 (by omega) (by omega)
        have b209 := jB (e := 7) 0 j201 rg_75_7_0_1 (by omega) (by omega)
        refine x_ifz (k := 0) (tg := 37) (np := 18) (by decide +kernel) (by decide) l198 (fun q210 => ?_) (fun q211 => ?_)
        · have q210 : v197 = 2147483648 := q210
          refine x_const (np := 38) (x := 9223372043297226753) (a := 2147483649) (by decide +kernel) (by decide) (by decide) ?_
          have q212 : h200 75 13 = h184 75 13 := jK 0 f202 rg_75_13_0_1 (by omega) (by omega) (by decide)
          have b213 := jB (e := 13) 0 j186 rg_75_13_0_1 (by omega) (by omega)
          have q214 : h200 75 10 = h184 75 10 := jK 0 f202 rg_75_10_0_1 (by omega) (by omega) (by decide)
          have b215 := jB (e := 10) 0 j186 rg_75_10_0_1 (by omega) (by omega)
          have q216 : h200 75 13 = h184 75 13 := jK 0 f202 rg_75_13_0_1 (by omega) (by omega) (by decide)
          have k218 : Kp h h184 (h 75 13 - 2147483648) := Kp.less m192 (by omega)
          have k217 : Kp h h200 (h 75 13 - 2147483648) := Kp.fr k218 f202 (by omega) (by decide)
          have q219 : h200 75 13 = h184 75 13 := jK 0 f202 rg_75_13_0_1 (by omega) (by omega) (by decide)
          have k220 : Kp h184 h200 (h184 75 13 - 2147483648) := Kp.fr Kp.refl f202 (by omega) (by decide)
          have s221 : Seg (sg h200) (h 75 13 - 2147483648) (h200 75 13 - 2147483648) := Seg.cast (Seg.kp m193 k220) (by omega) (by omega)
          refine x_retI (np := 39) (x := 0) (by decide +kernel) (by decide) (Or.inr ⟨by decide +kernel, by omega, by omega⟩) ⟨_, rfl, (by decide), ?_⟩
          exact ⟨j201, f206, (by omega), (fun z => by omega), (fun z => by omega), (fun z => by omega), (fun z => by omega), k217, (fun _ => s221)⟩
        have q211 : ¬ (v197 = 2147483648) := q211
        have b222 := c205 (by omega)
        refine x_aload (np := 19) (x := 0) (by decide +kernel) rfl (x_nc_le (by decide)) ?_
        have q223 : h200 75 10 = h184 75 10 := jK 0 f202 rg_75_10_0_1 (by omega) (by omega) (by decide)
        have b224 := jB (e := 10) 0 j186 rg_75_10_0_1 (by omega) (by omega)
        have q225 : h200 75 13 = h184 75 13 := jK 0 f202 rg_75_13_0_1 (by omega) (by omega) (by decide)
        have b226 := jB (e := 13) 0 j186 rg_75_13_0_1 (by omega) (by omega)
        have q227 : h200 75 10 = h184 75 10 := jK 0 f202 rg_75_10_0_1 (by omega) (by omega) (by decide)
        refine x_cI (t := 6) (mj := 191) (n := 1) (rc := 12) (ml := 1) (nr := 0) (np := 22) (as := [x_r 75]) (rest := []) (lo1 := [x_r 75]) (by decide +kernel) (by decide) (by decide +kernel) (x_rb_of (by decide +kernel)) rfl rfl (x_wr (by decide) x_wn) x_wn (by decide) rfl (c191_75_D0 j201  (by omega) (by omega)) (fun v228 h231 l229 q230 => ?_)
        obtain ⟨j232, f233, b234, c235, c236, c237, c238, c239, c240⟩ := q230
        have f241 := Fr.trans f206 f233 (by decide)
        have f242 := Fr.trans f207 f233 (by decide)
        have q243 : h200 75 13 = h184 75 13 := jK 0 f202 rg_75_13_0_1 (by omega) (by omega) (by decide)
        have b244 := jB (e := 13) 0 j232 rg_75_13_0_1 (by omega) (by omega)
        have b245 := jB (e := 7) 0 j232 rg_75_7_0_1 (by omega) (by omega)
        have q246 : h200 75 10 = h184 75 10 := jK 0 f202 rg_75_10_0_1 (by omega) (by omega) (by decide)
        have b247 := jB (e := 10) 0 j232 rg_75_10_0_1 (by omega) (by omega)
        have q248 : h200 75 13 = h184 75 13 := jK 0 f202 rg_75_13_0_1 (by omega) (by omega) (by decide)
        refine x_ifz (k := 1) (tg := 27) (np := 25) (by decide +kernel) (by decide) l229 (fun q249 => ?_) (fun q250 => ?_)
        · have q249 : v228 ≠ 2147483648 := q249
          have b251 := c235 (by omega)
          have b252 := c236 (by omega)
          have b253 := c237 (by omega)
          have b254 := c238 (by omega)
          have s255 := c240 (by omega)
          have q256 : h200 75 13 = h184 75 13 := jK 0 f202 rg_75_13_0_1 (by omega) (by omega) (by decide)
          refine x_aload (np := 28) (x := 0) (by decide +kernel) rfl (x_nc_le (by decide)) ?_
          refine x_const (np := 30) (x := 9223372099131801614) (a := 2147483662) (by decide +kernel) (by decide) (by decide) ?_
          refine x_const (np := 31) (x := 9223372039002259456) (a := 2147483648) (by decide +kernel) (by decide) (by decide) ?_
          refine x_nV (t := 6) (mj := 187) (n := 3) (rc := 12) (ml := 3) (nr := 0) (np := 34) (as := [x_r 75, iv_c 2147483662, iv_c 2147483648]) (rest := []) (lo1 := [x_r 75, iv_c 2147483662, iv_c 2147483648]) (by decide +kernel) (by decide) (by decide +kernel) (x_rb_of (by decide +kernel)) rfl rfl (x_wr (by decide) (x_wi (by decide) (x_wi (by decide) x_wn))) x_wn (by decide) rfl ?_
          refine x_aload (np := 1) (x := 0) (by decide +kernel) rfl (x_nc_le (by decide)) ?_
          have q257 : h231 75 1 = 76 := by have z := jB (e := 1) 0 j232 rg_75_1_0_1 (by decide) (by decide); omega
          refine x_getR (np := 4) (x := 705) (f := 1) (q := 76) (by decide +kernel) (by decide) (by decide +kernel) q257 ?_
          refine x_const (np := 7) (x := 9223376986804585600) (a := 2147484800) (by decide +kernel) (by decide) (by decide) ?_
          refine x_const (np := 8) (x := 9223372047592194050) (a := 2147483650) (by decide +kernel) (by decide) (by decide) ?_
          refine x_aload (np := 9) (x := 0) (by decide +kernel) rfl (x_nc_le (by decide)) ?_
          refine x_getC (np := 12) (x := 717) (f := 13) (q := (h231 75 13)) (by decide +kernel) (by decide) (by decide +kernel) rfl (fun l258 => ?_)
          obtain ⟨u259, q260⟩ : ∃ z, (h231 75 13) = 2147483648 + z := ⟨(h231 75 13) - 2147483648, by omega⟩
          refine x_imul (np := 13) (x := 0) (i := 2) (j := u259) (v := (2147483648 + 2 * u259)) (by decide +kernel) (by omega) (by omega) (by omega) (by omega) (by decide) l258 ?_
          refine x_iadd (np := 14) (x := 0) (v := (2147484800 + 2 * u259)) (by decide +kernel) (by decide) (by omega) (by omega) (by omega) ?_
          refine x_iload (np := 15) (x := 1) (by decide +kernel) rfl (by decide) ?_
          refine x_ast (np := 16) (x := 0) (kd := 1) (n := 1952) (i := (1152 + 2 * u259)) (by decide +kernel) (Or.inl rfl) (by decide +kernel) (by omega) (by omega) (by decide) (by decide) (fun z => absurd z (by decide)) ?_
          have j263 := jU (e := (1152 + 2 * u259)) (v := 2147483662) u259 j232 rg_76_1152_2_394 (by omega) (by omega) (by omega)
          have f265 := jF (e := (1152 + 2 * u259)) (v := 2147483662) u259 f241 rg_76_1152_2_394 (by omega) (by omega) (by decide)
          have f266 := jF (e := (1152 + 2 * u259)) (v := 2147483662) u259 f242 rg_76_1152_2_394 (by omega) (by omega) (by decide)
          generalize e264 : x_up h231 76 (1152 + 2 * u259) 2147483662 = h262 at j263 f265 f266 ⊢
          refine x_aload (np := 17) (x := 0) (by decide +kernel) rfl (x_nc_le (by decide)) ?_
          have q267 : h262 75 1 = 76 := by have z := jB (e := 1) 0 j263 rg_75_1_0_1 (by decide) (by decide); omega
          refine x_getR (np := 20) (x := 705) (f := 1) (q := 76) (by decide +kernel) (by decide) (by decide +kernel) q267 ?_
          refine x_const (np := 23) (x := 9223376986804585600) (a := 2147484800) (by decide +kernel) (by decide) (by decide) ?_
          refine x_const (np := 24) (x := 9223372047592194050) (a := 2147483650) (by decide +kernel) (by decide) (by decide) ?_
          refine x_aload (np := 25) (x := 0) (by decide +kernel) rfl (x_nc_le (by decide)) ?_
          have q268 : h262 75 13 = h231 75 13 := by rw [← e264]; exact x_up_k (by decide)
          refine x_getC (np := 28) (x := 717) (f := 13) (q := (h231 75 13)) (by decide +kernel) (by decide) (by decide +kernel) q268 (fun l269 => ?_)
          refine x_imul (np := 29) (x := 0) (i := 2) (j := u259) (v := (2147483648 + 2 * u259)) (by decide +kernel) (by omega) (by omega) (by omega) (by omega) (by decide) l258 ?_
          refine x_iadd (np := 30) (x := 0) (v := (2147484800 + 2 * u259)) (by decide +kernel) (by decide) (by omega) (by omega) (by omega) ?_
          refine x_const (np := 31) (x := 9223372043297226753) (a := 2147483649) (by decide +kernel) (by decide) (by decide) ?_
          refine x_iadd (np := 32) (x := 0) (v := (2147484801 + 2 * u259)) (by decide +kernel) (by omega) (by decide) (by omega) (by omega) ?_
          refine x_iload (np := 33) (x := 2) (by decide +kernel) rfl (by decide) ?_
          refine x_ast (np := 34) (x := 0) (kd := 1) (n := 1952) (i := (1153 + 2 * u259)) (by decide +kernel) (Or.inl rfl) (by decide +kernel) (by omega) (by omega) (by decide) (by decide) (fun z => absurd z (by decide)) ?_
          have j272 := jU (e := (1153 + 2 * u259)) (v := 2147483648) u259 j263 rg_76_1153_2_394 (by omega) (by omega) (by omega)
          have f274 := jF (e := (1153 + 2 * u259)) (v := 2147483648) u259 f265 rg_76_1153_2_394 (by omega) (by omega) (by decide)
          have f275 := jF (e := (1153 + 2 * u259)) (v := 2147483648) u259 f266 rg_76_1153_2_394 (by omega) (by omega) (by decide)
          generalize e273 : x_up h262 76 (1153 + 2 * u259) 2147483648 = h271 at j272 f274 f275 ⊢
          refine x_aload (np := 35) (x := 0) (by decide +kernel) rfl (x_nc_le (by decide)) ?_
          refine x_dup (np := 36) (x := 0) (by decide +kernel) (by have z := x_nc_le (k := 75) (by decide); unfold x_r; omega) ?_
          have q276 : h271 75 13 = h262 75 13 := by rw [← e273]; exact x_up_k (by decide)
          have q277 : h262 75 13 = h231 75 13 := by rw [← e264]; exact x_up_k (by decide)
          refine x_getC (np := 39) (x := 717) (f := 13) (q := (h231 75 13)) (by decide +kernel) (by decide) (by decide +kernel) (q276.trans q277) (fun l278 => ?_)
          refine x_const (np := 40) (x := 9223372043297226753) (a := 2147483649) (by decide +kernel) (by decide) (by decide) ?_
          refine x_iadd (np := 41) (x := 0) (v := (1 + (h231 75 13))) (by decide +kernel) l258 (by decide) (by omega) (by omega) ?_
          refine x_putI (np := 44) (x := 717) (f := 13) (by decide +kernel) (by decide +kernel) (by omega) (Or.inl (by decide)) ?_
          have j280 := jU (e := 13) (v := (1 + (h231 75 13))) 0 j272 rg_75_13_0_1 (by omega) (by omega) (by omega)
          have f282 := jF (e := 13) (v := (1 + (h231 75 13))) 0 f274 rg_75_13_0_1 (by omega) (by omega) (by decide)
          have f283 := jF (e := 13) (v := (1 + (h231 75 13))) 0 f275 rg_75_13_0_1 (by omega) (by omega) (by decide)
          generalize e281 : x_up h271 75 13 (1 + (h231 75 13)) = h279 at j280 f282 f283 ⊢
          refine x_retV (np := 45) (x := 0) (by decide +kernel) (by decide +kernel) ⟨rfl, ?_⟩
          have q284 : h279 75 13 = (1 + (h231 75 13)) := by rw [← e281]; exact x_up_at
          refine x_goto (np := 37) (x := 9) (by decide +kernel) ?_
          have q285 : h279 75 7 = h271 75 7 := by rw [← e281]; exact x_up_i (by omega)
          have q286 : h271 75 7 = h262 75 7 := by rw [← e273]; exact x_up_k (by decide)
          have q287 : h262 75 7 = h231 75 7 := by rw [← e264]; exact x_up_k (by decide)
          have q288 : h279 75 7 = h271 75 7 := by rw [← e281]; exact x_up_i (by omega)
          have q289 : h271 75 7 = h262 75 7 := by rw [← e273]; exact x_up_k (by decide)
          have q290 : h262 75 7 = h231 75 7 := by rw [← e264]; exact x_up_k (by decide)
          have q291 : h279 75 13 = (1 + (h231 75 13)) := by rw [← e281]; exact x_up_at
          have q292 : h279 75 10 = h271 75 10 := by rw [← e281]; exact x_up_i (by omega)
          have q293 : h271 75 10 = h262 75 10 := by rw [← e273]; exact x_up_k (by decide)
          have q294 : h262 75 10 = h231 75 10 := by rw [← e264]; exact x_up_k (by decide)
          have k300 : Kp h h184 (h 75 13 - 2147483648) := Kp.less m192 (by omega)
          have k299 : Kp h h200 (h 75 13 - 2147483648) := Kp.fr k300 f202 (by omega) (by decide)
          have q301 : h200 75 13 = h184 75 13 := jK 0 f202 rg_75_13_0_1 (by omega) (by omega) (by decide)
          have k298 : Kp h h231 (h 75 13 - 2147483648) := Kp.trans k299 c239 (by omega)
          have k297 : Kp h h262 (h 75 13 - 2147483648) := by rw [← e264]; exact Kp.up k298 (by omega) (fun i hi => by omega)
          have k296 : Kp h h271 (h 75 13 - 2147483648) := by rw [← e273]; exact Kp.up k297 (by omega) (fun i hi => by omega)
          have k295 : Kp h h279 (h 75 13 - 2147483648) := by rw [← e281]; exact Kp.oth k296 (by decide)
          have q302 : h279 75 13 = (1 + (h231 75 13)) := by rw [← e281]; exact x_up_at
          have q304 : h279 76 (1152 + 2 * u259) = h271 76 (1152 + 2 * u259) := by rw [← e281]; exact x_up_k (by decide)
          have q305 : h271 76 (1152 + 2 * u259) = h262 76 (1152 + 2 * u259) := by rw [← e273]; exact x_up_i (by omega)
          have q306 : h262 76 (1152 + 2 * u259) = 2147483662 := by rw [← e264]; exact x_up_at
          have k311 : Kp h184 h200 (h184 75 13 - 2147483648) := Kp.fr Kp.refl f202 (by omega) (by decide)
          have q312 : h200 75 13 = h184 75 13 := jK 0 f202 rg_75_13_0_1 (by omega) (by omega) (by decide)
          have k310 : Kp h184 h231 (h184 75 13 - 2147483648) := Kp.trans k311 c239 (by omega)
          have k309 : Kp h184 h262 (h184 75 13 - 2147483648) := by rw [← e264]; exact Kp.up k310 (by omega) (fun i hi => by omega)
          have k308 : Kp h184 h271 (h184 75 13 - 2147483648) := by rw [← e273]; exact Kp.up k309 (by omega) (fun i hi => by omega)
          have k307 : Kp h184 h279 (h184 75 13 - 2147483648) := by rw [← e281]; exact Kp.oth k308 (by decide)
          have k315 : Kp h231 h262 (h231 75 13 - 2147483648) := by rw [← e264]; exact Kp.up Kp.refl (by omega) (fun i hi => by omega)
          have k314 : Kp h231 h271 (h231 75 13 - 2147483648) := by rw [← e273]; exact Kp.up k315 (by omega) (fun i hi => by omega)
          have k313 : Kp h231 h279 (h231 75 13 - 2147483648) := by rw [← e281]; exact Kp.oth k314 (by decide)
          have s303 : Seg (sg h279) (h 75 13 - 2147483648) (u259 + 1) := Seg.bin (Seg.kp m193 k307) (Seg.cast (a' := (h184 75 13 - 2147483648)) (b' := u259) (Seg.kp s255 k313) (by omega) (by omega)) (show 2147483656 < h279 76 (1152 + 2 * u259) by omega) (show h279 76 (1152 + 2 * u259) ≠ 2147483660 by omega)
          have s316 : Seg (sg h279) (h 75 13 - 2147483648) (h279 75 13 - 2147483648) := Seg.cast (Seg.kp s303 Kp.refl) (by omega) (by omega)
          exact i195  h279 (by omega) (by omega) (by omega) (by omega) (by omega) j280 f283 k295 s316
        have q250 : ¬ (v228 ≠ 2147483648) := q250
        refine x_const (np := 26) (x := 9223372039002259456) (a := 2147483648) (by decide +kernel) (by decide) (by decide) ?_
        have k319 : Kp h h184 (h 75 13 - 2147483648) := Kp.less m192 (by omega)
        have k318 : Kp h h200 (h 75 13 - 2147483648) := Kp.fr k319 f202 (by omega) (by decide)
        have q320 : h200 75 13 = h184 75 13 := jK 0 f202 rg_75_13_0_1 (by omega) (by omega) (by decide)
        have k317 : Kp h h231 (h 75 13 - 2147483648) := Kp.trans k318 c239 (by omega)
        refine x_retI (np := 27) (x := 0) (by decide +kernel) (by decide) (Or.inr ⟨by decide +kernel, by omega, by omega⟩) ⟨_, rfl, (by decide), ?_⟩
        exact ⟨j232, f241, (by omega), (fun z => by omega), (fun z => by omega), (fun z => by omega), (fun z => by omega), k317, (fun z => absurd z (by omega))⟩
    have k321 : Kp h h7 (h 75 13 - 2147483648) := Kp.less c15 (by omega)
    have s322 : Seg (sg h7) (h 75 13 - 2147483648) (h7 75 13 - 2147483648) := Seg.cast (Seg.kp s27 Kp.refl) (by omega) (by omega)
    exact p187 _  h7 (Nat.lt_succ_self _) (by omega) (by omega) (by omega) (by omega) j8 (Fr.refl _ _) k321 s322
  have q22 : ¬ (v4 ≠ 2147483648) := q22
  refine x_const (np := 8) (x := 9223372039002259456) (a := 2147483648) (by decide +kernel) (by decide) (by decide) ?_
  have k323 : Kp h h7 (h 75 13 - 2147483648) := Kp.less c15 (by omega)
  refine x_retI (np := 9) (x := 0) (by decide +kernel) (by decide) (Or.inr ⟨by decide +kernel, by omega, by omega⟩) ⟨_, rfl, (by decide), ?_⟩
  exact ⟨j8, f17, (by omega), (fun z => by omega), (fun z => by omega), (fun z => by omega), (fun z => by omega), k323, (fun z => absurd z (by omega))⟩
set_option maxHeartbeats 0 in
/-- LentNamesModel.readCustomLine(I)Z -/
theorem c193_75 {sc : Nat × Nat} {d a1 : Nat} {h : xh} (hJ : J h) (ba1 : 2147483648 ≤ a1 ∧ a1 ≤ 2147483657) (hr0 : (h 75 13) ≤ (h 75 9)) : X sc 193 (d + 28) (xI fun r h' => J h' ∧ Fr 97517569 h h' ∧ (2147483648 ≤ r ∧ r ≤ 2147483649) ∧ (r = 2147483649 → h' 75 13 ≤ h' 75 7) ∧ Kq h h' (h 75 13 - 2147483648) ∧ Kl h h' (a1 - 2147483648) ∧ (r = 2147483649 → Lg h' (a1 - 2147483648) ∧ h' 76 (1124 + 3 * (a1 - 2147483648)) = h' 75 13 ∧ h 75 13 ≤ h' 75 13)) 0 0 0 [x_r 75, iv_c a1, 147573952589676412928] [] h := by
  have la1 : a1 < 4294967296 := by omega
  have hF := Fr.refl 97517569 h
  have b1 := jB (e := 13) 0 hJ rg_75_13_0_1 (by omega) (by omega)
  have b2 := jB (e := 9) 0 hJ rg_75_9_0_1 (by omega) (by omega)
  refine x_const (np := 3) (x := 9223376857955566690) (a := 2147484770) (by decide +kernel) (by decide) (by decide) ?_
  refine x_const (np := 4) (x := 9223372051887161347) (a := 2147483651) (by decide +kernel) (by decide) (by decide) ?_
  refine x_iload (np := 5) (x := 1) (by decide +kernel) rfl la1 ?_
  obtain ⟨u3, q4⟩ : ∃ z, a1 = 2147483648 + z := ⟨a1 - 2147483648, by omega⟩
  refine x_imul (np := 6) (x := 0) (i := 3) (j := u3) (v := (2147483648 + 3 * u3)) (by decide +kernel) (by omega) (by omega) (by omega) (by omega) (by decide) la1 ?_
  refine x_iadd (np := 7) (x := 0) (v := (2147484770 + 3 * u3)) (by decide +kernel) (by decide) (by omega) (by omega) (by omega) ?_
  refine x_istore (np := 8) (x := 2) (lo' := [x_r 75, iv_c a1, iv_c (2147484770 + 3 * u3)]) (by decide +kernel) (by omega) (Nat.le_of_ble_eq_true rfl) rfl ?_
  refine x_aload (np := 9) (x := 0) (by decide +kernel) rfl (x_nc_le (by decide)) ?_
  refine x_ldcwB (i := 22) (idx := 262) (tx := "grant") (by rw [tb_y193]; exact List.mem_of_getElem? (i := 56) rfl) (by decide) (by rw [tb_b193]; decide +kernel) ?_
  refine x_cP (t := 6) (mj := 170) (n := 2) (rc := 12) (ml := 4) (nr := 0) (np := 15) (as := [x_r 75, x_b (22 + 1)]) (rest := []) (lo1 := [x_r 75, x_b (22 + 1), 147573952589676412928, 147573952589676412928]) (by decide +kernel) (by decide) (by decide +kernel) (x_rb_of (by decide +kernel)) rfl rfl (x_wr (by decide) (x_wB (by decide) x_wn)) x_wn (by decide) rfl (c170_75_S0 hJ  (by decide)) (fun v6 l7 q8 => ?_)
  obtain ⟨b10, c9⟩ := q8
  have b11 := jB (e := 7) 0 hJ rg_75_7_0_1 (by omega) (by omega)
  have b12 : iv_tl 22 = 5 := by decide
  refine x_ifz (k := 1) (tg := 30) (np := 18) (by decide +kernel) (by decide) l7 (fun q13 => ?_) (fun q14 => ?_)
  · have q13 : v6 ≠ 2147483648 := q13
    have b15 := c9 (by omega)
    refine x_aload (np := 31) (x := 0) (by decide +kernel) rfl (x_nc_le (by decide)) ?_
    have q16 : h 75 1 = 76 := by have z := jB (e := 1) 0 hJ rg_75_1_0_1 (by decide) (by decide); omega
    refine x_getR (np := 34) (x := 705) (f := 1) (q := 76) (by decide +kernel) (by decide) (by decide +kernel) q16 ?_
    refine x_iload (np := 35) (x := 2) (by decide +kernel) rfl (by omega) ?_
    refine x_aload (np := 36) (x := 0) (by decide +kernel) rfl (x_nc_le (by decide)) ?_
    refine x_ldcwB (i := 22) (idx := 262) (tx := "grant") (by rw [tb_y193]; exact List.mem_of_getElem? (i := 56) rfl) (by decide) (by rw [tb_b193]; decide +kernel) ?_
    refine x_cP (t := 6) (mj := 170) (n := 2) (rc := 12) (ml := 4) (nr := 2) (np := 42) (as := [x_r 75, x_b (22 + 1)]) (rest := [iv_c (2147484770 + 3 * u3), x_r 76]) (lo1 := [x_r 75, x_b (22 + 1), 147573952589676412928, 147573952589676412928]) (by decide +kernel) (by decide) (by decide +kernel) (x_rb_of (by decide +kernel)) rfl rfl (x_wr (by decide) (x_wB (by decide) x_wn)) (x_wi (by omega) (x_wr (by decide) x_wn)) (by decide) rfl (c170_75_S0 hJ  (by decide)) (fun v17 l18 q19 => ?_)
    obtain ⟨b21, c20⟩ := q19
    have b22 : iv_tl 22 = 5 := by decide
    refine x_ifz (k := 0) (tg := 49) (np := 45) (by decide +kernel) (by decide) l18 (fun q23 => ?_) (fun q24 => ?_)
    · have q23 : v17 = 2147483648 := q23
      refine x_const (np := 50) (x := 9223372039002259456) (a := 2147483648) (by decide +kernel) (by decide) (by decide) ?_
      refine x_ast (np := 51) (x := 0) (kd := 1) (n := 1952) (i := (1122 + 3 * u3)) (by decide +kernel) (Or.inl rfl) (by decide +kernel) (by omega) (by omega) (by decide) (by decide) (fun z => absurd z (by decide)) ?_
      have j26 := jU (e := (1122 + 3 * u3)) (v := 2147483648) u3 hJ rg_76_1122_3_10 (by omega) (by omega) (by omega)
      have f28 := jF (e := (1122 + 3 * u3)) (v := 2147483648) u3 hF rg_76_1122_3_10 (by omega) (by omega) (by decide)
      generalize e27 : x_up h 76 (1122 + 3 * u3) 2147483648 = h25 at j26 f28 ⊢
      refine x_aload (np := 52) (x := 0) (by decide +kernel) rfl (x_nc_le (by decide)) ?_
      have q29 : h25 75 1 = 76 := by have z := jB (e := 1) 0 j26 rg_75_1_0_1 (by decide) (by decide); omega
      refine x_getR (np := 55) (x := 705) (f := 1) (q := 76) (by decide +kernel) (by decide) (by decide +kernel) q29 ?_
      refine x_iload (np := 56) (x := 2) (by decide +kernel) rfl (by omega) ?_
      refine x_const (np := 57) (x := 9223372043297226753) (a := 2147483649) (by decide +kernel) (by decide) (by decide) ?_
      refine x_iadd (np := 58) (x := 0) (v := (2147484771 + 3 * u3)) (by decide +kernel) (by omega) (by decide) (by omega) (by omega) ?_
      refine x_aload (np := 59) (x := 0) (by decide +kernel) rfl (x_nc_le (by decide)) ?_
      have q30 : h25 75 13 = h 75 13 := by rw [← e27]; exact x_up_k (by decide)
      refine x_getC (np := 62) (x := 717) (f := 13) (q := (h 75 13)) (by decide +kernel) (by decide) (by decide +kernel) q30 (fun l31 => ?_)
      refine x_ast (np := 63) (x := 0) (kd := 1) (n := 1952) (i := (1123 + 3 * u3)) (by decide +kernel) (Or.inl rfl) (by decide +kernel) (by omega) (by omega) (by decide) l31 (fun z => absurd z (by decide)) ?_
      have j33 := jU (e := (1123 + 3 * u3)) (v := (h 75 13)) u3 j26 rg_76_1123_3_10 (by omega) (by omega) (by omega)
      have f35 := jF (e := (1123 + 3 * u3)) (v := (h 75 13)) u3 f28 rg_76_1123_3_10 (by omega) (by omega) (by decide)
      generalize e34 : x_up h25 76 (1123 + 3 * u3) (h 75 13) = h32 at j33 f35 ⊢
      refine x_aload (np := 64) (x := 0) (by decide +kernel) rfl (x_nc_le (by decide)) ?_
      refine x_const (np := 65) (x := 9223372039002259456) (a := 2147483648) (by decide +kernel) (by decide) (by decide) ?_
      refine x_putI (np := 68) (x := 714) (f := 10) (by decide +kernel) (by decide +kernel) (by decide) (Or.inl (by decide)) ?_
      have j37 := jU (e := 10) (v := 2147483648) 0 j33 rg_75_10_0_1 (by omega) (by omega) (by omega)
      have f39 := jF (e := 10) (v := 2147483648) 0 f35 rg_75_10_0_1 (by omega) (by omega) (by decide)
      generalize e38 : x_up h32 75 10 2147483648 = h36 at j37 f39 ⊢
      refine x_aload (np := 69) (x := 0) (by decide +kernel) rfl (x_nc_le (by decide)) ?_
      refine x_ldcwB (i := 23) (idx := 266) (tx := "if") (by rw [tb_y193]; exact List.mem_of_getElem? (i := 58) rfl) (by decide) (by rw [tb_b193]; decide +kernel) ?_
      refine x_cI (t := 6) (mj := 171) (n := 2) (rc := 12) (ml := 2) (nr := 0) (np := 75) (as := [x_r 75, x_b (23 + 1)]) (rest := []) (lo1 := [x_r 75, x_b (23 + 1)]) (by decide +kernel) (by decide) (by decide +kernel) (x_rb_of (by decide +kernel)) rfl rfl (x_wr (by decide) (x_wB (by decide) x_wn)) x_wn (by decide) rfl (c171_75_S0 j37  (by decide)) (fun v40 h43 l41 q42 => ?_)
      obtain ⟨j44, f45, b46, c47, c48⟩ := q42
      have f49 := Fr.trans f39 f45 (by decide)
      have q50 : h36 75 7 = h32 75 7 := by rw [← e38]; exact x_up_i (by omega)
      have q51 : h32 75 7 = h25 75 7 := by rw [← e34]; exact x_up_k (by decide)
      have q52 : h25 75 7 = h 75 7 := by rw [← e27]; exact x_up_k (by decide)
      have b53 := jB (e := 7) 0 j44 rg_75_7_0_1 (by omega) (by omega)
      have q54 : h36 75 7 = h32 75 7 := by rw [← e38]; exact x_up_i (by omega)
      have q55 : h32 75 7 = h25 75 7 := by rw [← e34]; exact x_up_k (by decide)
      have q56 : h25 75 7 = h 75 7 := by rw [← e27]; exact x_up_k (by decide)
      refine x_ifz (k := 0) (tg := 87) (np := 78) (by decide +kernel) (by decide) l41 (fun q57 => ?_) (fun q58 => ?_)
      · have q57 : v40 = 2147483648 := q57
        refine x_aload (np := 88) (x := 0) (by decide +kernel) rfl (x_nc_le (by decide)) ?_
        have q59 : h43 75 1 = 76 := by have z := jB (e := 1) 0 j44 rg_75_1_0_1 (by decide) (by decide); omega
        refine x_getR (np := 91) (x := 705) (f := 1) (q := 76) (by decide +kernel) (by decide) (by decide +kernel) q59 ?_
        refine x_iload (np := 92) (x := 2) (by decide +kernel) rfl (by omega) ?_
        refine x_const (np := 93) (x := 9223372047592194050) (a := 2147483650) (by decide +kernel) (by decide) (by decide) ?_
        refine x_iadd (np := 94) (x := 0) (v := (2147484772 + 3 * u3)) (by decide +kernel) (by omega) (by decide) (by omega) (by omega) ?_
        refine x_aload (np := 95) (x := 0) (by decide +kernel) rfl (x_nc_le (by decide)) ?_
        have q60 : h43 75 13 = h36 75 13 := jK 0 f45 rg_75_13_0_1 (by omega) (by omega) (by decide)
        have q61 : h36 75 13 = h32 75 13 := by rw [← e38]; exact x_up_i (by omega)
        have q62 : h32 75 13 = h25 75 13 := by rw [← e34]; exact x_up_k (by decide)
        have q63 : h25 75 13 = h 75 13 := by rw [← e27]; exact x_up_k (by decide)
        refine x_getC (np := 98) (x := 717) (f := 13) (q := (h 75 13)) (by decide +kernel) (by decide) (by decide +kernel) (((q60.trans q61).trans q62).trans q63) (fun l64 => ?_)
        refine x_ast (np := 99) (x := 0) (kd := 1) (n := 1952) (i := (1124 + 3 * u3)) (by decide +kernel) (Or.inl rfl) (by decide +kernel) (by omega) (by omega) (by decide) l31 (fun z => absurd z (by decide)) ?_
        have j66 := jU (e := (1124 + 3 * u3)) (v := (h 75 13)) u3 j44 rg_76_1124_3_10 (by omega) (by omega) (by omega)
        have f68 := jF (e := (1124 + 3 * u3)) (v := (h 75 13)) u3 f49 rg_76_1124_3_10 (by omega) (by omega) (by decide)
        generalize e67 : x_up h43 76 (1124 + 3 * u3) (h 75 13) = h65 at j66 f68 ⊢
        refine x_const (np := 100) (x := 9223372043297226753) (a := 2147483649) (by decide +kernel) (by decide) (by decide) ?_
        have q69 : h65 75 13 = h43 75 13 := by rw [← e67]; exact x_up_k (by decide)
        have q70 : h43 75 13 = h36 75 13 := jK 0 f45 rg_75_13_0_1 (by omega) (by omega) (by decide)
        have q71 : h36 75 13 = h32 75 13 := by rw [← e38]; exact x_up_i (by omega)
        have q72 : h32 75 13 = h25 75 13 := by rw [← e34]; exact x_up_k (by decide)
        have q73 : h25 75 13 = h 75 13 := by rw [← e27]; exact x_up_k (by decide)
        have q74 : h65 75 7 = h43 75 7 := by rw [← e67]; exact x_up_k (by decide)
        have q75 : h65 75 13 = h43 75 13 := by rw [← e67]; exact x_up_k (by decide)
        have q76 : h43 75 13 = h36 75 13 := jK 0 f45 rg_75_13_0_1 (by omega) (by omega) (by decide)
        have q77 : h36 75 13 = h32 75 13 := by rw [← e38]; exact x_up_i (by omega)
        have q78 : h32 75 13 = h25 75 13 := by rw [← e34]; exact x_up_k (by decide)
        have q79 : h25 75 13 = h 75 13 := by rw [← e27]; exact x_up_k (by decide)
        have k84 : Kq h h25 (h 75 13 - 2147483648) := by rw [← e27]; exact Kq.up Kq.refl (by omega)
        have k83 : Kq h h32 (h 75 13 - 2147483648) := by rw [← e34]; exact Kq.up k84 (by omega)
        have k82 : Kq h h36 (h 75 13 - 2147483648) := by rw [← e38]; exact Kq.oth k83 (by decide)
        have k81 : Kq h h43 (h 75 13 - 2147483648) := Kq.fr k82 f45 (by omega) (by decide)
        have k80 : Kq h h65 (h 75 13 - 2147483648) := by rw [← e67]; exact Kq.up k81 (by omega)
        have k89 : Kl h h25 u3 := by rw [← e27]; exact Kl.up Kl.refl (by omega)
        have k88 : Kl h h32 u3 := by rw [← e34]; exact Kl.up k89 (by omega)
        have k87 : Kl h h36 u3 := by rw [← e38]; exact Kl.oth k88 (by decide)
        have k86 : Kl h h43 u3 := Kl.fr k87 f45 (by omega) (by decide)
        have k85 : Kl h h65 u3 := by rw [← e67]; exact Kl.up k86 (by omega)
        have e91 : a1 - 2147483648 = u3 := by omega
        have k90 : Kl h h65 (a1 - 2147483648) := by rw [e91]; exact k85
        have q92 : h65 76 (1123 + 3 * u3) = h43 76 (1123 + 3 * u3) := by rw [← e67]; exact x_up_i (by omega)
        have q93 : h43 76 (1123 + 3 * u3) = h36 76 (1123 + 3 * u3) := jK u3 f45 rg_76_1123_3_10 (by omega) (by omega) (by decide)
        have q94 : h36 76 (1123 + 3 * u3) = h32 76 (1123 + 3 * u3) := by rw [← e38]; exact x_up_k (by decide)
        have q95 : h32 76 (1123 + 3 * u3) = (h 75 13) := by rw [← e34]; exact x_up_at
        have q96 : h65 76 (1124 + 3 * u3) = (h 75 13) := by rw [← e67]; exact x_up_at
        have g97 : Lg h65 u3 := Or.inl (show h65 76 (1123 + 3 * u3) = h65 76 (1124 + 3 * u3) by omega)
        have g98 : Lg h65 (a1 - 2147483648) ∧ h65 76 (1124 + 3 * (a1 - 2147483648)) = h65 75 13 ∧ h 75 13 ≤ h65 75 13 := by
          rw [e91]
          exact ⟨g97, by omega, by omega⟩
        refine x_retI (np := 101) (x := 0) (by decide +kernel) (by decide) (Or.inr ⟨by decide +kernel, by omega, by omega⟩) ⟨_, rfl, (by decide), ?_⟩
        exact ⟨j66, f68, (by omega), (fun z => by omega), k80, k90, (fun _ => g98)⟩
      have q58 : ¬ (v40 = 2147483648) := q58
      have b99 := c48 (by omega)
      refine x_aload (np := 79) (x := 0) (by decide +kernel) rfl (x_nc_le (by decide)) ?_
      have q100 : h43 75 10 = h36 75 10 := jK 0 f45 rg_75_10_0_1 (by omega) (by omega) (by decide)
      have q101 : h36 75 10 = 2147483648 := by rw [← e38]; exact x_up_at
      have q102 : h43 75 13 = h36 75 13 := jK 0 f45 rg_75_13_0_1 (by omega) (by omega) (by decide)
      have q103 : h36 75 13 = h32 75 13 := by rw [← e38]; exact x_up_i (by omega)
      have q104 : h32 75 13 = h25 75 13 := by rw [← e34]; exact x_up_k (by decide)
      have q105 : h25 75 13 = h 75 13 := by rw [← e27]; exact x_up_k (by decide)
      have q106 : h43 75 10 = h36 75 10 := jK 0 f45 rg_75_10_0_1 (by omega) (by omega) (by decide)
      have q107 : h36 75 10 = 2147483648 := by rw [← e38]; exact x_up_at
      refine x_cI (t := 6) (mj := 192) (n := 1) (rc := 12) (ml := 1) (nr := 0) (np := 82) (as := [x_r 75]) (rest := []) (lo1 := [x_r 75]) (by decide +kernel) (by decide) (by decide +kernel) (x_rb_of (by decide +kernel)) rfl rfl (x_wr (by decide) x_wn) x_wn (by decide) rfl (c192_75_D0 j44  (by omega) (by omega)) (fun v108 h111 l109 q110 => ?_)
      obtain ⟨j112, f113, b114, c115, c116, c117, c118, c119, c120⟩ := q110
      have f121 := Fr.trans f49 f113 (by decide)
      have q122 : h43 75 13 = h36 75 13 := jK 0 f45 rg_75_13_0_1 (by omega) (by omega) (by decide)
      have q123 : h36 75 13 = h32 75 13 := by rw [← e38]; exact x_up_i (by omega)
      have q124 : h32 75 13 = h25 75 13 := by rw [← e34]; exact x_up_k (by decide)
      have q125 : h25 75 13 = h 75 13 := by rw [← e27]; exact x_up_k (by decide)
      have b126 := jB (e := 13) 0 j112 rg_75_13_0_1 (by omega) (by omega)
      have b127 := jB (e := 7) 0 j112 rg_75_7_0_1 (by omega) (by omega)
      have q128 : h43 75 10 = h36 75 10 := jK 0 f45 rg_75_10_0_1 (by omega) (by omega) (by decide)
      have q129 : h36 75 10 = 2147483648 := by rw [← e38]; exact x_up_at
      have b130 := jB (e := 10) 0 j112 rg_75_10_0_1 (by omega) (by omega)
      have q131 : h43 75 13 = h36 75 13 := jK 0 f45 rg_75_13_0_1 (by omega) (by omega) (by decide)
      have q132 : h36 75 13 = h32 75 13 := by rw [← e38]; exact x_up_i (by omega)
      have q133 : h32 75 13 = h25 75 13 := by rw [← e34]; exact x_up_k (by decide)
      have q134 : h25 75 13 = h 75 13 := by rw [← e27]; exact x_up_k (by decide)
      refine x_ifz (k := 1) (tg := 87) (np := 85) (by decide +kernel) (by decide) l109 (fun q135 => ?_) (fun q136 => ?_)
      · have q135 : v108 ≠ 2147483648 := q135
        have b137 := c115 (by omega)
        have b138 := c116 (by omega)
        have b139 := c117 (by omega)
        have b140 := c118 (by omega)
        have s141 := c120 (by omega)
        have q142 : h43 75 13 = h36 75 13 := jK 0 f45 rg_75_13_0_1 (by omega) (by omega) (by decide)
        have q143 : h36 75 13 = h32 75 13 := by rw [← e38]; exact x_up_i (by omega)
        have q144 : h32 75 13 = h25 75 13 := by rw [← e34]; exact x_up_k (by decide)
        have q145 : h25 75 13 = h 75 13 := by rw [← e27]; exact x_up_k (by decide)
        refine x_aload (np := 88) (x := 0) (by decide +kernel) rfl (x_nc_le (by decide)) ?_
        have q146 : h111 75 1 = 76 := by have z := jB (e := 1) 0 j112 rg_75_1_0_1 (by decide) (by decide); omega
        refine x_getR (np := 91) (x := 705) (f := 1) (q := 76) (by decide +kernel) (by decide) (by decide +kernel) q146 ?_
        refine x_iload (np := 92) (x := 2) (by decide +kernel) rfl (by omega) ?_
        refine x_const (np := 93) (x := 9223372047592194050) (a := 2147483650) (by decide +kernel) (by decide) (by decide) ?_
        refine x_iadd (np := 94) (x := 0) (v := (2147484772 + 3 * u3)) (by decide +kernel) (by omega) (by decide) (by omega) (by omega) ?_
        refine x_aload (np := 95) (x := 0) (by decide +kernel) rfl (x_nc_le (by decide)) ?_
        refine x_getC (np := 98) (x := 717) (f := 13) (q := (h111 75 13)) (by decide +kernel) (by decide) (by decide +kernel) rfl (fun l147 => ?_)
        refine x_ast (np := 99) (x := 0) (kd := 1) (n := 1952) (i := (1124 + 3 * u3)) (by decide +kernel) (Or.inl rfl) (by decide +kernel) (by omega) (by omega) (by decide) l147 (fun z => absurd z (by decide)) ?_
        have j149 := jU (e := (1124 + 3 * u3)) (v := (h111 75 13)) u3 j112 rg_76_1124_3_10 (by omega) (by omega) (by omega)
        have f151 := jF (e := (1124 + 3 * u3)) (v := (h111 75 13)) u3 f121 rg_76_1124_3_10 (by omega) (by omega) (by decide)
        generalize e150 : x_up h111 76 (1124 + 3 * u3) (h111 75 13) = h148 at j149 f151 ⊢
        refine x_const (np := 100) (x := 9223372043297226753) (a := 2147483649) (by decide +kernel) (by decide) (by decide) ?_
        have q152 : h148 75 13 = h111 75 13 := by rw [← e150]; exact x_up_k (by decide)
        have q153 : h148 75 7 = h111 75 7 := by rw [← e150]; exact x_up_k (by decide)
        have q154 : h148 75 13 = h111 75 13 := by rw [← e150]; exact x_up_k (by decide)
        have k160 : Kq h h25 (h 75 13 - 2147483648) := by rw [← e27]; exact Kq.up Kq.refl (by omega)
        have k159 : Kq h h32 (h 75 13 - 2147483648) := by rw [← e34]; exact Kq.up k160 (by omega)
        have k158 : Kq h h36 (h 75 13 - 2147483648) := by rw [← e38]; exact Kq.oth k159 (by decide)
        have k157 : Kq h h43 (h 75 13 - 2147483648) := Kq.fr k158 f45 (by omega) (by decide)
        have q161 : h43 75 13 = h36 75 13 := jK 0 f45 rg_75_13_0_1 (by omega) (by omega) (by decide)
        have q162 : h36 75 13 = h32 75 13 := by rw [← e38]; exact x_up_i (by omega)
        have q163 : h32 75 13 = h25 75 13 := by rw [← e34]; exact x_up_k (by decide)
        have q164 : h25 75 13 = h 75 13 := by rw [← e27]; exact x_up_k (by decide)
        have k156 : Kq h h111 (h 75 13 - 2147483648) := Kq.kp k157 c119 (by omega)
        have k155 : Kq h h148 (h 75 13 - 2147483648) := by rw [← e150]; exact Kq.up k156 (by omega)
        have k170 : Kl h h25 u3 := by rw [← e27]; exact Kl.up Kl.refl (by omega)
        have k169 : Kl h h32 u3 := by rw [← e34]; exact Kl.up k170 (by omega)
        have k168 : Kl h h36 u3 := by rw [← e38]; exact Kl.oth k169 (by decide)
        have k167 : Kl h h43 u3 := Kl.fr k168 f45 (by omega) (by decide)
        have k166 : Kl h h111 u3 := Kl.kp k167 c119 (by omega)
        have k165 : Kl h h148 u3 := by rw [← e150]; exact Kl.up k166 (by omega)
        have e172 : a1 - 2147483648 = u3 := by omega
        have k171 : Kl h h148 (a1 - 2147483648) := by rw [e172]; exact k165
        have q173 : h148 76 (1123 + 3 * u3) = h111 76 (1123 + 3 * u3) := by rw [← e150]; exact x_up_i (by omega)
        have b174 := jB (e := (1123 + 3 * u3)) u3 j112 rg_76_1123_3_10 (by omega) (by omega)
        have q175 : h148 76 (1124 + 3 * u3) = (h111 75 13) := by rw [← e150]; exact x_up_at
        have k177 : Kq h111 h148 (h111 75 13 - 2147483648) := by rw [← e150]; exact Kq.up Kq.refl (by omega)
        have q178 := c119.2 (1123 + 3 * u3) (by omega) (by omega)
        have q179 : h43 76 (1123 + 3 * u3) = h36 76 (1123 + 3 * u3) := jK u3 f45 rg_76_1123_3_10 (by omega) (by omega) (by decide)
        have q180 : h36 76 (1123 + 3 * u3) = h32 76 (1123 + 3 * u3) := by rw [← e38]; exact x_up_k (by decide)
        have q181 : h32 76 (1123 + 3 * u3) = (h 75 13) := by rw [← e34]; exact x_up_at
        have g176 : Lg h148 u3 := Or.inr (Seg.cast (a' := h148 76 (1123 + 3 * u3) - 2147483648) (b' := h148 76 (1124 + 3 * u3) - 2147483648) (Seg.kq s141 k177) (by rw [show h148 76 (1123 + 3 * u3) = h43 75 13 by omega]) (by rw [show h148 76 (1124 + 3 * u3) = h111 75 13 by omega]))
        have g182 : Lg h148 (a1 - 2147483648) ∧ h148 76 (1124 + 3 * (a1 - 2147483648)) = h148 75 13 ∧ h 75 13 ≤ h148 75 13 := by
          rw [e172]
          exact ⟨g176, by omega, by omega⟩
        refine x_retI (np := 101) (x := 0) (by decide +kernel) (by decide) (Or.inr ⟨by decide +kernel, by omega, by omega⟩) ⟨_, rfl, (by decide), ?_⟩
        exact ⟨j149, f151, (by omega), (fun z => by omega), k155, k171, (fun _ => g182)⟩
      have q136 : ¬ (v108 ≠ 2147483648) := q136
      refine x_const (np := 86) (x := 9223372039002259456) (a := 2147483648) (by decide +kernel) (by decide) (by decide) ?_
      have k187 : Kq h h25 (h 75 13 - 2147483648) := by rw [← e27]; exact Kq.up Kq.refl (by omega)
      have k186 : Kq h h32 (h 75 13 - 2147483648) := by rw [← e34]; exact Kq.up k187 (by omega)
      have k185 : Kq h h36 (h 75 13 - 2147483648) := by rw [← e38]; exact Kq.oth k186 (by decide)
      have k184 : Kq h h43 (h 75 13 - 2147483648) := Kq.fr k185 f45 (by omega) (by decide)
      have q188 : h43 75 13 = h36 75 13 := jK 0 f45 rg_75_13_0_1 (by omega) (by omega) (by decide)
      have q189 : h36 75 13 = h32 75 13 := by rw [← e38]; exact x_up_i (by omega)
      have q190 : h32 75 13 = h25 75 13 := by rw [← e34]; exact x_up_k (by decide)
      have q191 : h25 75 13 = h 75 13 := by rw [← e27]; exact x_up_k (by decide)
      have k183 : Kq h h111 (h 75 13 - 2147483648) := Kq.kp k184 c119 (by omega)
      have k196 : Kl h h25 u3 := by rw [← e27]; exact Kl.up Kl.refl (by omega)
      have k195 : Kl h h32 u3 := by rw [← e34]; exact Kl.up k196 (by omega)
      have k194 : Kl h h36 u3 := by rw [← e38]; exact Kl.oth k195 (by decide)
      have k193 : Kl h h43 u3 := Kl.fr k194 f45 (by omega) (by decide)
      have k192 : Kl h h111 u3 := Kl.kp k193 c119 (by omega)
      have e198 : a1 - 2147483648 = u3 := by omega
      have k197 : Kl h h111 (a1 - 2147483648) := by rw [e198]; exact k192
      refine x_retI (np := 87) (x := 0) (by decide +kernel) (by decide) (Or.inr ⟨by decide +kernel, by omega, by omega⟩) ⟨_, rfl, (by decide), ?_⟩
      exact ⟨j112, f121, (by omega), (fun z => by omega), k183, k197, (fun z => absurd z (by omega))⟩
    have q24 : ¬ (v17 = 2147483648) := q24
    have b199 := c20 (by omega)
    refine x_const (np := 46) (x := 9223372043297226753) (a := 2147483649) (by decide +kernel) (by decide) (by decide) ?_
    refine x_goto (np := 49) (x := 50) (by decide +kernel) ?_
    refine x_ast (np := 51) (x := 0) (kd := 1) (n := 1952) (i := (1122 + 3 * u3)) (by decide +kernel) (Or.inl rfl) (by decide +kernel) (by omega) (by omega) (by decide) (by decide) (fun z => absurd z (by decide)) ?_
    have j201 := jU (e := (1122 + 3 * u3)) (v := 2147483649) u3 hJ rg_76_1122_3_10 (by omega) (by omega) (by omega)
    have f203 := jF (e := (1122 + 3 * u3)) (v := 2147483649) u3 hF rg_76_1122_3_10 (by omega) (by omega) (by decide)
    generalize e202 : x_up h 76 (1122 + 3 * u3) 2147483649 = h200 at j201 f203 ⊢
    refine x_aload (np := 52) (x := 0) (by decide +kernel) rfl (x_nc_le (by decide)) ?_
    have q204 : h200 75 1 = 76 := by have z := jB (e := 1) 0 j201 rg_75_1_0_1 (by decide) (by decide); omega
    refine x_getR (np := 55) (x := 705) (f := 1) (q := 76) (by decide +kernel) (by decide) (by decide +kernel) q204 ?_
    refine x_iload (np := 56) (x := 2) (by decide +kernel) rfl (by omega) ?_
    refine x_const (np := 57) (x := 9223372043297226753) (a := 2147483649) (by decide +kernel) (by decide) (by decide) ?_
    refine x_iadd (np := 58) (x := 0) (v := (2147484771 + 3 * u3)) (by decide +kernel) (by omega) (by decide) (by omega) (by omega) ?_
    refine x_aload (np := 59) (x := 0) (by decide +kernel) rfl (x_nc_le (by decide)) ?_
    have q205 : h200 75 13 = h 75 13 := by rw [← e202]; exact x_up_k (by decide)
    refine x_getC (np := 62) (x := 717) (f := 13) (q := (h 75 13)) (by decide +kernel) (by decide) (by decide +kernel) q205 (fun l206 => ?_)
    refine x_ast (np := 63) (x := 0) (kd := 1) (n := 1952) (i := (1123 + 3 * u3)) (by decide +kernel) (Or.inl rfl) (by decide +kernel) (by omega) (by omega) (by decide) l206 (fun z => absurd z (by decide)) ?_
    have j208 := jU (e := (1123 + 3 * u3)) (v := (h 75 13)) u3 j201 rg_76_1123_3_10 (by omega) (by omega) (by omega)
    have f210 := jF (e := (1123 + 3 * u3)) (v := (h 75 13)) u3 f203 rg_76_1123_3_10 (by omega) (by omega) (by decide)
    generalize e209 : x_up h200 76 (1123 + 3 * u3) (h 75 13) = h207 at j208 f210 ⊢
    refine x_aload (np := 64) (x := 0) (by decide +kernel) rfl (x_nc_le (by decide)) ?_
    refine x_const (np := 65) (x := 9223372039002259456) (a := 2147483648) (by decide +kernel) (by decide) (by decide) ?_
    refine x_putI (np := 68) (x := 714) (f := 10) (by decide +kernel) (by decide +kernel) (by decide) (Or.inl (by decide)) ?_
    have j212 := jU (e := 10) (v := 2147483648) 0 j208 rg_75_10_0_1 (by omega) (by omega) (by omega)
    have f214 := jF (e := 10) (v := 2147483648) 0 f210 rg_75_10_0_1 (by omega) (by omega) (by decide)
    generalize e213 : x_up h207 75 10 2147483648 = h211 at j212 f214 ⊢
    refine x_aload (np := 69) (x := 0) (by decide +kernel) rfl (x_nc_le (by decide)) ?_
    refine x_ldcwB (i := 23) (idx := 266) (tx := "if") (by rw [tb_y193]; exact List.mem_of_getElem? (i := 58) rfl) (by decide) (by rw [tb_b193]; decide +kernel) ?_
    refine x_cI (t := 6) (mj := 171) (n := 2) (rc := 12) (ml := 2) (nr := 0) (np := 75) (as := [x_r 75, x_b (23 + 1)]) (rest := []) (lo1 := [x_r 75, x_b (23 + 1)]) (by decide +kernel) (by decide) (by decide +kernel) (x_rb_of (by decide +kernel)) rfl rfl (x_wr (by decide) (x_wB (by decide) x_wn)) x_wn (by decide) rfl (c171_75_S0 j212  (by decide)) (fun v215 h218 l216 q217 => ?_)
    obtain ⟨j219, f220, b221, c222, c223⟩ := q217
    have f224 := Fr.trans f214 f220 (by decide)
    have q225 : h211 75 7 = h207 75 7 := by rw [← e213]; exact x_up_i (by omega)
    have q226 : h207 75 7 = h200 75 7 := by rw [← e209]; exact x_up_k (by decide)
    have q227 : h200 75 7 = h 75 7 := by rw [← e202]; exact x_up_k (by decide)
    have b228 := jB (e := 7) 0 j219 rg_75_7_0_1 (by omega) (by omega)
    have q229 : h211 75 7 = h207 75 7 := by rw [← e213]; exact x_up_i (by omega)
    have q230 : h207 75 7 = h200 75 7 := by rw [← e209]; exact x_up_k (by decide)
    have q231 : h200 75 7 = h 75 7 := by rw [← e202]; exact x_up_k (by decide)
    refine x_ifz (k := 0) (tg := 87) (np := 78) (by decide +kernel) (by decide) l216 (fun q232 => ?_) (fun q233 => ?_)
    · have q232 : v215 = 2147483648 := q232
      refine x_aload (np := 88) (x := 0) (by decide +kernel) rfl (x_nc_le (by decide)) ?_
      have q234 : h218 75 1 = 76 := by have z := jB (e := 1) 0 j219 rg_75_1_0_1 (by decide) (by decide); omega
      refine x_getR (np := 91) (x := 705) (f := 1) (q := 76) (by decide +kernel) (by decide) (by decide +kernel) q234 ?_
      refine x_iload (np := 92) (x := 2) (by decide +kernel) rfl (by omega) ?_
      refine x_const (np := 93) (x := 9223372047592194050) (a := 2147483650) (by decide +kernel) (by decide) (by decide) ?_
      refine x_iadd (np := 94) (x := 0) (v := (2147484772 + 3 * u3)) (by decide +kernel) (by omega) (by decide) (by omega) (by omega) ?_
      refine x_aload (np := 95) (x := 0) (by decide +kernel) rfl (x_nc_le (by decide)) ?_
      have q235 : h218 75 13 = h211 75 13 := jK 0 f220 rg_75_13_0_1 (by omega) (by omega) (by decide)
      have q236 : h211 75 13 = h207 75 13 := by rw [← e213]; exact x_up_i (by omega)
      have q237 : h207 75 13 = h200 75 13 := by rw [← e209]; exact x_up_k (by decide)
      have q238 : h200 75 13 = h 75 13 := by rw [← e202]; exact x_up_k (by decide)
      refine x_getC (np := 98) (x := 717) (f := 13) (q := (h 75 13)) (by decide +kernel) (by decide) (by decide +kernel) (((q235.trans q236).trans q237).trans q238) (fun l239 => ?_)
      refine x_ast (np := 99) (x := 0) (kd := 1) (n := 1952) (i := (1124 + 3 * u3)) (by decide +kernel) (Or.inl rfl) (by decide +kernel) (by omega) (by omega) (by decide) l206 (fun z => absurd z (by decide)) ?_
      have j241 := jU (e := (1124 + 3 * u3)) (v := (h 75 13)) u3 j219 rg_76_1124_3_10 (by omega) (by omega) (by omega)
      have f243 := jF (e := (1124 + 3 * u3)) (v := (h 75 13)) u3 f224 rg_76_1124_3_10 (by omega) (by omega) (by decide)
      generalize e242 : x_up h218 76 (1124 + 3 * u3) (h 75 13) = h240 at j241 f243 ⊢
      refine x_const (np := 100) (x := 9223372043297226753) (a := 2147483649) (by decide +kernel) (by decide) (by decide) ?_
      have q244 : h240 75 13 = h218 75 13 := by rw [← e242]; exact x_up_k (by decide)
      have q245 : h218 75 13 = h211 75 13 := jK 0 f220 rg_75_13_0_1 (by omega) (by omega) (by decide)
      have q246 : h211 75 13 = h207 75 13 := by rw [← e213]; exact x_up_i (by omega)
      have q247 : h207 75 13 = h200 75 13 := by rw [← e209]; exact x_up_k (by decide)
      have q248 : h200 75 13 = h 75 13 := by rw [← e202]; exact x_up_k (by decide)
      have q249 : h240 75 7 = h218 75 7 := by rw [← e242]; exact x_up_k (by decide)
      have q250 : h240 75 13 = h218 75 13 := by rw [← e242]; exact x_up_k (by decide)
      have q251 : h218 75 13 = h211 75 13 := jK 0 f220 rg_75_13_0_1 (by omega) (by omega) (by decide)
      have q252 : h211 75 13 = h207 75 13 := by rw [← e213]; exact x_up_i (by omega)
      have q253 : h207 75 13 = h200 75 13 := by rw [← e209]; exact x_up_k (by decide)
      have q254 : h200 75 13 = h 75 13 := by rw [← e202]; exact x_up_k (by decide)
      have k259 : Kq h h200 (h 75 13 - 2147483648) := by rw [← e202]; exact Kq.up Kq.refl (by omega)
      have k258 : Kq h h207 (h 75 13 - 2147483648) := by rw [← e209]; exact Kq.up k259 (by omega)
      have k257 : Kq h h211 (h 75 13 - 2147483648) := by rw [← e213]; exact Kq.oth k258 (by decide)
      have k256 : Kq h h218 (h 75 13 - 2147483648) := Kq.fr k257 f220 (by omega) (by decide)
      have k255 : Kq h h240 (h 75 13 - 2147483648) := by rw [← e242]; exact Kq.up k256 (by omega)
      have k264 : Kl h h200 u3 := by rw [← e202]; exact Kl.up Kl.refl (by omega)
      have k263 : Kl h h207 u3 := by rw [← e209]; exact Kl.up k264 (by omega)
      have k262 : Kl h h211 u3 := by rw [← e213]; exact Kl.oth k263 (by decide)
      have k261 : Kl h h218 u3 := Kl.fr k262 f220 (by omega) (by decide)
      have k260 : Kl h h240 u3 := by rw [← e242]; exact Kl.up k261 (by omega)
      have e266 : a1 - 2147483648 = u3 := by omega
      have k265 : Kl h h240 (a1 - 2147483648) := by rw [e266]; exact k260
      have q267 : h240 76 (1123 + 3 * u3) = h218 76 (1123 + 3 * u3) := by rw [← e242]; exact x_up_i (by omega)
      have q268 : h218 76 (1123 + 3 * u3) = h211 76 (1123 + 3 * u3) := jK u3 f220 rg_76_1123_3_10 (by omega) (by omega) (by decide)
      have q269 : h211 76 (1123 + 3 * u3) = h207 76 (1123 + 3 * u3) := by rw [← e213]; exact x_up_k (by decide)
      have q270 : h207 76 (1123 + 3 * u3) = (h 75 13) := by rw [← e209]; exact x_up_at
      have q271 : h240 76 (1124 + 3 * u3) = (h 75 13) := by rw [← e242]; exact x_up_at
      have g272 : Lg h240 u3 := Or.inl (show h240 76 (1123 + 3 * u3) = h240 76 (1124 + 3 * u3) by omega)
      have g273 : Lg h240 (a1 - 2147483648) ∧ h240 76 (1124 + 3 * (a1 - 2147483648)) = h240 75 13 ∧ h 75 13 ≤ h240 75 13 := by
        rw [e266]
        exact ⟨g272, by omega, by omega⟩
      refine x_retI (np := 101) (x := 0) (by decide +kernel) (by decide) (Or.inr ⟨by decide +kernel, by omega, by omega⟩) ⟨_, rfl, (by decide), ?_⟩
      exact ⟨j241, f243, (by omega), (fun z => by omega), k255, k265, (fun _ => g273)⟩
    have q233 : ¬ (v215 = 2147483648) := q233
    have b274 := c223 (by omega)
    refine x_aload (np := 79) (x := 0) (by decide +kernel) rfl (x_nc_le (by decide)) ?_
    have q275 : h218 75 10 = h211 75 10 := jK 0 f220 rg_75_10_0_1 (by omega) (by omega) (by decide)
    have q276 : h211 75 10 = 2147483648 := by rw [← e213]; exact x_up_at
    have q277 : h218 75 13 = h211 75 13 := jK 0 f220 rg_75_13_0_1 (by omega) (by omega) (by decide)
    have q278 : h211 75 13 = h207 75 13 := by rw [← e213]; exact x_up_i (by omega)
    have q279 : h207 75 13 = h200 75 13 := by rw [← e209]; exact x_up_k (by decide)
    have q280 : h200 75 13 = h 75 13 := by rw [← e202]; exact x_up_k (by decide)
    have q281 : h218 75 10 = h211 75 10 := jK 0 f220 rg_75_10_0_1 (by omega) (by omega) (by decide)
    have q282 : h211 75 10 = 2147483648 := by rw [← e213]; exact x_up_at
    refine x_cI (t := 6) (mj := 192) (n := 1) (rc := 12) (ml := 1) (nr := 0) (np := 82) (as := [x_r 75]) (rest := []) (lo1 := [x_r 75]) (by decide +kernel) (by decide) (by decide +kernel) (x_rb_of (by decide +kernel)) rfl rfl (x_wr (by decide) x_wn) x_wn (by decide) rfl (c192_75_D0 j219  (by omega) (by omega)) (fun v283 h286 l284 q285 => ?_)
    obtain ⟨j287, f288, b289, c290, c291, c292, c293, c294, c295⟩ := q285
    have f296 := Fr.trans f224 f288 (by decide)
    have q297 : h218 75 13 = h211 75 13 := jK 0 f220 rg_75_13_0_1 (by omega) (by omega) (by decide)
    have q298 : h211 75 13 = h207 75 13 := by rw [← e213]; exact x_up_i (by omega)
    have q299 : h207 75 13 = h200 75 13 := by rw [← e209]; exact x_up_k (by decide)
    have q300 : h200 75 13 = h 75 13 := by rw [← e202]; exact x_up_k (by decide)
    have b301 := jB (e := 13) 0 j287 rg_75_13_0_1 (by omega) (by omega)
    have b302 := jB (e := 7) 0 j287 rg_75_7_0_1 (by omega) (by omega)
    have q303 : h218 75 10 = h211 75 10 := jK 0 f220 rg_75_10_0_1 (by omega) (by omega) (by decide)
    have q304 : h211 75 10 = 2147483648 := by rw [← e213]; exact x_up_at
    have b305 := jB (e := 10) 0 j287 rg_75_10_0_1 (by omega) (by omega)
    have q306 : h218 75 13 = h211 75 13 := jK 0 f220 rg_75_13_0_1 (by omega) (by omega) (by decide)
    have q307 : h211 75 13 = h207 75 13 := by rw [← e213]; exact x_up_i (by omega)
    have q308 : h207 75 13 = h200 75 13 := by rw [← e209]; exact x_up_k (by decide)
    have q309 : h200 75 13 = h 75 13 := by rw [← e202]; exact x_up_k (by decide)
    refine x_ifz (k := 1) (tg := 87) (np := 85) (by decide +kernel) (by decide) l284 (fun q310 => ?_) (fun q311 => ?_)
    · have q310 : v283 ≠ 2147483648 := q310
      have b312 := c290 (by omega)
      have b313 := c291 (by omega)
      have b314 := c292 (by omega)
      have b315 := c293 (by omega)
      have s316 := c295 (by omega)
      have q317 : h218 75 13 = h211 75 13 := jK 0 f220 rg_75_13_0_1 (by omega) (by omega) (by decide)
      have q318 : h211 75 13 = h207 75 13 := by rw [← e213]; exact x_up_i (by omega)
      have q319 : h207 75 13 = h200 75 13 := by rw [← e209]; exact x_up_k (by decide)
      have q320 : h200 75 13 = h 75 13 := by rw [← e202]; exact x_up_k (by decide)
      refine x_aload (np := 88) (x := 0) (by decide +kernel) rfl (x_nc_le (by decide)) ?_
      have q321 : h286 75 1 = 76 := by have z := jB (e := 1) 0 j287 rg_75_1_0_1 (by decide) (by decide); omega
      refine x_getR (np := 91) (x := 705) (f := 1) (q := 76) (by decide +kernel) (by decide) (by decide +kernel) q321 ?_
      refine x_iload (np := 92) (x := 2) (by decide +kernel) rfl (by omega) ?_
      refine x_const (np := 93) (x := 9223372047592194050) (a := 2147483650) (by decide +kernel) (by decide) (by decide) ?_
      refine x_iadd (np := 94) (x := 0) (v := (2147484772 + 3 * u3)) (by decide +kernel) (by omega) (by decide) (by omega) (by omega) ?_
      refine x_aload (np := 95) (x := 0) (by decide +kernel) rfl (x_nc_le (by decide)) ?_
      refine x_getC (np := 98) (x := 717) (f := 13) (q := (h286 75 13)) (by decide +kernel) (by decide) (by decide +kernel) rfl (fun l322 => ?_)
      refine x_ast (np := 99) (x := 0) (kd := 1) (n := 1952) (i := (1124 + 3 * u3)) (by decide +kernel) (Or.inl rfl) (by decide +kernel) (by omega) (by omega) (by decide) l322 (fun z => absurd z (by decide)) ?_
      have j324 := jU (e := (1124 + 3 * u3)) (v := (h286 75 13)) u3 j287 rg_76_1124_3_10 (by omega) (by omega) (by omega)
      have f326 := jF (e := (1124 + 3 * u3)) (v := (h286 75 13)) u3 f296 rg_76_1124_3_10 (by omega) (by omega) (by decide)
      generalize e325 : x_up h286 76 (1124 + 3 * u3) (h286 75 13) = h323 at j324 f326 ⊢
      refine x_const (np := 100) (x := 9223372043297226753) (a := 2147483649) (by decide +kernel) (by decide) (by decide) ?_
      have q327 : h323 75 13 = h286 75 13 := by rw [← e325]; exact x_up_k (by decide)
      have q328 : h323 75 7 = h286 75 7 := by rw [← e325]; exact x_up_k (by decide)
      have q329 : h323 75 13 = h286 75 13 := by rw [← e325]; exact x_up_k (by decide)
      have k335 : Kq h h200 (h 75 13 - 2147483648) := by rw [← e202]; exact Kq.up Kq.refl (by omega)
      have k334 : Kq h h207 (h 75 13 - 2147483648) := by rw [← e209]; exact Kq.up k335 (by omega)
      have k333 : Kq h h211 (h 75 13 - 2147483648) := by rw [← e213]; exact Kq.oth k334 (by decide)
      have k332 : Kq h h218 (h 75 13 - 2147483648) := Kq.fr k333 f220 (by omega) (by decide)
      have q336 : h218 75 13 = h211 75 13 := jK 0 f220 rg_75_13_0_1 (by omega) (by omega) (by decide)
      have q337 : h211 75 13 = h207 75 13 := by rw [← e213]; exact x_up_i (by omega)
      have q338 : h207 75 13 = h200 75 13 := by rw [← e209]; exact x_up_k (by decide)
      have q339 : h200 75 13 = h 75 13 := by rw [← e202]; exact x_up_k (by decide)
      have k331 : Kq h h286 (h 75 13 - 2147483648) := Kq.kp k332 c294 (by omega)
      have k330 : Kq h h323 (h 75 13 - 2147483648) := by rw [← e325]; exact Kq.up k331 (by omega)
      have k345 : Kl h h200 u3 := by rw [← e202]; exact Kl.up Kl.refl (by omega)
      have k344 : Kl h h207 u3 := by rw [← e209]; exact Kl.up k345 (by omega)
      have k343 : Kl h h211 u3 := by rw [← e213]; exact Kl.oth k344 (by decide)
      have k342 : Kl h h218 u3 := Kl.fr k343 f220 (by omega) (by decide)
      have k341 : Kl h h286 u3 := Kl.kp k342 c294 (by omega)
      have k340 : Kl h h323 u3 := by rw [← e325]; exact Kl.up k341 (by omega)
      have e347 : a1 - 2147483648 = u3 := by omega
      have k346 : Kl h h323 (a1 - 2147483648) := by rw [e347]; exact k340
      have q348 : h323 76 (1123 + 3 * u3) = h286 76 (1123 + 3 * u3) := by rw [← e325]; exact x_up_i (by omega)
      have b349 := jB (e := (1123 + 3 * u3)) u3 j287 rg_76_1123_3_10 (by omega) (by omega)
      have q350 : h323 76 (1124 + 3 * u3) = (h286 75 13) := by rw [← e325]; exact x_up_at
      have k352 : Kq h286 h323 (h286 75 13 - 2147483648) := by rw [← e325]; exact Kq.up Kq.refl (by omega)
      have q353 := c294.2 (1123 + 3 * u3) (by omega) (by omega)
      have q354 : h218 76 (1123 + 3 * u3) = h211 76 (1123 + 3 * u3) := jK u3 f220 rg_76_1123_3_10 (by omega) (by omega) (by decide)
      have q355 : h211 76 (1123 + 3 * u3) = h207 76 (1123 + 3 * u3) := by rw [← e213]; exact x_up_k (by decide)
      have q356 : h207 76 (1123 + 3 * u3) = (h 75 13) := by rw [← e209]; exact x_up_at
      have g351 : Lg h323 u3 := Or.inr (Seg.cast (a' := h323 76 (1123 + 3 * u3) - 2147483648) (b' := h323 76 (1124 + 3 * u3) - 2147483648) (Seg.kq s316 k352) (by rw [show h323 76 (1123 + 3 * u3) = h218 75 13 by omega]) (by rw [show h323 76 (1124 + 3 * u3) = h286 75 13 by omega]))
      have g357 : Lg h323 (a1 - 2147483648) ∧ h323 76 (1124 + 3 * (a1 - 2147483648)) = h323 75 13 ∧ h 75 13 ≤ h323 75 13 := by
        rw [e347]
        exact ⟨g351, by omega, by omega⟩
      refine x_retI (np := 101) (x := 0) (by decide +kernel) (by decide) (Or.inr ⟨by decide +kernel, by omega, by omega⟩) ⟨_, rfl, (by decide), ?_⟩
      exact ⟨j324, f326, (by omega), (fun z => by omega), k330, k346, (fun _ => g357)⟩
    have q311 : ¬ (v283 ≠ 2147483648) := q311
    refine x_const (np := 86) (x := 9223372039002259456) (a := 2147483648) (by decide +kernel) (by decide) (by decide) ?_
    have k362 : Kq h h200 (h 75 13 - 2147483648) := by rw [← e202]; exact Kq.up Kq.refl (by omega)
    have k361 : Kq h h207 (h 75 13 - 2147483648) := by rw [← e209]; exact Kq.up k362 (by omega)
    have k360 : Kq h h211 (h 75 13 - 2147483648) := by rw [← e213]; exact Kq.oth k361 (by decide)
    have k359 : Kq h h218 (h 75 13 - 2147483648) := Kq.fr k360 f220 (by omega) (by decide)
    have q363 : h218 75 13 = h211 75 13 := jK 0 f220 rg_75_13_0_1 (by omega) (by omega) (by decide)
    have q364 : h211 75 13 = h207 75 13 := by rw [← e213]; exact x_up_i (by omega)
    have q365 : h207 75 13 = h200 75 13 := by rw [← e209]; exact x_up_k (by decide)
    have q366 : h200 75 13 = h 75 13 := by rw [← e202]; exact x_up_k (by decide)
    have k358 : Kq h h286 (h 75 13 - 2147483648) := Kq.kp k359 c294 (by omega)
    have k371 : Kl h h200 u3 := by rw [← e202]; exact Kl.up Kl.refl (by omega)
    have k370 : Kl h h207 u3 := by rw [← e209]; exact Kl.up k371 (by omega)
    have k369 : Kl h h211 u3 := by rw [← e213]; exact Kl.oth k370 (by decide)
    have k368 : Kl h h218 u3 := Kl.fr k369 f220 (by omega) (by decide)
    have k367 : Kl h h286 u3 := Kl.kp k368 c294 (by omega)
    have e373 : a1 - 2147483648 = u3 := by omega
    have k372 : Kl h h286 (a1 - 2147483648) := by rw [e373]; exact k367
    refine x_retI (np := 87) (x := 0) (by decide +kernel) (by decide) (Or.inr ⟨by decide +kernel, by omega, by omega⟩) ⟨_, rfl, (by decide), ?_⟩
    exact ⟨j287, f296, (by omega), (fun z => by omega), k358, k372, (fun z => absurd z (by omega))⟩
  have q14 : ¬ (v6 ≠ 2147483648) := q14
  refine x_aload (np := 19) (x := 0) (by decide +kernel) rfl (x_nc_le (by decide)) ?_
  refine x_ldcwB (i := 21) (idx := 264) (tx := "refuse") (by rw [tb_y193]; exact List.mem_of_getElem? (i := 57) rfl) (by decide) (by rw [tb_b193]; decide +kernel) ?_
  refine x_cP (t := 6) (mj := 170) (n := 2) (rc := 12) (ml := 4) (nr := 0) (np := 25) (as := [x_r 75, x_b (21 + 1)]) (rest := []) (lo1 := [x_r 75, x_b (21 + 1), 147573952589676412928, 147573952589676412928]) (by decide +kernel) (by decide) (by decide +kernel) (x_rb_of (by decide +kernel)) rfl rfl (x_wr (by decide) (x_wB (by decide) x_wn)) x_wn (by decide) rfl (c170_75_S0 hJ  (by decide)) (fun v374 l375 q376 => ?_)
  obtain ⟨b378, c377⟩ := q376
  have b379 : iv_tl 21 = 6 := by decide
  refine x_ifz (k := 1) (tg := 30) (np := 28) (by decide +kernel) (by decide) l375 (fun q380 => ?_) (fun q381 => ?_)
  · have q380 : v374 ≠ 2147483648 := q380
    have b382 := c377 (by omega)
    refine x_aload (np := 31) (x := 0) (by decide +kernel) rfl (x_nc_le (by decide)) ?_
    have q383 : h 75 1 = 76 := by have z := jB (e := 1) 0 hJ rg_75_1_0_1 (by decide) (by decide); omega
    refine x_getR (np := 34) (x := 705) (f := 1) (q := 76) (by decide +kernel) (by decide) (by decide +kernel) q383 ?_
    refine x_iload (np := 35) (x := 2) (by decide +kernel) rfl (by omega) ?_
    refine x_aload (np := 36) (x := 0) (by decide +kernel) rfl (x_nc_le (by decide)) ?_
    refine x_ldcwB (i := 22) (idx := 262) (tx := "grant") (by rw [tb_y193]; exact List.mem_of_getElem? (i := 56) rfl) (by decide) (by rw [tb_b193]; decide +kernel) ?_
    refine x_cP (t := 6) (mj := 170) (n := 2) (rc := 12) (ml := 4) (nr := 2) (np := 42) (as := [x_r 75, x_b (22 + 1)]) (rest := [iv_c (2147484770 + 3 * u3), x_r 76]) (lo1 := [x_r 75, x_b (22 + 1), 147573952589676412928, 147573952589676412928]) (by decide +kernel) (by decide) (by decide +kernel) (x_rb_of (by decide +kernel)) rfl rfl (x_wr (by decide) (x_wB (by decide) x_wn)) (x_wi (by omega) (x_wr (by decide) x_wn)) (by decide) rfl (c170_75_S0 hJ  (by decide)) (fun v384 l385 q386 => ?_)
    obtain ⟨b388, c387⟩ := q386
    have b389 : iv_tl 22 = 5 := by decide
    refine x_ifz (k := 0) (tg := 49) (np := 45) (by decide +kernel) (by decide) l385 (fun q390 => ?_) (fun q391 => ?_)
    · have q390 : v384 = 2147483648 := q390
      refine x_const (np := 50) (x := 9223372039002259456) (a := 2147483648) (by decide +kernel) (by decide) (by decide) ?_
      refine x_ast (np := 51) (x := 0) (kd := 1) (n := 1952) (i := (1122 + 3 * u3)) (by decide +kernel) (Or.inl rfl) (by decide +kernel) (by omega) (by omega) (by decide) (by decide) (fun z => absurd z (by decide)) ?_
      have j393 := jU (e := (1122 + 3 * u3)) (v := 2147483648) u3 hJ rg_76_1122_3_10 (by omega) (by omega) (by omega)
      have f395 := jF (e := (1122 + 3 * u3)) (v := 2147483648) u3 hF rg_76_1122_3_10 (by omega) (by omega) (by decide)
      generalize e394 : x_up h 76 (1122 + 3 * u3) 2147483648 = h392 at j393 f395 ⊢
      refine x_aload (np := 52) (x := 0) (by decide +kernel) rfl (x_nc_le (by decide)) ?_
      have q396 : h392 75 1 = 76 := by have z := jB (e := 1) 0 j393 rg_75_1_0_1 (by decide) (by decide); omega
      refine x_getR (np := 55) (x := 705) (f := 1) (q := 76) (by decide +kernel) (by decide) (by decide +kernel) q396 ?_
      refine x_iload (np := 56) (x := 2) (by decide +kernel) rfl (by omega) ?_
      refine x_const (np := 57) (x := 9223372043297226753) (a := 2147483649) (by decide +kernel) (by decide) (by decide) ?_
      refine x_iadd (np := 58) (x := 0) (v := (2147484771 + 3 * u3)) (by decide +kernel) (by omega) (by decide) (by omega) (by omega) ?_
      refine x_aload (np := 59) (x := 0) (by decide +kernel) rfl (x_nc_le (by decide)) ?_
      have q397 : h392 75 13 = h 75 13 := by rw [← e394]; exact x_up_k (by decide)
      refine x_getC (np := 62) (x := 717) (f := 13) (q := (h 75 13)) (by decide +kernel) (by decide) (by decide +kernel) q397 (fun l398 => ?_)
      refine x_ast (np := 63) (x := 0) (kd := 1) (n := 1952) (i := (1123 + 3 * u3)) (by decide +kernel) (Or.inl rfl) (by decide +kernel) (by omega) (by omega) (by decide) l398 (fun z => absurd z (by decide)) ?_
      have j400 := jU (e := (1123 + 3 * u3)) (v := (h 75 13)) u3 j393 rg_76_1123_3_10 (by omega) (by omega) (by omega)
      have f402 := jF (e := (1123 + 3 * u3)) (v := (h 75 13)) u3 f395 rg_76_1123_3_10 (by omega) (by omega) (by decide)
      generalize e401 : x_up h392 76 (1123 + 3 * u3) (h 75 13) = h399 at j400 f402 ⊢
      refine x_aload (np := 64) (x := 0) (by decide +kernel) rfl (x_nc_le (by decide)) ?_
      refine x_const (np := 65) (x := 9223372039002259456) (a := 2147483648) (by decide +kernel) (by decide) (by decide) ?_
      refine x_putI (np := 68) (x := 714) (f := 10) (by decide +kernel) (by decide +kernel) (by decide) (Or.inl (by decide)) ?_
      have j404 := jU (e := 10) (v := 2147483648) 0 j400 rg_75_10_0_1 (by omega) (by omega) (by omega)
      have f406 := jF (e := 10) (v := 2147483648) 0 f402 rg_75_10_0_1 (by omega) (by omega) (by decide)
      generalize e405 : x_up h399 75 10 2147483648 = h403 at j404 f406 ⊢
      refine x_aload (np := 69) (x := 0) (by decide +kernel) rfl (x_nc_le (by decide)) ?_
      refine x_ldcwB (i := 23) (idx := 266) (tx := "if") (by rw [tb_y193]; exact List.mem_of_getElem? (i := 58) rfl) (by decide) (by rw [tb_b193]; decide +kernel) ?_
      refine x_cI (t := 6) (mj := 171) (n := 2) (rc := 12) (ml := 2) (nr := 0) (np := 75) (as := [x_r 75, x_b (23 + 1)]) (rest := []) (lo1 := [x_r 75, x_b (23 + 1)]) (by decide +kernel) (by decide) (by decide +kernel) (x_rb_of (by decide +kernel)) rfl rfl (x_wr (by decide) (x_wB (by decide) x_wn)) x_wn (by decide) rfl (c171_75_S0 j404  (by decide)) (fun v407 h410 l408 q409 => ?_)
      obtain ⟨j411, f412, b413, c414, c415⟩ := q409
      have f416 := Fr.trans f406 f412 (by decide)
      have q417 : h403 75 7 = h399 75 7 := by rw [← e405]; exact x_up_i (by omega)
      have q418 : h399 75 7 = h392 75 7 := by rw [← e401]; exact x_up_k (by decide)
      have q419 : h392 75 7 = h 75 7 := by rw [← e394]; exact x_up_k (by decide)
      have b420 := jB (e := 7) 0 j411 rg_75_7_0_1 (by omega) (by omega)
      have q421 : h403 75 7 = h399 75 7 := by rw [← e405]; exact x_up_i (by omega)
      have q422 : h399 75 7 = h392 75 7 := by rw [← e401]; exact x_up_k (by decide)
      have q423 : h392 75 7 = h 75 7 := by rw [← e394]; exact x_up_k (by decide)
      refine x_ifz (k := 0) (tg := 87) (np := 78) (by decide +kernel) (by decide) l408 (fun q424 => ?_) (fun q425 => ?_)
      · have q424 : v407 = 2147483648 := q424
        refine x_aload (np := 88) (x := 0) (by decide +kernel) rfl (x_nc_le (by decide)) ?_
        have q426 : h410 75 1 = 76 := by have z := jB (e := 1) 0 j411 rg_75_1_0_1 (by decide) (by decide); omega
        refine x_getR (np := 91) (x := 705) (f := 1) (q := 76) (by decide +kernel) (by decide) (by decide +kernel) q426 ?_
        refine x_iload (np := 92) (x := 2) (by decide +kernel) rfl (by omega) ?_
        refine x_const (np := 93) (x := 9223372047592194050) (a := 2147483650) (by decide +kernel) (by decide) (by decide) ?_
        refine x_iadd (np := 94) (x := 0) (v := (2147484772 + 3 * u3)) (by decide +kernel) (by omega) (by decide) (by omega) (by omega) ?_
        refine x_aload (np := 95) (x := 0) (by decide +kernel) rfl (x_nc_le (by decide)) ?_
        have q427 : h410 75 13 = h403 75 13 := jK 0 f412 rg_75_13_0_1 (by omega) (by omega) (by decide)
        have q428 : h403 75 13 = h399 75 13 := by rw [← e405]; exact x_up_i (by omega)
        have q429 : h399 75 13 = h392 75 13 := by rw [← e401]; exact x_up_k (by decide)
        have q430 : h392 75 13 = h 75 13 := by rw [← e394]; exact x_up_k (by decide)
        refine x_getC (np := 98) (x := 717) (f := 13) (q := (h 75 13)) (by decide +kernel) (by decide) (by decide +kernel) (((q427.trans q428).trans q429).trans q430) (fun l431 => ?_)
        refine x_ast (np := 99) (x := 0) (kd := 1) (n := 1952) (i := (1124 + 3 * u3)) (by decide +kernel) (Or.inl rfl) (by decide +kernel) (by omega) (by omega) (by decide) l398 (fun z => absurd z (by decide)) ?_
        have j433 := jU (e := (1124 + 3 * u3)) (v := (h 75 13)) u3 j411 rg_76_1124_3_10 (by omega) (by omega) (by omega)
        have f435 := jF (e := (1124 + 3 * u3)) (v := (h 75 13)) u3 f416 rg_76_1124_3_10 (by omega) (by omega) (by decide)
        generalize e434 : x_up h410 76 (1124 + 3 * u3) (h 75 13) = h432 at j433 f435 ⊢
        refine x_const (np := 100) (x := 9223372043297226753) (a := 2147483649) (by decide +kernel) (by decide) (by decide) ?_
        have q436 : h432 75 13 = h410 75 13 := by rw [← e434]; exact x_up_k (by decide)
        have q437 : h410 75 13 = h403 75 13 := jK 0 f412 rg_75_13_0_1 (by omega) (by omega) (by decide)
        have q438 : h403 75 13 = h399 75 13 := by rw [← e405]; exact x_up_i (by omega)
        have q439 : h399 75 13 = h392 75 13 := by rw [← e401]; exact x_up_k (by decide)
        have q440 : h392 75 13 = h 75 13 := by rw [← e394]; exact x_up_k (by decide)
        have q441 : h432 75 7 = h410 75 7 := by rw [← e434]; exact x_up_k (by decide)
        have q442 : h432 75 13 = h410 75 13 := by rw [← e434]; exact x_up_k (by decide)
        have q443 : h410 75 13 = h403 75 13 := jK 0 f412 rg_75_13_0_1 (by omega) (by omega) (by decide)
        have q444 : h403 75 13 = h399 75 13 := by rw [← e405]; exact x_up_i (by omega)
        have q445 : h399 75 13 = h392 75 13 := by rw [← e401]; exact x_up_k (by decide)
        have q446 : h392 75 13 = h 75 13 := by rw [← e394]; exact x_up_k (by decide)
        have k451 : Kq h h392 (h 75 13 - 2147483648) := by rw [← e394]; exact Kq.up Kq.refl (by omega)
        have k450 : Kq h h399 (h 75 13 - 2147483648) := by rw [← e401]; exact Kq.up k451 (by omega)
        have k449 : Kq h h403 (h 75 13 - 2147483648) := by rw [← e405]; exact Kq.oth k450 (by decide)
        have k448 : Kq h h410 (h 75 13 - 2147483648) := Kq.fr k449 f412 (by omega) (by decide)
        have k447 : Kq h h432 (h 75 13 - 2147483648) := by rw [← e434]; exact Kq.up k448 (by omega)
        have k456 : Kl h h392 u3 := by rw [← e394]; exact Kl.up Kl.refl (by omega)
        have k455 : Kl h h399 u3 := by rw [← e401]; exact Kl.up k456 (by omega)
        have k454 : Kl h h403 u3 := by rw [← e405]; exact Kl.oth k455 (by decide)
        have k453 : Kl h h410 u3 := Kl.fr k454 f412 (by omega) (by decide)
        have k452 : Kl h h432 u3 := by rw [← e434]; exact Kl.up k453 (by omega)
        have e458 : a1 - 2147483648 = u3 := by omega
        have k457 : Kl h h432 (a1 - 2147483648) := by rw [e458]; exact k452
        have q459 : h432 76 (1123 + 3 * u3) = h410 76 (1123 + 3 * u3) := by rw [← e434]; exact x_up_i (by omega)
        have q460 : h410 76 (1123 + 3 * u3) = h403 76 (1123 + 3 * u3) := jK u3 f412 rg_76_1123_3_10 (by omega) (by omega) (by decide)
        have q461 : h403 76 (1123 + 3 * u3) = h399 76 (1123 + 3 * u3) := by rw [← e405]; exact x_up_k (by decide)
        have q462 : h399 76 (1123 + 3 * u3) = (h 75 13) := by rw [← e401]; exact x_up_at
        have q463 : h432 76 (1124 + 3 * u3) = (h 75 13) := by rw [← e434]; exact x_up_at
        have g464 : Lg h432 u3 := Or.inl (show h432 76 (1123 + 3 * u3) = h432 76 (1124 + 3 * u3) by omega)
        have g465 : Lg h432 (a1 - 2147483648) ∧ h432 76 (1124 + 3 * (a1 - 2147483648)) = h432 75 13 ∧ h 75 13 ≤ h432 75 13 := by
          rw [e458]
          exact ⟨g464, by omega, by omega⟩
        refine x_retI (np := 101) (x := 0) (by decide +kernel) (by decide) (Or.inr ⟨by decide +kernel, by omega, by omega⟩) ⟨_, rfl, (by decide), ?_⟩
        exact ⟨j433, f435, (by omega), (fun z => by omega), k447, k457, (fun _ => g465)⟩
      have q425 : ¬ (v407 = 2147483648) := q425
      have b466 := c415 (by omega)
      refine x_aload (np := 79) (x := 0) (by decide +kernel) rfl (x_nc_le (by decide)) ?_
      have q467 : h410 75 10 = h403 75 10 := jK 0 f412 rg_75_10_0_1 (by omega) (by omega) (by decide)
      have q468 : h403 75 10 = 2147483648 := by rw [← e405]; exact x_up_at
      have q469 : h410 75 13 = h403 75 13 := jK 0 f412 rg_75_13_0_1 (by omega) (by omega) (by decide)
      have q470 : h403 75 13 = h399 75 13 := by rw [← e405]; exact x_up_i (by omega)
      have q471 : h399 75 13 = h392 75 13 := by rw [← e401]; exact x_up_k (by decide)
      have q472 : h392 75 13 = h 75 13 := by rw [← e394]; exact x_up_k (by decide)
      have q473 : h410 75 10 = h403 75 10 := jK 0 f412 rg_75_10_0_1 (by omega) (by omega) (by decide)
      have q474 : h403 75 10 = 2147483648 := by rw [← e405]; exact x_up_at
      refine x_cI (t := 6) (mj := 192) (n := 1) (rc := 12) (ml := 1) (nr := 0) (np := 82) (as := [x_r 75]) (rest := []) (lo1 := [x_r 75]) (by decide +kernel) (by decide) (by decide +kernel) (x_rb_of (by decide +kernel)) rfl rfl (x_wr (by decide) x_wn) x_wn (by decide) rfl (c192_75_D0 j411  (by omega) (by omega)) (fun v475 h478 l476 q477 => ?_)
      obtain ⟨j479, f480, b481, c482, c483, c484, c485, c486, c487⟩ := q477
      have f488 := Fr.trans f416 f480 (by decide)
      have q489 : h410 75 13 = h403 75 13 := jK 0 f412 rg_75_13_0_1 (by omega) (by omega) (by decide)
      have q490 : h403 75 13 = h399 75 13 := by rw [← e405]; exact x_up_i (by omega)
      have q491 : h399 75 13 = h392 75 13 := by rw [← e401]; exact x_up_k (by decide)
      have q492 : h392 75 13 = h 75 13 := by rw [← e394]; exact x_up_k (by decide)
      have b493 := jB (e := 13) 0 j479 rg_75_13_0_1 (by omega) (by omega)
      have b494 := jB (e := 7) 0 j479 rg_75_7_0_1 (by omega) (by omega)
      have q495 : h410 75 10 = h403 75 10 := jK 0 f412 rg_75_10_0_1 (by omega) (by omega) (by decide)
      have q496 : h403 75 10 = 2147483648 := by rw [← e405]; exact x_up_at
      have b497 := jB (e := 10) 0 j479 rg_75_10_0_1 (by omega) (by omega)
      have q498 : h410 75 13 = h403 75 13 := jK 0 f412 rg_75_13_0_1 (by omega) (by omega) (by decide)
      have q499 : h403 75 13 = h399 75 13 := by rw [← e405]; exact x_up_i (by omega)
      have q500 : h399 75 13 = h392 75 13 := by rw [← e401]; exact x_up_k (by decide)
      have q501 : h392 75 13 = h 75 13 := by rw [← e394]; exact x_up_k (by decide)
      refine x_ifz (k := 1) (tg := 87) (np := 85) (by decide +kernel) (by decide) l476 (fun q502 => ?_) (fun q503 => ?_)
      · have q502 : v475 ≠ 2147483648 := q502
        have b504 := c482 (by omega)
        have b505 := c483 (by omega)
        have b506 := c484 (by omega)
        have b507 := c485 (by omega)
        have s508 := c487 (by omega)
        have q509 : h410 75 13 = h403 75 13 := jK 0 f412 rg_75_13_0_1 (by omega) (by omega) (by decide)
        have q510 : h403 75 13 = h399 75 13 := by rw [← e405]; exact x_up_i (by omega)
        have q511 : h399 75 13 = h392 75 13 := by rw [← e401]; exact x_up_k (by decide)
        have q512 : h392 75 13 = h 75 13 := by rw [← e394]; exact x_up_k (by decide)
        refine x_aload (np := 88) (x := 0) (by decide +kernel) rfl (x_nc_le (by decide)) ?_
        have q513 : h478 75 1 = 76 := by have z := jB (e := 1) 0 j479 rg_75_1_0_1 (by decide) (by decide); omega
        refine x_getR (np := 91) (x := 705) (f := 1) (q := 76) (by decide +kernel) (by decide) (by decide +kernel) q513 ?_
        refine x_iload (np := 92) (x := 2) (by decide +kernel) rfl (by omega) ?_
        refine x_const (np := 93) (x := 9223372047592194050) (a := 2147483650) (by decide +kernel) (by decide) (by decide) ?_
        refine x_iadd (np := 94) (x := 0) (v := (2147484772 + 3 * u3)) (by decide +kernel) (by omega) (by decide) (by omega) (by omega) ?_
        refine x_aload (np := 95) (x := 0) (by decide +kernel) rfl (x_nc_le (by decide)) ?_
        refine x_getC (np := 98) (x := 717) (f := 13) (q := (h478 75 13)) (by decide +kernel) (by decide) (by decide +kernel) rfl (fun l514 => ?_)
        refine x_ast (np := 99) (x := 0) (kd := 1) (n := 1952) (i := (1124 + 3 * u3)) (by decide +kernel) (Or.inl rfl) (by decide +kernel) (by omega) (by omega) (by decide) l514 (fun z => absurd z (by decide)) ?_
        have j516 := jU (e := (1124 + 3 * u3)) (v := (h478 75 13)) u3 j479 rg_76_1124_3_10 (by omega) (by omega) (by omega)
        have f518 := jF (e := (1124 + 3 * u3)) (v := (h478 75 13)) u3 f488 rg_76_1124_3_10 (by omega) (by omega) (by decide)
        generalize e517 : x_up h478 76 (1124 + 3 * u3) (h478 75 13) = h515 at j516 f518 ⊢
        refine x_const (np := 100) (x := 9223372043297226753) (a := 2147483649) (by decide +kernel) (by decide) (by decide) ?_
        have q519 : h515 75 13 = h478 75 13 := by rw [← e517]; exact x_up_k (by decide)
        have q520 : h515 75 7 = h478 75 7 := by rw [← e517]; exact x_up_k (by decide)
        have q521 : h515 75 13 = h478 75 13 := by rw [← e517]; exact x_up_k (by decide)
        have k527 : Kq h h392 (h 75 13 - 2147483648) := by rw [← e394]; exact Kq.up Kq.refl (by omega)
        have k526 : Kq h h399 (h 75 13 - 2147483648) := by rw [← e401]; exact Kq.up k527 (by omega)
        have k525 : Kq h h403 (h 75 13 - 2147483648) := by rw [← e405]; exact Kq.oth k526 (by decide)
        have k524 : Kq h h410 (h 75 13 - 2147483648) := Kq.fr k525 f412 (by omega) (by decide)
        have q528 : h410 75 13 = h403 75 13 := jK 0 f412 rg_75_13_0_1 (by omega) (by omega) (by decide)
        have q529 : h403 75 13 = h399 75 13 := by rw [← e405]; exact x_up_i (by omega)
        have q530 : h399 75 13 = h392 75 13 := by rw [← e401]; exact x_up_k (by decide)
        have q531 : h392 75 13 = h 75 13 := by rw [← e394]; exact x_up_k (by decide)
        have k523 : Kq h h478 (h 75 13 - 2147483648) := Kq.kp k524 c486 (by omega)
        have k522 : Kq h h515 (h 75 13 - 2147483648) := by rw [← e517]; exact Kq.up k523 (by omega)
        have k537 : Kl h h392 u3 := by rw [← e394]; exact Kl.up Kl.refl (by omega)
        have k536 : Kl h h399 u3 := by rw [← e401]; exact Kl.up k537 (by omega)
        have k535 : Kl h h403 u3 := by rw [← e405]; exact Kl.oth k536 (by decide)
        have k534 : Kl h h410 u3 := Kl.fr k535 f412 (by omega) (by decide)
        have k533 : Kl h h478 u3 := Kl.kp k534 c486 (by omega)
        have k532 : Kl h h515 u3 := by rw [← e517]; exact Kl.up k533 (by omega)
        have e539 : a1 - 2147483648 = u3 := by omega
        have k538 : Kl h h515 (a1 - 2147483648) := by rw [e539]; exact k532
        have q540 : h515 76 (1123 + 3 * u3) = h478 76 (1123 + 3 * u3) := by rw [← e517]; exact x_up_i (by omega)
        have b541 := jB (e := (1123 + 3 * u3)) u3 j479 rg_76_1123_3_10 (by omega) (by omega)
        have q542 : h515 76 (1124 + 3 * u3) = (h478 75 13) := by rw [← e517]; exact x_up_at
        have k544 : Kq h478 h515 (h478 75 13 - 2147483648) := by rw [← e517]; exact Kq.up Kq.refl (by omega)
        have q545 := c486.2 (1123 + 3 * u3) (by omega) (by omega)
        have q546 : h410 76 (1123 + 3 * u3) = h403 76 (1123 + 3 * u3) := jK u3 f412 rg_76_1123_3_10 (by omega) (by omega) (by decide)
        have q547 : h403 76 (1123 + 3 * u3) = h399 76 (1123 + 3 * u3) := by rw [← e405]; exact x_up_k (by decide)
        have q548 : h399 76 (1123 + 3 * u3) = (h 75 13) := by rw [← e401]; exact x_up_at
        have g543 : Lg h515 u3 := Or.inr (Seg.cast (a' := h515 76 (1123 + 3 * u3) - 2147483648) (b' := h515 76 (1124 + 3 * u3) - 2147483648) (Seg.kq s508 k544) (by rw [show h515 76 (1123 + 3 * u3) = h410 75 13 by omega]) (by rw [show h515 76 (1124 + 3 * u3) = h478 75 13 by omega]))
        have g549 : Lg h515 (a1 - 2147483648) ∧ h515 76 (1124 + 3 * (a1 - 2147483648)) = h515 75 13 ∧ h 75 13 ≤ h515 75 13 := by
          rw [e539]
          exact ⟨g543, by omega, by omega⟩
        refine x_retI (np := 101) (x := 0) (by decide +kernel) (by decide) (Or.inr ⟨by decide +kernel, by omega, by omega⟩) ⟨_, rfl, (by decide), ?_⟩
        exact ⟨j516, f518, (by omega), (fun z => by omega), k522, k538, (fun _ => g549)⟩
      have q503 : ¬ (v475 ≠ 2147483648) := q503
      refine x_const (np := 86) (x := 9223372039002259456) (a := 2147483648) (by decide +kernel) (by decide) (by decide) ?_
      have k554 : Kq h h392 (h 75 13 - 2147483648) := by rw [← e394]; exact Kq.up Kq.refl (by omega)
      have k553 : Kq h h399 (h 75 13 - 2147483648) := by rw [← e401]; exact Kq.up k554 (by omega)
      have k552 : Kq h h403 (h 75 13 - 2147483648) := by rw [← e405]; exact Kq.oth k553 (by decide)
      have k551 : Kq h h410 (h 75 13 - 2147483648) := Kq.fr k552 f412 (by omega) (by decide)
      have q555 : h410 75 13 = h403 75 13 := jK 0 f412 rg_75_13_0_1 (by omega) (by omega) (by decide)
      have q556 : h403 75 13 = h399 75 13 := by rw [← e405]; exact x_up_i (by omega)
      have q557 : h399 75 13 = h392 75 13 := by rw [← e401]; exact x_up_k (by decide)
      have q558 : h392 75 13 = h 75 13 := by rw [← e394]; exact x_up_k (by decide)
      have k550 : Kq h h478 (h 75 13 - 2147483648) := Kq.kp k551 c486 (by omega)
      have k563 : Kl h h392 u3 := by rw [← e394]; exact Kl.up Kl.refl (by omega)
      have k562 : Kl h h399 u3 := by rw [← e401]; exact Kl.up k563 (by omega)
      have k561 : Kl h h403 u3 := by rw [← e405]; exact Kl.oth k562 (by decide)
      have k560 : Kl h h410 u3 := Kl.fr k561 f412 (by omega) (by decide)
      have k559 : Kl h h478 u3 := Kl.kp k560 c486 (by omega)
      have e565 : a1 - 2147483648 = u3 := by omega
      have k564 : Kl h h478 (a1 - 2147483648) := by rw [e565]; exact k559
      refine x_retI (np := 87) (x := 0) (by decide +kernel) (by decide) (Or.inr ⟨by decide +kernel, by omega, by omega⟩) ⟨_, rfl, (by decide), ?_⟩
      exact ⟨j479, f488, (by omega), (fun z => by omega), k550, k564, (fun z => absurd z (by omega))⟩
    have q391 : ¬ (v384 = 2147483648) := q391
    have b566 := c387 (by omega)
    refine x_const (np := 46) (x := 9223372043297226753) (a := 2147483649) (by decide +kernel) (by decide) (by decide) ?_
    refine x_goto (np := 49) (x := 50) (by decide +kernel) ?_
    refine x_ast (np := 51) (x := 0) (kd := 1) (n := 1952) (i := (1122 + 3 * u3)) (by decide +kernel) (Or.inl rfl) (by decide +kernel) (by omega) (by omega) (by decide) (by decide) (fun z => absurd z (by decide)) ?_
    have j568 := jU (e := (1122 + 3 * u3)) (v := 2147483649) u3 hJ rg_76_1122_3_10 (by omega) (by omega) (by omega)
    have f570 := jF (e := (1122 + 3 * u3)) (v := 2147483649) u3 hF rg_76_1122_3_10 (by omega) (by omega) (by decide)
    generalize e569 : x_up h 76 (1122 + 3 * u3) 2147483649 = h567 at j568 f570 ⊢
    refine x_aload (np := 52) (x := 0) (by decide +kernel) rfl (x_nc_le (by decide)) ?_
    have q571 : h567 75 1 = 76 := by have z := jB (e := 1) 0 j568 rg_75_1_0_1 (by decide) (by decide); omega
    refine x_getR (np := 55) (x := 705) (f := 1) (q := 76) (by decide +kernel) (by decide) (by decide +kernel) q571 ?_
    refine x_iload (np := 56) (x := 2) (by decide +kernel) rfl (by omega) ?_
    refine x_const (np := 57) (x := 9223372043297226753) (a := 2147483649) (by decide +kernel) (by decide) (by decide) ?_
    refine x_iadd (np := 58) (x := 0) (v := (2147484771 + 3 * u3)) (by decide +kernel) (by omega) (by decide) (by omega) (by omega) ?_
    refine x_aload (np := 59) (x := 0) (by decide +kernel) rfl (x_nc_le (by decide)) ?_
    have q572 : h567 75 13 = h 75 13 := by rw [← e569]; exact x_up_k (by decide)
    refine x_getC (np := 62) (x := 717) (f := 13) (q := (h 75 13)) (by decide +kernel) (by decide) (by decide +kernel) q572 (fun l573 => ?_)
    refine x_ast (np := 63) (x := 0) (kd := 1) (n := 1952) (i := (1123 + 3 * u3)) (by decide +kernel) (Or.inl rfl) (by decide +kernel) (by omega) (by omega) (by decide) l573 (fun z => absurd z (by decide)) ?_
    have j575 := jU (e := (1123 + 3 * u3)) (v := (h 75 13)) u3 j568 rg_76_1123_3_10 (by omega) (by omega) (by omega)
    have f577 := jF (e := (1123 + 3 * u3)) (v := (h 75 13)) u3 f570 rg_76_1123_3_10 (by omega) (by omega) (by decide)
    generalize e576 : x_up h567 76 (1123 + 3 * u3) (h 75 13) = h574 at j575 f577 ⊢
    refine x_aload (np := 64) (x := 0) (by decide +kernel) rfl (x_nc_le (by decide)) ?_
    refine x_const (np := 65) (x := 9223372039002259456) (a := 2147483648) (by decide +kernel) (by decide) (by decide) ?_
    refine x_putI (np := 68) (x := 714) (f := 10) (by decide +kernel) (by decide +kernel) (by decide) (Or.inl (by decide)) ?_
    have j579 := jU (e := 10) (v := 2147483648) 0 j575 rg_75_10_0_1 (by omega) (by omega) (by omega)
    have f581 := jF (e := 10) (v := 2147483648) 0 f577 rg_75_10_0_1 (by omega) (by omega) (by decide)
    generalize e580 : x_up h574 75 10 2147483648 = h578 at j579 f581 ⊢
    refine x_aload (np := 69) (x := 0) (by decide +kernel) rfl (x_nc_le (by decide)) ?_
    refine x_ldcwB (i := 23) (idx := 266) (tx := "if") (by rw [tb_y193]; exact List.mem_of_getElem? (i := 58) rfl) (by decide) (by rw [tb_b193]; decide +kernel) ?_
    refine x_cI (t := 6) (mj := 171) (n := 2) (rc := 12) (ml := 2) (nr := 0) (np := 75) (as := [x_r 75, x_b (23 + 1)]) (rest := []) (lo1 := [x_r 75, x_b (23 + 1)]) (by decide +kernel) (by decide) (by decide +kernel) (x_rb_of (by decide +kernel)) rfl rfl (x_wr (by decide) (x_wB (by decide) x_wn)) x_wn (by decide) rfl (c171_75_S0 j579  (by decide)) (fun v582 h585 l583 q584 => ?_)
    obtain ⟨j586, f587, b588, c589, c590⟩ := q584
    have f591 := Fr.trans f581 f587 (by decide)
    have q592 : h578 75 7 = h574 75 7 := by rw [← e580]; exact x_up_i (by omega)
    have q593 : h574 75 7 = h567 75 7 := by rw [← e576]; exact x_up_k (by decide)
    have q594 : h567 75 7 = h 75 7 := by rw [← e569]; exact x_up_k (by decide)
    have b595 := jB (e := 7) 0 j586 rg_75_7_0_1 (by omega) (by omega)
    have q596 : h578 75 7 = h574 75 7 := by rw [← e580]; exact x_up_i (by omega)
    have q597 : h574 75 7 = h567 75 7 := by rw [← e576]; exact x_up_k (by decide)
    have q598 : h567 75 7 = h 75 7 := by rw [← e569]; exact x_up_k (by decide)
    refine x_ifz (k := 0) (tg := 87) (np := 78) (by decide +kernel) (by decide) l583 (fun q599 => ?_) (fun q600 => ?_)
    · have q599 : v582 = 2147483648 := q599
      refine x_aload (np := 88) (x := 0) (by decide +kernel) rfl (x_nc_le (by decide)) ?_
      have q601 : h585 75 1 = 76 := by have z := jB (e := 1) 0 j586 rg_75_1_0_1 (by decide) (by decide); omega
      refine x_getR (np := 91) (x := 705) (f := 1) (q := 76) (by decide +kernel) (by decide) (by decide +kernel) q601 ?_
      refine x_iload (np := 92) (x := 2) (by decide +kernel) rfl (by omega) ?_
      refine x_const (np := 93) (x := 9223372047592194050) (a := 2147483650) (by decide +kernel) (by decide) (by decide) ?_
      refine x_iadd (np := 94) (x := 0) (v := (2147484772 + 3 * u3)) (by decide +kernel) (by omega) (by decide) (by omega) (by omega) ?_
      refine x_aload (np := 95) (x := 0) (by decide +kernel) rfl (x_nc_le (by decide)) ?_
      have q602 : h585 75 13 = h578 75 13 := jK 0 f587 rg_75_13_0_1 (by omega) (by omega) (by decide)
      have q603 : h578 75 13 = h574 75 13 := by rw [← e580]; exact x_up_i (by omega)
      have q604 : h574 75 13 = h567 75 13 := by rw [← e576]; exact x_up_k (by decide)
      have q605 : h567 75 13 = h 75 13 := by rw [← e569]; exact x_up_k (by decide)
      refine x_getC (np := 98) (x := 717) (f := 13) (q := (h 75 13)) (by decide +kernel) (by decide) (by decide +kernel) (((q602.trans q603).trans q604).trans q605) (fun l606 => ?_)
      refine x_ast (np := 99) (x := 0) (kd := 1) (n := 1952) (i := (1124 + 3 * u3)) (by decide +kernel) (Or.inl rfl) (by decide +kernel) (by omega) (by omega) (by decide) l573 (fun z => absurd z (by decide)) ?_
      have j608 := jU (e := (1124 + 3 * u3)) (v := (h 75 13)) u3 j586 rg_76_1124_3_10 (by omega) (by omega) (by omega)
      have f610 := jF (e := (1124 + 3 * u3)) (v := (h 75 13)) u3 f591 rg_76_1124_3_10 (by omega) (by omega) (by decide)
      generalize e609 : x_up h585 76 (1124 + 3 * u3) (h 75 13) = h607 at j608 f610 ⊢
      refine x_const (np := 100) (x := 9223372043297226753) (a := 2147483649) (by decide +kernel) (by decide) (by decide) ?_
      have q611 : h607 75 13 = h585 75 13 := by rw [← e609]; exact x_up_k (by decide)
      have q612 : h585 75 13 = h578 75 13 := jK 0 f587 rg_75_13_0_1 (by omega) (by omega) (by decide)
      have q613 : h578 75 13 = h574 75 13 := by rw [← e580]; exact x_up_i (by omega)
      have q614 : h574 75 13 = h567 75 13 := by rw [← e576]; exact x_up_k (by decide)
      have q615 : h567 75 13 = h 75 13 := by rw [← e569]; exact x_up_k (by decide)
      have q616 : h607 75 7 = h585 75 7 := by rw [← e609]; exact x_up_k (by decide)
      have q617 : h607 75 13 = h585 75 13 := by rw [← e609]; exact x_up_k (by decide)
      have q618 : h585 75 13 = h578 75 13 := jK 0 f587 rg_75_13_0_1 (by omega) (by omega) (by decide)
      have q619 : h578 75 13 = h574 75 13 := by rw [← e580]; exact x_up_i (by omega)
      have q620 : h574 75 13 = h567 75 13 := by rw [← e576]; exact x_up_k (by decide)
      have q621 : h567 75 13 = h 75 13 := by rw [← e569]; exact x_up_k (by decide)
      have k626 : Kq h h567 (h 75 13 - 2147483648) := by rw [← e569]; exact Kq.up Kq.refl (by omega)
      have k625 : Kq h h574 (h 75 13 - 2147483648) := by rw [← e576]; exact Kq.up k626 (by omega)
      have k624 : Kq h h578 (h 75 13 - 2147483648) := by rw [← e580]; exact Kq.oth k625 (by decide)
      have k623 : Kq h h585 (h 75 13 - 2147483648) := Kq.fr k624 f587 (by omega) (by decide)
      have k622 : Kq h h607 (h 75 13 - 2147483648) := by rw [← e609]; exact Kq.up k623 (by omega)
      have k631 : Kl h h567 u3 := by rw [← e569]; exact Kl.up Kl.refl (by omega)
      have k630 : Kl h h574 u3 := by rw [← e576]; exact Kl.up k631 (by omega)
      have k629 : Kl h h578 u3 := by rw [← e580]; exact Kl.oth k630 (by decide)
      have k628 : Kl h h585 u3 := Kl.fr k629 f587 (by omega) (by decide)
      have k627 : Kl h h607 u3 := by rw [← e609]; exact Kl.up k628 (by omega)
      have e633 : a1 - 2147483648 = u3 := by omega
      have k632 : Kl h h607 (a1 - 2147483648) := by rw [e633]; exact k627
      have q634 : h607 76 (1123 + 3 * u3) = h585 76 (1123 + 3 * u3) := by rw [← e609]; exact x_up_i (by omega)
      have q635 : h585 76 (1123 + 3 * u3) = h578 76 (1123 + 3 * u3) := jK u3 f587 rg_76_1123_3_10 (by omega) (by omega) (by decide)
      have q636 : h578 76 (1123 + 3 * u3) = h574 76 (1123 + 3 * u3) := by rw [← e580]; exact x_up_k (by decide)
      have q637 : h574 76 (1123 + 3 * u3) = (h 75 13) := by rw [← e576]; exact x_up_at
      have q638 : h607 76 (1124 + 3 * u3) = (h 75 13) := by rw [← e609]; exact x_up_at
      have g639 : Lg h607 u3 := Or.inl (show h607 76 (1123 + 3 * u3) = h607 76 (1124 + 3 * u3) by omega)
      have g640 : Lg h607 (a1 - 2147483648) ∧ h607 76 (1124 + 3 * (a1 - 2147483648)) = h607 75 13 ∧ h 75 13 ≤ h607 75 13 := by
        rw [e633]
        exact ⟨g639, by omega, by omega⟩
      refine x_retI (np := 101) (x := 0) (by decide +kernel) (by decide) (Or.inr ⟨by decide +kernel, by omega, by omega⟩) ⟨_, rfl, (by decide), ?_⟩
      exact ⟨j608, f610, (by omega), (fun z => by omega), k622, k632, (fun _ => g640)⟩
    have q600 : ¬ (v582 = 2147483648) := q600
    have b641 := c590 (by omega)
    refine x_aload (np := 79) (x := 0) (by decide +kernel) rfl (x_nc_le (by decide)) ?_
    have q642 : h585 75 10 = h578 75 10 := jK 0 f587 rg_75_10_0_1 (by omega) (by omega) (by decide)
    have q643 : h578 75 10 = 2147483648 := by rw [← e580]; exact x_up_at
    have q644 : h585 75 13 = h578 75 13 := jK 0 f587 rg_75_13_0_1 (by omega) (by omega) (by decide)
    have q645 : h578 75 13 = h574 75 13 := by rw [← e580]; exact x_up_i (by omega)
    have q646 : h574 75 13 = h567 75 13 := by rw [← e576]; exact x_up_k (by decide)
    have q647 : h567 75 13 = h 75 13 := by rw [← e569]; exact x_up_k (by decide)
    have q648 : h585 75 10 = h578 75 10 := jK 0 f587 rg_75_10_0_1 (by omega) (by omega) (by decide)
    have q649 : h578 75 10 = 2147483648 := by rw [← e580]; exact x_up_at
    refine x_cI (t := 6) (mj := 192) (n := 1) (rc := 12) (ml := 1) (nr := 0) (np := 82) (as := [x_r 75]) (rest := []) (lo1 := [x_r 75]) (by decide +kernel) (by decide) (by decide +kernel) (x_rb_of (by decide +kernel)) rfl rfl (x_wr (by decide) x_wn) x_wn (by decide) rfl (c192_75_D0 j586  (by omega) (by omega)) (fun v650 h653 l651 q652 => ?_)
    obtain ⟨j654, f655, b656, c657, c658, c659, c660, c661, c662⟩ := q652
    have f663 := Fr.trans f591 f655 (by decide)
    have q664 : h585 75 13 = h578 75 13 := jK 0 f587 rg_75_13_0_1 (by omega) (by omega) (by decide)
    have q665 : h578 75 13 = h574 75 13 := by rw [← e580]; exact x_up_i (by omega)
    have q666 : h574 75 13 = h567 75 13 := by rw [← e576]; exact x_up_k (by decide)
    have q667 : h567 75 13 = h 75 13 := by rw [← e569]; exact x_up_k (by decide)
    have b668 := jB (e := 13) 0 j654 rg_75_13_0_1 (by omega) (by omega)
    have b669 := jB (e := 7) 0 j654 rg_75_7_0_1 (by omega) (by omega)
    have q670 : h585 75 10 = h578 75 10 := jK 0 f587 rg_75_10_0_1 (by omega) (by omega) (by decide)
    have q671 : h578 75 10 = 2147483648 := by rw [← e580]; exact x_up_at
    have b672 := jB (e := 10) 0 j654 rg_75_10_0_1 (by omega) (by omega)
    have q673 : h585 75 13 = h578 75 13 := jK 0 f587 rg_75_13_0_1 (by omega) (by omega) (by decide)
    have q674 : h578 75 13 = h574 75 13 := by rw [← e580]; exact x_up_i (by omega)
    have q675 : h574 75 13 = h567 75 13 := by rw [← e576]; exact x_up_k (by decide)
    have q676 : h567 75 13 = h 75 13 := by rw [← e569]; exact x_up_k (by decide)
    refine x_ifz (k := 1) (tg := 87) (np := 85) (by decide +kernel) (by decide) l651 (fun q677 => ?_) (fun q678 => ?_)
    · have q677 : v650 ≠ 2147483648 := q677
      have b679 := c657 (by omega)
      have b680 := c658 (by omega)
      have b681 := c659 (by omega)
      have b682 := c660 (by omega)
      have s683 := c662 (by omega)
      have q684 : h585 75 13 = h578 75 13 := jK 0 f587 rg_75_13_0_1 (by omega) (by omega) (by decide)
      have q685 : h578 75 13 = h574 75 13 := by rw [← e580]; exact x_up_i (by omega)
      have q686 : h574 75 13 = h567 75 13 := by rw [← e576]; exact x_up_k (by decide)
      have q687 : h567 75 13 = h 75 13 := by rw [← e569]; exact x_up_k (by decide)
      refine x_aload (np := 88) (x := 0) (by decide +kernel) rfl (x_nc_le (by decide)) ?_
      have q688 : h653 75 1 = 76 := by have z := jB (e := 1) 0 j654 rg_75_1_0_1 (by decide) (by decide); omega
      refine x_getR (np := 91) (x := 705) (f := 1) (q := 76) (by decide +kernel) (by decide) (by decide +kernel) q688 ?_
      refine x_iload (np := 92) (x := 2) (by decide +kernel) rfl (by omega) ?_
      refine x_const (np := 93) (x := 9223372047592194050) (a := 2147483650) (by decide +kernel) (by decide) (by decide) ?_
      refine x_iadd (np := 94) (x := 0) (v := (2147484772 + 3 * u3)) (by decide +kernel) (by omega) (by decide) (by omega) (by omega) ?_
      refine x_aload (np := 95) (x := 0) (by decide +kernel) rfl (x_nc_le (by decide)) ?_
      refine x_getC (np := 98) (x := 717) (f := 13) (q := (h653 75 13)) (by decide +kernel) (by decide) (by decide +kernel) rfl (fun l689 => ?_)
      refine x_ast (np := 99) (x := 0) (kd := 1) (n := 1952) (i := (1124 + 3 * u3)) (by decide +kernel) (Or.inl rfl) (by decide +kernel) (by omega) (by omega) (by decide) l689 (fun z => absurd z (by decide)) ?_
      have j691 := jU (e := (1124 + 3 * u3)) (v := (h653 75 13)) u3 j654 rg_76_1124_3_10 (by omega) (by omega) (by omega)
      have f693 := jF (e := (1124 + 3 * u3)) (v := (h653 75 13)) u3 f663 rg_76_1124_3_10 (by omega) (by omega) (by decide)
      generalize e692 : x_up h653 76 (1124 + 3 * u3) (h653 75 13) = h690 at j691 f693 ⊢
      refine x_const (np := 100) (x := 9223372043297226753) (a := 2147483649) (by decide +kernel) (by decide) (by decide) ?_
      have q694 : h690 75 13 = h653 75 13 := by rw [← e692]; exact x_up_k (by decide)
      have q695 : h690 75 7 = h653 75 7 := by rw [← e692]; exact x_up_k (by decide)
      have q696 : h690 75 13 = h653 75 13 := by rw [← e692]; exact x_up_k (by decide)
      have k702 : Kq h h567 (h 75 13 - 2147483648) := by rw [← e569]; exact Kq.up Kq.refl (by omega)
      have k701 : Kq h h574 (h 75 13 - 2147483648) := by rw [← e576]; exact Kq.up k702 (by omega)
      have k700 : Kq h h578 (h 75 13 - 2147483648) := by rw [← e580]; exact Kq.oth k701 (by decide)
      have k699 : Kq h h585 (h 75 13 - 2147483648) := Kq.fr k700 f587 (by omega) (by decide)
      have q703 : h585 75 13 = h578 75 13 := jK 0 f587 rg_75_13_0_1 (by omega) (by omega) (by decide)
      have q704 : h578 75 13 = h574 75 13 := by rw [← e580]; exact x_up_i (by omega)
      have q705 : h574 75 13 = h567 75 13 := by rw [← e576]; exact x_up_k (by decide)
      have q706 : h567 75 13 = h 75 13 := by rw [← e569]; exact x_up_k (by decide)
      have k698 : Kq h h653 (h 75 13 - 2147483648) := Kq.kp k699 c661 (by omega)
      have k697 : Kq h h690 (h 75 13 - 2147483648) := by rw [← e692]; exact Kq.up k698 (by omega)
      have k712 : Kl h h567 u3 := by rw [← e569]; exact Kl.up Kl.refl (by omega)
      have k711 : Kl h h574 u3 := by rw [← e576]; exact Kl.up k712 (by omega)
      have k710 : Kl h h578 u3 := by rw [← e580]; exact Kl.oth k711 (by decide)
      have k709 : Kl h h585 u3 := Kl.fr k710 f587 (by omega) (by decide)
      have k708 : Kl h h653 u3 := Kl.kp k709 c661 (by omega)
      have k707 : Kl h h690 u3 := by rw [← e692]; exact Kl.up k708 (by omega)
      have e714 : a1 - 2147483648 = u3 := by omega
      have k713 : Kl h h690 (a1 - 2147483648) := by rw [e714]; exact k707
      have q715 : h690 76 (1123 + 3 * u3) = h653 76 (1123 + 3 * u3) := by rw [← e692]; exact x_up_i (by omega)
      have b716 := jB (e := (1123 + 3 * u3)) u3 j654 rg_76_1123_3_10 (by omega) (by omega)
      have q717 : h690 76 (1124 + 3 * u3) = (h653 75 13) := by rw [← e692]; exact x_up_at
      have k719 : Kq h653 h690 (h653 75 13 - 2147483648) := by rw [← e692]; exact Kq.up Kq.refl (by omega)
      have q720 := c661.2 (1123 + 3 * u3) (by omega) (by omega)
      have q721 : h585 76 (1123 + 3 * u3) = h578 76 (1123 + 3 * u3) := jK u3 f587 rg_76_1123_3_10 (by omega) (by omega) (by decide)
      have q722 : h578 76 (1123 + 3 * u3) = h574 76 (1123 + 3 * u3) := by rw [← e580]; exact x_up_k (by decide)
      have q723 : h574 76 (1123 + 3 * u3) = (h 75 13) := by rw [← e576]; exact x_up_at
      have g718 : Lg h690 u3 := Or.inr (Seg.cast (a' := h690 76 (1123 + 3 * u3) - 2147483648) (b' := h690 76 (1124 + 3 * u3) - 2147483648) (Seg.kq s683 k719) (by rw [show h690 76 (1123 + 3 * u3) = h585 75 13 by omega]) (by rw [show h690 76 (1124 + 3 * u3) = h653 75 13 by omega]))
      have g724 : Lg h690 (a1 - 2147483648) ∧ h690 76 (1124 + 3 * (a1 - 2147483648)) = h690 75 13 ∧ h 75 13 ≤ h690 75 13 := by
        rw [e714]
        exact ⟨g718, by omega, by omega⟩
      refine x_retI (np := 101) (x := 0) (by decide +kernel) (by decide) (Or.inr ⟨by decide +kernel, by omega, by omega⟩) ⟨_, rfl, (by decide), ?_⟩
      exact ⟨j691, f693, (by omega), (fun z => by omega), k697, k713, (fun _ => g724)⟩
    have q678 : ¬ (v650 ≠ 2147483648) := q678
    refine x_const (np := 86) (x := 9223372039002259456) (a := 2147483648) (by decide +kernel) (by decide) (by decide) ?_
    have k729 : Kq h h567 (h 75 13 - 2147483648) := by rw [← e569]; exact Kq.up Kq.refl (by omega)
    have k728 : Kq h h574 (h 75 13 - 2147483648) := by rw [← e576]; exact Kq.up k729 (by omega)
    have k727 : Kq h h578 (h 75 13 - 2147483648) := by rw [← e580]; exact Kq.oth k728 (by decide)
    have k726 : Kq h h585 (h 75 13 - 2147483648) := Kq.fr k727 f587 (by omega) (by decide)
    have q730 : h585 75 13 = h578 75 13 := jK 0 f587 rg_75_13_0_1 (by omega) (by omega) (by decide)
    have q731 : h578 75 13 = h574 75 13 := by rw [← e580]; exact x_up_i (by omega)
    have q732 : h574 75 13 = h567 75 13 := by rw [← e576]; exact x_up_k (by decide)
    have q733 : h567 75 13 = h 75 13 := by rw [← e569]; exact x_up_k (by decide)
    have k725 : Kq h h653 (h 75 13 - 2147483648) := Kq.kp k726 c661 (by omega)
    have k738 : Kl h h567 u3 := by rw [← e569]; exact Kl.up Kl.refl (by omega)
    have k737 : Kl h h574 u3 := by rw [← e576]; exact Kl.up k738 (by omega)
    have k736 : Kl h h578 u3 := by rw [← e580]; exact Kl.oth k737 (by decide)
    have k735 : Kl h h585 u3 := Kl.fr k736 f587 (by omega) (by decide)
    have k734 : Kl h h653 u3 := Kl.kp k735 c661 (by omega)
    have e740 : a1 - 2147483648 = u3 := by omega
    have k739 : Kl h h653 (a1 - 2147483648) := by rw [e740]; exact k734
    refine x_retI (np := 87) (x := 0) (by decide +kernel) (by decide) (Or.inr ⟨by decide +kernel, by omega, by omega⟩) ⟨_, rfl, (by decide), ?_⟩
    exact ⟨j654, f663, (by omega), (fun z => by omega), k725, k739, (fun z => absurd z (by omega))⟩
  have q381 : ¬ (v374 ≠ 2147483648) := q381
  refine x_const (np := 29) (x := 9223372039002259456) (a := 2147483648) (by decide +kernel) (by decide) (by decide) ?_
  have e742 : a1 - 2147483648 = u3 := by omega
  have k741 : Kl h h (a1 - 2147483648) := by rw [e742]; exact Kl.refl
  refine x_retI (np := 30) (x := 0) (by decide +kernel) (by decide) (Or.inr ⟨by decide +kernel, by omega, by omega⟩) ⟨_, rfl, (by decide), ?_⟩
  exact ⟨hJ, hF, (by omega), (fun z => by omega), Kq.refl, k741, (fun z => absurd z (by omega))⟩
set_option maxHeartbeats 0 in
/-- LentNamesModel.readAll(Z)I -/
theorem c194_75_c0 {sc : Nat × Nat} {d  : Nat} {h : xh} (hJ : J h) : X sc 194 (d + 29) (xI fun r h' => J h' ∧ Fr 100139009 h h' ∧ (2147483647 ≤ r ∧ r ≤ 2147483658) ∧ (h' 75 6 = 2147483648) ∧ (2147483648 ≤ r → LnS (r - 2147483648) h')) 0 0 0 [x_r 75, iv_c 2147483648, 147573952589676412928] [] h := by
  have hF := Fr.refl 100139009 h
  refine x_aload (np := 1) (x := 0) (by decide +kernel) rfl (x_nc_le (by decide)) ?_
  refine x_aload (np := 2) (x := 0) (by decide +kernel) rfl (x_nc_le (by decide)) ?_
  have b1 := jB (e := 6) 0 hJ rg_75_6_0_1 (by omega) (by omega)
  refine x_getC (np := 5) (x := 710) (f := 6) (q := (h 75 6)) (by decide +kernel) (by decide) (by decide +kernel) rfl (fun l2 => ?_)
  refine x_putI (np := 8) (x := 712) (f := 8) (by decide +kernel) (by decide +kernel) l2 (Or.inl (by decide)) ?_
  have j4 := jU (e := 8) (v := (h 75 6)) 0 hJ rg_75_8_0_1 (by omega) (by omega) (by omega)
  have f6 := jF (e := 8) (v := (h 75 6)) 0 hF rg_75_8_0_1 (by omega) (by omega) (by decide)
  generalize e5 : x_up h 75 8 (h 75 6) = h3 at j4 f6 ⊢
  refine x_aload (np := 9) (x := 0) (by decide +kernel) rfl (x_nc_le (by decide)) ?_
  refine x_const (np := 10) (x := 9223372039002259456) (a := 2147483648) (by decide +kernel) (by decide) (by decide) ?_
  refine x_putI (np := 13) (x := 710) (f := 6) (by decide +kernel) (by decide +kernel) (by decide) (Or.inl (by decide)) ?_
  have j8 := jU (e := 6) (v := 2147483648) 0 j4 rg_75_6_0_1 (by omega) (by omega) (by omega)
  have f10 := jF (e := 6) (v := 2147483648) 0 f6 rg_75_6_0_1 (by omega) (by omega) (by decide)
  generalize e9 : x_up h3 75 6 2147483648 = h7 at j8 f10 ⊢
  refine x_aload (np := 14) (x := 0) (by decide +kernel) rfl (x_nc_le (by decide)) ?_
  refine x_const (np := 15) (x := 9223372039002259456) (a := 2147483648) (by decide +kernel) (by decide) (by decide) ?_
  refine x_putI (np := 18) (x := 711) (f := 7) (by decide +kernel) (by decide +kernel) (by decide) (Or.inl (by decide)) ?_
  have j12 := jU (e := 7) (v := 2147483648) 0 j8 rg_75_7_0_1 (by omega) (by omega) (by omega)
  have f14 := jF (e := 7) (v := 2147483648) 0 f10 rg_75_7_0_1 (by omega) (by omega) (by decide)
  generalize e13 : x_up h7 75 7 2147483648 = h11 at j12 f14 ⊢
  refine x_aload (np := 19) (x := 0) (by decide +kernel) rfl (x_nc_le (by decide)) ?_
  refine x_const (np := 20) (x := 9223372039002259456) (a := 2147483648) (by decide +kernel) (by decide) (by decide) ?_
  refine x_putI (np := 23) (x := 717) (f := 13) (by decide +kernel) (by decide +kernel) (by decide) (Or.inl (by decide)) ?_
  have j16 := jU (e := 13) (v := 2147483648) 0 j12 rg_75_13_0_1 (by omega) (by omega) (by omega)
  have f18 := jF (e := 13) (v := 2147483648) 0 f14 rg_75_13_0_1 (by omega) (by omega) (by decide)
  generalize e17 : x_up h11 75 13 2147483648 = h15 at j16 f18 ⊢
  refine x_aload (np := 24) (x := 0) (by decide +kernel) rfl (x_nc_le (by decide)) ?_
  refine x_cV (t := 6) (mj := 168) (n := 1) (rc := 12) (ml := 1) (nr := 0) (np := 27) (as := [x_r 75]) (rest := []) (lo1 := [x_r 75]) (by decide +kernel) (by decide) (by decide +kernel) (x_rb_of (by decide +kernel)) rfl rfl (x_wr (by decide) x_wn) x_wn (by decide) rfl (c168_75 j16 ) (fun h22 q21 => ?_)
  obtain ⟨j23, f24, c27, c28⟩ := q21
  have f29 := Fr.trans f18 f24 (by decide)
  have q30 : h15 75 7 = h11 75 7 := by rw [← e17]; exact x_up_i (by omega)
  have q31 : h11 75 7 = 2147483648 := by rw [← e13]; exact x_up_at
  have b32 := jB (e := 7) 0 j23 rg_75_7_0_1 (by omega) (by omega)
  have b33 := jB (e := 9) 0 j23 rg_75_9_0_1 (by omega) (by omega)
  refine x_aload (np := 28) (x := 0) (by decide +kernel) rfl (x_nc_le (by decide)) ?_
  refine x_getC (np := 31) (x := 711) (f := 7) (q := (h22 75 7)) (by decide +kernel) (by decide) (by decide +kernel) rfl (fun l34 => ?_)
  refine x_aload (np := 32) (x := 0) (by decide +kernel) rfl (x_nc_le (by decide)) ?_
  have q35 : h22 75 8 = h15 75 8 := jK 0 f24 rg_75_8_0_1 (by omega) (by omega) (by decide)
  have q36 : h15 75 8 = h11 75 8 := by rw [← e17]; exact x_up_i (by omega)
  have q37 : h11 75 8 = h7 75 8 := by rw [← e13]; exact x_up_i (by omega)
  have q38 : h7 75 8 = h3 75 8 := by rw [← e9]; exact x_up_i (by omega)
  have q39 : h3 75 8 = (h 75 6) := by rw [← e5]; exact x_up_at
  refine x_getC (np := 35) (x := 712) (f := 8) (q := (h 75 6)) (by decide +kernel) (by decide) (by decide +kernel) ((((q35.trans q36).trans q37).trans q38).trans q39) (fun l40 => ?_)
  refine x_icmp (k := 1) (tg := 40) (np := 38) (by decide +kernel) (by decide) l34 l2 (fun q41 => ?_) (fun q42 => ?_)
  · have q41 : (h22 75 7) ≠ (h 75 6) := q41
    refine x_const (np := 41) (x := 9223372039002259456) (a := 2147483648) (by decide +kernel) (by decide) (by decide) ?_
    refine x_istore (np := 42) (x := 2) (lo' := [x_r 75, iv_c 2147483648, iv_c 2147483648]) (by decide +kernel) (by decide) (Nat.le_of_ble_eq_true rfl) rfl ?_
    have p1265 : ∀ (n : Nat) (v1260 : Nat) (h1262 : xh), 4294967296 - v1260 < n → (2147483648 ≤ v1260 ∧ v1260 ≤ 2147483658) → h1262 75 13 ≤ h1262 75 7 → J h1262 → Fr 97517569 h22 h1262 → LnS (v1260 - 2147483648) h1262 → X sc 194 (d + 29) (xI fun r h' => J h' ∧ Fr 100139009 h h' ∧ (2147483647 ≤ r ∧ r ≤ 2147483658) ∧ (h' 75 6 = 2147483648) ∧ (2147483648 ≤ r → LnS (r - 2147483648) h')) 0 0 42 [x_r 75, iv_c 2147483648, iv_c v1260] [] h1262 := by
      intro n
      induction n with
      | zero => intro v1260 h1262 q1268; exact absurd q1268 (Nat.not_lt_zero _)
      | succ n i1269 =>
        intro v1260 h1262 q1268 b1261 b1266 j1264 f1263 m1267
        have f1270 := Fr.trans f29 f1263 (by decide)
        refine x_aload (np := 43) (x := 0) (by decide +kernel) rfl (x_nc_le (by decide)) ?_
        refine x_cV (t := 6) (mj := 169) (n := 1) (rc := 12) (ml := 1) (nr := 0) (np := 46) (as := [x_r 75]) (rest := []) (lo1 := [x_r 75]) (by decide +kernel) (by decide) (by decide +kernel) (x_rb_of (by decide +kernel)) rfl rfl (x_wr (by decide) x_wn) x_wn (by decide) rfl (c169_75 j1264 ) (fun h1274 q1273 => ?_)
        obtain ⟨j1275, f1276, c1279, c1280⟩ := q1273
        have f1281 := Fr.trans f1270 f1276 (by decide)
        have f1282 := Fr.trans f1263 f1276 (by decide)
        have b1283 := jB (e := 7) 0 j1264 rg_75_7_0_1 (by omega) (by omega)
        have b1284 := jB (e := 9) 0 j1275 rg_75_9_0_1 (by omega) (by omega)
        have b1285 := jB (e := 7) 0 j1275 rg_75_7_0_1 (by omega) (by omega)
        refine x_iload (np := 47) (x := 2) (by decide +kernel) rfl (by omega) ?_
        refine x_iload (np := 48) (x := 1) (by decide +kernel) rfl (by decide) ?_
        refine x_ifz (k := 0) (tg := 56) (np := 51) (by decide +kernel) (by decide) (by decide) (fun q1286 => ?_) (fun q1287 => ?_)
        · have q1286 : 2147483648 = 2147483648 := q1286
          refine x_const (np := 58) (x := 9223372081951932426) (a := 2147483658) (by decide +kernel) (by decide) (by decide) ?_
          refine x_icmp (k := 0) (tg := 83) (np := 61) (by decide +kernel) (by decide) (by omega) (by decide) (fun q1288 => ?_) (fun q1289 => ?_)
          · have q1288 : v1260 = 2147483658 := q1288
            refine x_const (np := 84) (x := 9223372034707292159) (a := 2147483647) (by decide +kernel) (by decide) (by decide) ?_
            have q1290 : h1274 75 6 = h1262 75 6 := jK 0 f1276 rg_75_6_0_1 (by omega) (by omega) (by decide)
            have q1291 : h1262 75 6 = h22 75 6 := jK 0 f1263 rg_75_6_0_1 (by omega) (by omega) (by decide)
            have q1292 : h22 75 6 = h15 75 6 := jK 0 f24 rg_75_6_0_1 (by omega) (by omega) (by decide)
            have q1293 : h15 75 6 = h11 75 6 := by rw [← e17]; exact x_up_i (by omega)
            have q1294 : h11 75 6 = h7 75 6 := by rw [← e13]; exact x_up_i (by omega)
            have q1295 : h7 75 6 = 2147483648 := by rw [← e9]; exact x_up_at
            refine x_retI (np := 85) (x := 0) (by decide +kernel) (by decide) (Or.inl (by decide +kernel)) ⟨_, rfl, (by decide), ?_⟩
            exact ⟨j1275, f1281, (by omega), (by omega), (fun z => absurd z (by omega))⟩
          have q1289 : ¬ (v1260 = 2147483658) := q1289
          refine x_iload (np := 62) (x := 1) (by decide +kernel) rfl (by decide) ?_
          refine x_ifz (k := 0) (tg := 75) (np := 65) (by decide +kernel) (by decide) (by decide) (fun q1296 => ?_) (fun q1297 => ?_)
          · have q1296 : 2147483648 = 2147483648 := q1296
            refine x_aload (np := 76) (x := 0) (by decide +kernel) rfl (x_nc_le (by decide)) ?_
            refine x_iload (np := 77) (x := 2) (by decide +kernel) rfl (by omega) ?_
            have q1298 : h1274 75 13 = h1262 75 13 := jK 0 f1276 rg_75_13_0_1 (by omega) (by omega) (by decide)
            have b1299 := jB (e := 13) 0 j1264 rg_75_13_0_1 (by omega) (by omega)
            refine x_cI (t := 6) (mj := 193) (n := 2) (rc := 12) (ml := 3) (nr := 0) (np := 80) (as := [x_r 75, iv_c v1260]) (rest := []) (lo1 := [x_r 75, iv_c v1260, 147573952589676412928]) (by decide +kernel) (by decide) (by decide +kernel) (x_rb_of (by decide +kernel)) rfl rfl (x_wr (by decide) (x_wi (by omega) x_wn)) x_wn (by decide) rfl (c193_75 j1275  (by omega) (by omega)) (fun v1300 h1303 l1301 q1302 => ?_)
            obtain ⟨j1304, f1305, b1306, c1307, c1308, c1309, c1310⟩ := q1302
            have f1311 := Fr.trans f1281 f1305 (by decide)
            have f1312 := Fr.trans f1282 f1305 (by decide)
            have b1313 := jB (e := 13) 0 j1304 rg_75_13_0_1 (by omega) (by omega)
            have b1314 := jB (e := 7) 0 j1304 rg_75_7_0_1 (by omega) (by omega)
            refine x_ifz (k := 1) (tg := 85) (np := 83) (by decide +kernel) (by decide) l1301 (fun q1315 => ?_) (fun q1316 => ?_)
            · have q1315 : v1300 ≠ 2147483648 := q1315
              have b1317 := c1307 (by omega)
              obtain ⟨u1318, q1319⟩ : ∃ z, v1260 = 2147483648 + z := ⟨v1260 - 2147483648, by omega⟩
              have m1322 : LnS (v1260 - 2147483648) h1274 := LnS.fr m1267 j1264 f1276 (by omega) (by decide) (by decide)
              obtain ⟨g1321a, g1321b, g1321c⟩ := c1310 (by omega)
              have m1320 : LnS (v1260 - 2147483648 + 1) h1303 := LnS.step m1322 c1309 c1308 g1321a g1321b g1321c
              refine x_aload (np := 86) (x := 0) (by decide +kernel) rfl (x_nc_le (by decide)) ?_
              refine x_cV (t := 6) (mj := 168) (n := 1) (rc := 12) (ml := 1) (nr := 0) (np := 89) (as := [x_r 75]) (rest := []) (lo1 := [x_r 75]) (by decide +kernel) (by decide) (by decide +kernel) (x_rb_of (by decide +kernel)) rfl rfl (x_wr (by decide) x_wn) x_wn (by decide) rfl (c168_75 j1304 ) (fun h1326 q1325 => ?_)
              obtain ⟨j1327, f1328, c1331, c1332⟩ := q1325
              have f1333 := Fr.trans f1311 f1328 (by decide)
              have f1334 := Fr.trans f1312 f1328 (by decide)
              have b1335 := jB (e := 7) 0 j1327 rg_75_7_0_1 (by omega) (by omega)
              have b1336 := jB (e := 9) 0 j1327 rg_75_9_0_1 (by omega) (by omega)
              refine x_aload (np := 90) (x := 0) (by decide +kernel) rfl (x_nc_le (by decide)) ?_
              refine x_getC (np := 93) (x := 711) (f := 7) (q := (h1326 75 7)) (by decide +kernel) (by decide) (by decide +kernel) rfl (fun l1337 => ?_)
              refine x_aload (np := 94) (x := 0) (by decide +kernel) rfl (x_nc_le (by decide)) ?_
              have q1338 : h1326 75 8 = h1303 75 8 := jK 0 f1328 rg_75_8_0_1 (by omega) (by omega) (by decide)
              have q1339 : h1303 75 8 = h1274 75 8 := jK 0 f1305 rg_75_8_0_1 (by omega) (by omega) (by decide)
              have q1340 : h1274 75 8 = h1262 75 8 := jK 0 f1276 rg_75_8_0_1 (by omega) (by omega) (by decide)
              have q1341 : h1262 75 8 = h22 75 8 := jK 0 f1263 rg_75_8_0_1 (by omega) (by omega) (by decide)
              have q1342 : h22 75 8 = h15 75 8 := jK 0 f24 rg_75_8_0_1 (by omega) (by omega) (by decide)
              have q1343 : h15 75 8 = h11 75 8 := by rw [← e17]; exact x_up_i (by omega)
              have q1344 : h11 75 8 = h7 75 8 := by rw [← e13]; exact x_up_i (by omega)
              have q1345 : h7 75 8 = h3 75 8 := by rw [← e9]; exact x_up_i (by omega)
              have q1346 : h3 75 8 = (h 75 6) := by rw [← e5]; exact x_up_at
              refine x_getC (np := 97) (x := 712) (f := 8) (q := (h 75 6)) (by decide +kernel) (by decide) (by decide +kernel) ((((((((q1338.trans q1339).trans q1340).trans q1341).trans q1342).trans q1343).trans q1344).trans q1345).trans q1346) (fun l1347 => ?_)
              refine x_icmp (k := 1) (tg := 104) (np := 100) (by decide +kernel) (by decide) l1337 l2 (fun q1348 => ?_) (fun q1349 => ?_)
              · have q1348 : (h1326 75 7) ≠ (h 75 6) := q1348
                refine x_aload (np := 105) (x := 0) (by decide +kernel) rfl (x_nc_le (by decide)) ?_
                refine x_const (np := 107) (x := 9223372292405329979) (a := 2147483707) (by decide +kernel) (by decide) (by decide) ?_
                refine x_const (np := 109) (x := 9223372292405329979) (a := 2147483707) (by decide +kernel) (by decide) (by decide) ?_
                refine x_nI (t := 6) (mj := 167) (n := 3) (rc := 12) (ml := 3) (nr := 0) (np := 112) (as := [x_r 75, iv_c 2147483707, iv_c 2147483707]) (rest := []) (lo1 := [x_r 75, iv_c 2147483707, iv_c 2147483707]) (by decide +kernel) (by decide) (by decide +kernel) (x_rb_of (by decide +kernel)) rfl rfl (x_wr (by decide) (x_wi (by decide) (x_wi (by decide) x_wn))) x_wn (by decide) rfl ?_
                refine x_aload (np := 1) (x := 0) (by decide +kernel) rfl (x_nc_le (by decide)) ?_
                refine x_getC (np := 4) (x := 711) (f := 7) (q := (h1326 75 7)) (by decide +kernel) (by decide) (by decide +kernel) rfl (fun l1350 => ?_)
                refine x_aload (np := 5) (x := 0) (by decide +kernel) rfl (x_nc_le (by decide)) ?_
                have q1351 : h1326 75 8 = h1303 75 8 := jK 0 f1328 rg_75_8_0_1 (by omega) (by omega) (by decide)
                have q1352 : h1303 75 8 = h1274 75 8 := jK 0 f1305 rg_75_8_0_1 (by omega) (by omega) (by decide)
                have q1353 : h1274 75 8 = h1262 75 8 := jK 0 f1276 rg_75_8_0_1 (by omega) (by omega) (by decide)
                have q1354 : h1262 75 8 = h22 75 8 := jK 0 f1263 rg_75_8_0_1 (by omega) (by omega) (by decide)
                have q1355 : h22 75 8 = h15 75 8 := jK 0 f24 rg_75_8_0_1 (by omega) (by omega) (by decide)
                have q1356 : h15 75 8 = h11 75 8 := by rw [← e17]; exact x_up_i (by omega)
                have q1357 : h11 75 8 = h7 75 8 := by rw [← e13]; exact x_up_i (by omega)
                have q1358 : h7 75 8 = h3 75 8 := by rw [← e9]; exact x_up_i (by omega)
                have q1359 : h3 75 8 = (h 75 6) := by rw [← e5]; exact x_up_at
                refine x_getC (np := 8) (x := 712) (f := 8) (q := (h 75 6)) (by decide +kernel) (by decide) (by decide +kernel) ((((((((q1351.trans q1352).trans q1353).trans q1354).trans q1355).trans q1356).trans q1357).trans q1358).trans q1359) (fun l1360 => ?_)
                refine x_icmp (k := 3) (tg := 41) (np := 11) (by decide +kernel) (by decide) l1337 l2 (fun q1361 => ?_) (fun q1362 => ?_)
                · have q1361 : (h 75 6) ≤ (h1326 75 7) := q1361
                  refine x_const (np := 42) (x := 9223372039002259456) (a := 2147483648) (by decide +kernel) (by decide) (by decide) ?_
                  refine x_retI (np := 43) (x := 0) (by decide +kernel) (by decide) (Or.inr ⟨by decide +kernel, by omega, by omega⟩) ⟨_, rfl, (by decide), ?_⟩
                  refine x_ifz (k := 1) (tg := 117) (np := 115) (by decide +kernel) (by decide) (by decide) (fun q1363 => ?_) (fun q1364 => ?_)
                  · have q1363 : 2147483648 ≠ 2147483648 := q1363
                    exfalso; omega
                  have q1364 : ¬ (2147483648 ≠ 2147483648) := q1364
                  refine x_const (np := 116) (x := 9223372034707292159) (a := 2147483647) (by decide +kernel) (by decide) (by decide) ?_
                  have q1365 : h1326 75 6 = h1303 75 6 := jK 0 f1328 rg_75_6_0_1 (by omega) (by omega) (by decide)
                  have q1366 : h1303 75 6 = h1274 75 6 := jK 0 f1305 rg_75_6_0_1 (by omega) (by omega) (by decide)
                  have q1367 : h1274 75 6 = h1262 75 6 := jK 0 f1276 rg_75_6_0_1 (by omega) (by omega) (by decide)
                  have q1368 : h1262 75 6 = h22 75 6 := jK 0 f1263 rg_75_6_0_1 (by omega) (by omega) (by decide)
                  have q1369 : h22 75 6 = h15 75 6 := jK 0 f24 rg_75_6_0_1 (by omega) (by omega) (by decide)
                  have q1370 : h15 75 6 = h11 75 6 := by rw [← e17]; exact x_up_i (by omega)
                  have q1371 : h11 75 6 = h7 75 6 := by rw [← e13]; exact x_up_i (by omega)
                  have q1372 : h7 75 6 = 2147483648 := by rw [← e9]; exact x_up_at
                  refine x_retI (np := 117) (x := 0) (by decide +kernel) (by decide) (Or.inl (by decide +kernel)) ⟨_, rfl, (by decide), ?_⟩
                  exact ⟨j1327, f1333, (by omega), (by omega), (fun z => absurd z (by omega))⟩
                have q1362 : ¬ ((h 75 6) ≤ (h1326 75 7)) := q1362
                refine x_aload (np := 12) (x := 0) (by decide +kernel) rfl (x_nc_le (by decide)) ?_
                have q1373 : h1326 75 5 = 79 := by have z := jB (e := 5) 0 j1327 rg_75_5_0_1 (by decide) (by decide); omega
                refine x_getR (np := 15) (x := 709) (f := 5) (q := 79) (by decide +kernel) (by decide) (by decide +kernel) q1373 ?_
                refine x_aload (np := 16) (x := 0) (by decide +kernel) rfl (x_nc_le (by decide)) ?_
                refine x_getC (np := 19) (x := 711) (f := 7) (q := (h1326 75 7)) (by decide +kernel) (by decide) (by decide +kernel) rfl (fun l1374 => ?_)
                obtain ⟨u1375, q1376⟩ : ∃ z, (h1326 75 7) = 2147483648 + z := ⟨(h1326 75 7) - 2147483648, by omega⟩
                have q1377 : h1326 79 u1375 = h1303 79 u1375 := jK u1375 f1328 rg_79_0_1_400 (by omega) (by omega) (by decide)
                have q1378 : h1303 79 u1375 = h1274 79 u1375 := jK u1375 f1305 rg_79_0_1_400 (by omega) (by omega) (by decide)
                have q1379 : h1274 79 u1375 = h1262 79 u1375 := jK u1375 f1276 rg_79_0_1_400 (by omega) (by omega) (by decide)
                have q1380 : h1262 79 u1375 = h22 79 u1375 := jK u1375 f1263 rg_79_0_1_400 (by omega) (by omega) (by decide)
                have q1381 : h22 79 u1375 = h15 79 u1375 := jK u1375 f24 rg_79_0_1_400 (by omega) (by omega) (by decide)
                have q1382 : h15 79 u1375 = h11 79 u1375 := by rw [← e17]; exact x_up_k (by decide)
                have q1383 : h11 79 u1375 = h7 79 u1375 := by rw [← e13]; exact x_up_k (by decide)
                have q1384 : h7 79 u1375 = h3 79 u1375 := by rw [← e9]; exact x_up_k (by decide)
                have q1385 : h3 79 u1375 = h 79 u1375 := by rw [← e5]; exact x_up_k (by decide)
                have b1386 := jB (e := u1375) u1375 hJ rg_79_0_1_400 (by omega) (by omega)
                refine x_baldC (np := 20) (x := 0) (n := 400) (i := u1375) (q := (h 79 u1375)) (by decide +kernel) (by decide +kernel) (by omega) (by omega) (by decide) ((((((((q1377.trans q1378).trans q1379).trans q1380).trans q1381).trans q1382).trans q1383).trans q1384).trans q1385) (fun l1387 => ?_)
                refine x_iload (np := 21) (x := 1) (by decide +kernel) rfl (by decide) ?_
                refine x_icmp (k := 2) (tg := 41) (np := 24) (by decide +kernel) (by decide) l1387 (by decide) (fun q1388 => ?_) (fun q1389 => ?_)
                · have q1388 : (h 79 u1375) < 2147483707 := q1388
                  refine x_const (np := 42) (x := 9223372039002259456) (a := 2147483648) (by decide +kernel) (by decide) (by decide) ?_
                  refine x_retI (np := 43) (x := 0) (by decide +kernel) (by decide) (Or.inr ⟨by decide +kernel, by omega, by omega⟩) ⟨_, rfl, (by decide), ?_⟩
                  refine x_ifz (k := 1) (tg := 117) (np := 115) (by decide +kernel) (by decide) (by decide) (fun q1390 => ?_) (fun q1391 => ?_)
                  · have q1390 : 2147483648 ≠ 2147483648 := q1390
                    exfalso; omega
                  have q1391 : ¬ (2147483648 ≠ 2147483648) := q1391
                  refine x_const (np := 116) (x := 9223372034707292159) (a := 2147483647) (by decide +kernel) (by decide) (by decide) ?_
                  have q1392 : h1326 75 6 = h1303 75 6 := jK 0 f1328 rg_75_6_0_1 (by omega) (by omega) (by decide)
                  have q1393 : h1303 75 6 = h1274 75 6 := jK 0 f1305 rg_75_6_0_1 (by omega) (by omega) (by decide)
                  have q1394 : h1274 75 6 = h1262 75 6 := jK 0 f1276 rg_75_6_0_1 (by omega) (by omega) (by decide)
                  have q1395 : h1262 75 6 = h22 75 6 := jK 0 f1263 rg_75_6_0_1 (by omega) (by omega) (by decide)
                  have q1396 : h22 75 6 = h15 75 6 := jK 0 f24 rg_75_6_0_1 (by omega) (by omega) (by decide)
                  have q1397 : h15 75 6 = h11 75 6 := by rw [← e17]; exact x_up_i (by omega)
                  have q1398 : h11 75 6 = h7 75 6 := by rw [← e13]; exact x_up_i (by omega)
                  have q1399 : h7 75 6 = 2147483648 := by rw [← e9]; exact x_up_at
                  refine x_retI (np := 117) (x := 0) (by decide +kernel) (by decide) (Or.inl (by decide +kernel)) ⟨_, rfl, (by decide), ?_⟩
                  exact ⟨j1327, f1333, (by omega), (by omega), (fun z => absurd z (by omega))⟩
                have q1389 : ¬ ((h 79 u1375) < 2147483707) := q1389
                refine x_aload (np := 25) (x := 0) (by decide +kernel) rfl (x_nc_le (by decide)) ?_
                have q1400 : h1326 75 5 = 79 := by have z := jB (e := 5) 0 j1327 rg_75_5_0_1 (by decide) (by decide); omega
                refine x_getR (np := 28) (x := 709) (f := 5) (q := 79) (by decide +kernel) (by decide) (by decide +kernel) q1400 ?_
                refine x_aload (np := 29) (x := 0) (by decide +kernel) rfl (x_nc_le (by decide)) ?_
                refine x_getC (np := 32) (x := 711) (f := 7) (q := (h1326 75 7)) (by decide +kernel) (by decide) (by decide +kernel) rfl (fun l1401 => ?_)
                have q1402 : h1326 79 u1375 = h1303 79 u1375 := jK u1375 f1328 rg_79_0_1_400 (by omega) (by omega) (by decide)
                have q1403 : h1303 79 u1375 = h1274 79 u1375 := jK u1375 f1305 rg_79_0_1_400 (by omega) (by omega) (by decide)
                have q1404 : h1274 79 u1375 = h1262 79 u1375 := jK u1375 f1276 rg_79_0_1_400 (by omega) (by omega) (by decide)
                have q1405 : h1262 79 u1375 = h22 79 u1375 := jK u1375 f1263 rg_79_0_1_400 (by omega) (by omega) (by decide)
                have q1406 : h22 79 u1375 = h15 79 u1375 := jK u1375 f24 rg_79_0_1_400 (by omega) (by omega) (by decide)
                have q1407 : h15 79 u1375 = h11 79 u1375 := by rw [← e17]; exact x_up_k (by decide)
                have q1408 : h11 79 u1375 = h7 79 u1375 := by rw [← e13]; exact x_up_k (by decide)
                have q1409 : h7 79 u1375 = h3 79 u1375 := by rw [← e9]; exact x_up_k (by decide)
                have q1410 : h3 79 u1375 = h 79 u1375 := by rw [← e5]; exact x_up_k (by decide)
                refine x_baldC (np := 33) (x := 0) (n := 400) (i := u1375) (q := (h 79 u1375)) (by decide +kernel) (by decide +kernel) (by omega) (by omega) (by decide) ((((((((q1402.trans q1403).trans q1404).trans q1405).trans q1406).trans q1407).trans q1408).trans q1409).trans q1410) (fun l1411 => ?_)
                refine x_iload (np := 34) (x := 2) (by decide +kernel) rfl (by decide) ?_
                refine x_icmp (k := 4) (tg := 41) (np := 37) (by decide +kernel) (by decide) l1387 (by decide) (fun q1412 => ?_) (fun q1413 => ?_)
                · have q1412 : 2147483707 < (h 79 u1375) := q1412
                  refine x_const (np := 42) (x := 9223372039002259456) (a := 2147483648) (by decide +kernel) (by decide) (by decide) ?_
                  refine x_retI (np := 43) (x := 0) (by decide +kernel) (by decide) (Or.inr ⟨by decide +kernel, by omega, by omega⟩) ⟨_, rfl, (by decide), ?_⟩
                  refine x_ifz (k := 1) (tg := 117) (np := 115) (by decide +kernel) (by decide) (by decide) (fun q1414 => ?_) (fun q1415 => ?_)
                  · have q1414 : 2147483648 ≠ 2147483648 := q1414
                    exfalso; omega
                  have q1415 : ¬ (2147483648 ≠ 2147483648) := q1415
                  refine x_const (np := 116) (x := 9223372034707292159) (a := 2147483647) (by decide +kernel) (by decide) (by decide) ?_
                  have q1416 : h1326 75 6 = h1303 75 6 := jK 0 f1328 rg_75_6_0_1 (by omega) (by omega) (by decide)
                  have q1417 : h1303 75 6 = h1274 75 6 := jK 0 f1305 rg_75_6_0_1 (by omega) (by omega) (by decide)
                  have q1418 : h1274 75 6 = h1262 75 6 := jK 0 f1276 rg_75_6_0_1 (by omega) (by omega) (by decide)
                  have q1419 : h1262 75 6 = h22 75 6 := jK 0 f1263 rg_75_6_0_1 (by omega) (by omega) (by decide)
                  have q1420 : h22 75 6 = h15 75 6 := jK 0 f24 rg_75_6_0_1 (by omega) (by omega) (by decide)
                  have q1421 : h15 75 6 = h11 75 6 := by rw [← e17]; exact x_up_i (by omega)
                  have q1422 : h11 75 6 = h7 75 6 := by rw [← e13]; exact x_up_i (by omega)
                  have q1423 : h7 75 6 = 2147483648 := by rw [← e9]; exact x_up_at
                  refine x_retI (np := 117) (x := 0) (by decide +kernel) (by decide) (Or.inl (by decide +kernel)) ⟨_, rfl, (by decide), ?_⟩
                  exact ⟨j1327, f1333, (by omega), (by omega), (fun z => absurd z (by omega))⟩
                have q1413 : ¬ (2147483707 < (h 79 u1375)) := q1413
                refine x_const (np := 38) (x := 9223372043297226753) (a := 2147483649) (by decide +kernel) (by decide) (by decide) ?_
                refine x_goto (np := 41) (x := 42) (by decide +kernel) ?_
                refine x_retI (np := 43) (x := 0) (by decide +kernel) (by decide) (Or.inr ⟨by decide +kernel, by omega, by omega⟩) ⟨_, rfl, (by decide), ?_⟩
                refine x_ifz (k := 1) (tg := 117) (np := 115) (by decide +kernel) (by decide) (by decide) (fun q1424 => ?_) (fun q1425 => ?_)
                · have q1424 : 2147483649 ≠ 2147483648 := q1424
                  refine x_aload (np := 118) (x := 0) (by decide +kernel) rfl (x_nc_le (by decide)) ?_
                  refine x_dup (np := 119) (x := 0) (by decide +kernel) (by have z := x_nc_le (k := 75) (by decide); unfold x_r; omega) ?_
                  refine x_getC (np := 122) (x := 711) (f := 7) (q := (h1326 75 7)) (by decide +kernel) (by decide) (by decide +kernel) rfl (fun l1426 => ?_)
                  refine x_const (np := 123) (x := 9223372043297226753) (a := 2147483649) (by decide +kernel) (by decide) (by decide) ?_
                  refine x_iadd (np := 124) (x := 0) (v := (1 + (h1326 75 7))) (by decide +kernel) l1337 (by decide) (by omega) (by omega) ?_
                  refine x_putI (np := 127) (x := 711) (f := 7) (by decide +kernel) (by decide +kernel) (by omega) (Or.inl (by decide)) ?_
                  have j1428 := jU (e := 7) (v := (1 + (h1326 75 7))) 0 j1327 rg_75_7_0_1 (by omega) (by omega) (by omega)
                  have f1430 := jF (e := 7) (v := (1 + (h1326 75 7))) 0 f1333 rg_75_7_0_1 (by omega) (by omega) (by decide)
                  have f1431 := jF (e := 7) (v := (1 + (h1326 75 7))) 0 f1334 rg_75_7_0_1 (by omega) (by omega) (by decide)
                  generalize e1429 : x_up h1326 75 7 (1 + (h1326 75 7)) = h1427 at j1428 f1430 f1431 ⊢
                  refine x_iinc (np := 130) (i := 2) (j := 2147483649) (v := (1 + v1260)) (lo' := [x_r 75, iv_c 2147483648, iv_c (1 + v1260)]) (by decide +kernel) (by decide) (by decide) rfl (by omega) (by omega) (by omega) rfl ?_
                  refine x_goto (np := 133) (x := 42) (by decide +kernel) ?_
                  have b1432 := jB (e := 7) 0 hJ rg_75_7_0_1 (by omega) (by omega)
                  have q1433 : h1427 75 7 = (1 + (h1326 75 7)) := by rw [← e1429]; exact x_up_at
                  have b1434 := jB (e := 13) 0 hJ rg_75_13_0_1 (by omega) (by omega)
                  have q1435 : h1427 75 13 = h1326 75 13 := by rw [← e1429]; exact x_up_i (by omega)
                  have q1436 : h1326 75 13 = h1303 75 13 := jK 0 f1328 rg_75_13_0_1 (by omega) (by omega) (by decide)
                  have m1438 : LnS (v1260 - 2147483648 + 1) h1326 := LnS.fr m1320 j1304 f1328 (by omega) (by decide) (by decide)
                  have m1437 : LnS (v1260 - 2147483648 + 1) h1427 := by rw [← e1429]; exact LnS.oth m1438 (by decide) (by decide)
                  exact i1269 (1 + v1260) h1427 (by omega) (by omega) (by omega) j1428 f1431 (LnS.cast m1437 (by omega))
                have q1425 : ¬ (2147483649 ≠ 2147483648) := q1425
                exfalso; omega
              have q1349 : ¬ ((h1326 75 7) ≠ (h 75 6)) := q1349
              refine x_iload (np := 101) (x := 2) (by decide +kernel) rfl (by omega) ?_
              refine x_const (np := 102) (x := 9223372043297226753) (a := 2147483649) (by decide +kernel) (by decide) (by decide) ?_
              refine x_iadd (np := 103) (x := 0) (v := (1 + v1260)) (by decide +kernel) (by omega) (by decide) (by omega) (by omega) ?_
              have q1439 : h1326 75 6 = h1303 75 6 := jK 0 f1328 rg_75_6_0_1 (by omega) (by omega) (by decide)
              have q1440 : h1303 75 6 = h1274 75 6 := jK 0 f1305 rg_75_6_0_1 (by omega) (by omega) (by decide)
              have q1441 : h1274 75 6 = h1262 75 6 := jK 0 f1276 rg_75_6_0_1 (by omega) (by omega) (by decide)
              have q1442 : h1262 75 6 = h22 75 6 := jK 0 f1263 rg_75_6_0_1 (by omega) (by omega) (by decide)
              have q1443 : h22 75 6 = h15 75 6 := jK 0 f24 rg_75_6_0_1 (by omega) (by omega) (by decide)
              have q1444 : h15 75 6 = h11 75 6 := by rw [← e17]; exact x_up_i (by omega)
              have q1445 : h11 75 6 = h7 75 6 := by rw [← e13]; exact x_up_i (by omega)
              have q1446 : h7 75 6 = 2147483648 := by rw [← e9]; exact x_up_at
              have m1447 : LnS (v1260 - 2147483648 + 1) h1326 := LnS.fr m1320 j1304 f1328 (by omega) (by decide) (by decide)
              refine x_retI (np := 104) (x := 0) (by decide +kernel) (by omega) (Or.inl (by decide +kernel)) ⟨_, rfl, (by omega), ?_⟩
              exact ⟨j1327, f1333, (by omega), (by omega), (fun _ => LnS.cast m1447 (by omega))⟩
            have q1316 : ¬ (v1300 ≠ 2147483648) := q1316
            refine x_const (np := 84) (x := 9223372034707292159) (a := 2147483647) (by decide +kernel) (by decide) (by decide) ?_
            have q1448 : h1303 75 6 = h1274 75 6 := jK 0 f1305 rg_75_6_0_1 (by omega) (by omega) (by decide)
            have q1449 : h1274 75 6 = h1262 75 6 := jK 0 f1276 rg_75_6_0_1 (by omega) (by omega) (by decide)
            have q1450 : h1262 75 6 = h22 75 6 := jK 0 f1263 rg_75_6_0_1 (by omega) (by omega) (by decide)
            have q1451 : h22 75 6 = h15 75 6 := jK 0 f24 rg_75_6_0_1 (by omega) (by omega) (by decide)
            have q1452 : h15 75 6 = h11 75 6 := by rw [← e17]; exact x_up_i (by omega)
            have q1453 : h11 75 6 = h7 75 6 := by rw [← e13]; exact x_up_i (by omega)
            have q1454 : h7 75 6 = 2147483648 := by rw [← e9]; exact x_up_at
            refine x_retI (np := 85) (x := 0) (by decide +kernel) (by decide) (Or.inl (by decide +kernel)) ⟨_, rfl, (by decide), ?_⟩
            exact ⟨j1304, f1311, (by omega), (by omega), (fun z => absurd z (by omega))⟩
          have q1297 : ¬ (2147483648 = 2147483648) := q1297
          exfalso; omega
        have q1287 : ¬ (2147483648 = 2147483648) := q1287
        exfalso; omega
    have b1455 := jB (e := 7) 0 hJ rg_75_7_0_1 (by omega) (by omega)
    have b1456 := jB (e := 13) 0 hJ rg_75_13_0_1 (by omega) (by omega)
    have q1457 : h22 75 13 = h15 75 13 := jK 0 f24 rg_75_13_0_1 (by omega) (by omega) (by decide)
    have q1458 : h15 75 13 = 2147483648 := by rw [← e17]; exact x_up_at
    exact p1265 _ 2147483648 h22 (Nat.lt_succ_self _) (by omega) (by omega) j23 (Fr.refl _ _) LnS.zero
  have q42 : ¬ ((h22 75 7) ≠ (h 75 6)) := q42
  refine x_const (np := 39) (x := 9223372039002259456) (a := 2147483648) (by decide +kernel) (by decide) (by decide) ?_
  have q1459 : h22 75 6 = h15 75 6 := jK 0 f24 rg_75_6_0_1 (by omega) (by omega) (by decide)
  have q1460 : h15 75 6 = h11 75 6 := by rw [← e17]; exact x_up_i (by omega)
  have q1461 : h11 75 6 = h7 75 6 := by rw [← e13]; exact x_up_i (by omega)
  have q1462 : h7 75 6 = 2147483648 := by rw [← e9]; exact x_up_at
  refine x_retI (np := 40) (x := 0) (by decide +kernel) (by decide) (Or.inl (by decide +kernel)) ⟨_, rfl, (by decide), ?_⟩
  exact ⟨j23, f29, (by omega), (by omega), (fun _ => LnS.zero)⟩
set_option maxHeartbeats 0 in
/-- LentNamesModel.custom()I -/
theorem c196_75 {sc : Nat × Nat} {d  : Nat} {h : xh} (hJ : J h) (hW : WT 76 h) : X sc 196 (d + 30) (xI fun r h' => J h' ∧ Fr 133824513 h h' ∧ (2147483648 ≤ r ∧ r ≤ 2147483658) ∧ (h' 75 6 = 2147483648) ∧ WT 76 h') 0 0 0 [x_r 75, 147573952589676412928, 147573952589676412928] [] h := by
  have hF := Fr.refl 133824513 h
  refine x_aload (np := 1) (x := 0) (by decide +kernel) rfl (x_nc_le (by decide)) ?_
  refine x_const (np := 2) (x := 9223372039002259456) (a := 2147483648) (by decide +kernel) (by decide) (by decide) ?_
  refine x_putI (np := 5) (x := 704) (f := 0) (by decide +kernel) (by decide +kernel) (by decide) (Or.inl (by decide)) ?_
  have j2 := jU (e := 0) (v := 2147483648) 0 hJ rg_75_0_0_1 (by omega) (by omega) (by omega)
  have f4 := jF (e := 0) (v := 2147483648) 0 hF rg_75_0_0_1 (by omega) (by omega) (by decide)
  generalize e3 : x_up h 75 0 2147483648 = h1 at j2 f4 ⊢
  refine x_aload (np := 6) (x := 0) (by decide +kernel) rfl (x_nc_le (by decide)) ?_
  refine x_const (np := 7) (x := 9223372039002259456) (a := 2147483648) (by decide +kernel) (by decide) (by decide) ?_
  refine x_cI (t := 6) (mj := 194) (n := 2) (rc := 12) (ml := 3) (nr := 0) (np := 10) (as := [x_r 75, iv_c 2147483648]) (rest := []) (lo1 := [x_r 75, iv_c 2147483648, 147573952589676412928]) (by decide +kernel) (by decide) (by decide +kernel) (x_rb_of (by decide +kernel)) rfl rfl (x_wr (by decide) (x_wi (by decide) x_wn)) x_wn (by decide) rfl (c194_75_c0 j2  ) (fun v5 h8 l6 q7 => ?_)
  obtain ⟨j9, f10, b11, c12, c13⟩ := q7
  have f14 := Fr.trans f4 f10 (by decide)
  have b15 := jB (e := 6) 0 j9 rg_75_6_0_1 (by omega) (by omega)
  refine x_istore (np := 11) (x := 1) (lo' := [x_r 75, iv_c v5, 147573952589676412928]) (by decide +kernel) l6 (Nat.le_of_ble_eq_true rfl) rfl ?_
  refine x_aload (np := 12) (x := 0) (by decide +kernel) rfl (x_nc_le (by decide)) ?_
  refine x_iload (np := 13) (x := 1) (by decide +kernel) rfl l6 ?_
  refine x_ifz (k := 3) (tg := 23) (np := 16) (by decide +kernel) (by decide) l6 (fun q16 => ?_) (fun q17 => ?_)
  · have q16 : 2147483648 ≤ v5 := q16
    have m18 := c13 (by omega)
    refine x_const (np := 24) (x := 9223372034707292159) (a := 2147483647) (by decide +kernel) (by decide) (by decide) ?_
    refine x_putI (np := 27) (x := 715) (f := 11) (by decide +kernel) (by decide +kernel) (by decide) (Or.inl (by decide)) ?_
    have j20 := jU (e := 11) (v := 2147483647) 0 j9 rg_75_11_0_1 (by omega) (by omega) (by omega)
    have f22 := jF (e := 11) (v := 2147483647) 0 f14 rg_75_11_0_1 (by omega) (by omega) (by decide)
    generalize e21 : x_up h8 75 11 2147483647 = h19 at j20 f22 ⊢
    refine x_aload (np := 28) (x := 0) (by decide +kernel) rfl (x_nc_le (by decide)) ?_
    refine x_iload (np := 29) (x := 1) (by decide +kernel) rfl l6 ?_
    refine x_ifz (k := 3) (tg := 36) (np := 32) (by decide +kernel) (by decide) l6 (fun q23 => ?_) (fun q24 => ?_)
    · have q23 : 2147483648 ≤ v5 := q23
      refine x_const (np := 37) (x := 9223372039002259456) (a := 2147483648) (by decide +kernel) (by decide) (by decide) ?_
      refine x_const (np := 38) (x := 9223372043297226753) (a := 2147483649) (by decide +kernel) (by decide) (by decide) ?_
      refine x_nI (t := 6) (mj := 152) (n := 3) (rc := 12) (ml := 3) (nr := 0) (np := 41) (as := [x_r 75, iv_c 2147483648, iv_c 2147483649]) (rest := []) (lo1 := [x_r 75, iv_c 2147483648, iv_c 2147483649]) (by decide +kernel) (by decide) (by decide +kernel) (x_rb_of (by decide +kernel)) rfl rfl (x_wr (by decide) (x_wi (by decide) (x_wi (by decide) x_wn))) x_wn (by decide) rfl ?_
      refine x_iload (np := 1) (x := 1) (by decide +kernel) rfl (by decide) ?_
      refine x_ifz (k := 0) (tg := 9) (np := 4) (by decide +kernel) (by decide) (by decide) (fun q25 => ?_) (fun q26 => ?_)
      · have q25 : 2147483648 = 2147483648 := q25
        refine x_iload (np := 10) (x := 1) (by decide +kernel) rfl (by decide) ?_
        refine x_retI (np := 11) (x := 0) (by decide +kernel) (by decide) (Or.inr ⟨by decide +kernel, by omega, by omega⟩) ⟨_, rfl, (by decide), ?_⟩
        refine x_ifz (k := 0) (tg := 46) (np := 44) (by decide +kernel) (by decide) (by decide) (fun q27 => ?_) (fun q28 => ?_)
        · have q27 : 2147483648 = 2147483648 := q27
          refine x_aload (np := 47) (x := 0) (by decide +kernel) rfl (x_nc_le (by decide)) ?_
          have q29 : h19 75 1 = 76 := by have z := jB (e := 1) 0 j20 rg_75_1_0_1 (by decide) (by decide); omega
          refine x_getR (np := 50) (x := 705) (f := 1) (q := 76) (by decide +kernel) (by decide) (by decide +kernel) q29 ?_
          refine x_const (np := 53) (x := 9223376853660599393) (a := 2147484769) (by decide +kernel) (by decide) (by decide) ?_
          refine x_iload (np := 54) (x := 1) (by decide +kernel) rfl l6 ?_
          refine x_ast (np := 55) (x := 0) (kd := 1) (n := 1952) (i := 1121) (by decide +kernel) (Or.inl rfl) (by decide +kernel) (by omega) (by omega) (by decide) l6 (fun z => absurd z (by decide)) ?_
          have j31 := jU (e := 1121) (v := v5) 0 j20 rg_76_1121_0_1 (by omega) (by omega) (by omega)
          have f33 := jF (e := 1121) (v := v5) 0 f22 rg_76_1121_0_1 (by omega) (by omega) (by decide)
          generalize e32 : x_up h19 76 1121 v5 = h30 at j31 f33 ⊢
          refine x_const (np := 56) (x := 9223372039002259456) (a := 2147483648) (by decide +kernel) (by decide) (by decide) ?_
          refine x_istore (np := 57) (x := 2) (lo' := [x_r 75, iv_c v5, iv_c 2147483648]) (by decide +kernel) (by decide) (Nat.le_of_ble_eq_true rfl) rfl ?_
          have p445 : ∀ (n : Nat) (v440 : Nat) (h442 : xh), 4294967296 - v440 < n → (2147483648 ≤ v440 ∧ v440 ≤ 2147484479) → J h442 → Fr 33554432 h30 h442 → Cp6 h30 h442 (v440 - 2147483648) → X sc 196 (d + 30) (xI fun r h' => J h' ∧ Fr 133824513 h h' ∧ (2147483648 ≤ r ∧ r ≤ 2147483658) ∧ (h' 75 6 = 2147483648) ∧ WT 76 h') 0 0 57 [x_r 75, iv_c v5, iv_c v440] [] h442 := by
            intro n
            induction n with
            | zero => intro v440 h442 q447; exact absurd q447 (Nat.not_lt_zero _)
            | succ n i448 =>
              intro v440 h442 q447 b441 j444 f443 m446
              have f449 := Fr.trans f33 f443 (by decide)
              refine x_iload (np := 58) (x := 2) (by decide +kernel) rfl (by omega) ?_
              refine x_const (np := 61) (x := 9223375608120083263) (a := 2147484479) (by decide +kernel) (by decide) (by decide) ?_
              refine x_icmp (k := 3) (tg := 90) (np := 64) (by decide +kernel) (by decide) (by omega) (by decide) (fun q450 => ?_) (fun q451 => ?_)
              · have q450 : 2147484479 ≤ v440 := q450
                refine x_aload (np := 91) (x := 0) (by decide +kernel) rfl (x_nc_le (by decide)) ?_
                have q452 : h442 75 1 = 76 := by have z := jB (e := 1) 0 j444 rg_75_1_0_1 (by decide) (by decide); omega
                refine x_getR (np := 94) (x := 705) (f := 1) (q := 76) (by decide +kernel) (by decide) (by decide +kernel) q452 ?_
                refine x_const (np := 96) (x := 9223372064772063238) (a := 2147483654) (by decide +kernel) (by decide) (by decide) ?_
                refine x_const (np := 97) (x := 9223372043297226753) (a := 2147483649) (by decide +kernel) (by decide) (by decide) ?_
                refine x_ast (np := 98) (x := 0) (kd := 1) (n := 1952) (i := 6) (by decide +kernel) (Or.inl rfl) (by decide +kernel) (by omega) (by omega) (by decide) (by decide) (fun z => absurd z (by decide)) ?_
                have j454 := jU (e := 6) (v := 2147483649) 0 j444 rg_76_6_0_1 (by omega) (by omega) (by omega)
                have f456 := jF (e := 6) (v := 2147483649) 0 f449 rg_76_6_0_1 (by omega) (by omega) (by decide)
                generalize e455 : x_up h442 76 6 2147483649 = h453 at j454 f456 ⊢
                refine x_iload (np := 99) (x := 1) (by decide +kernel) rfl l6 ?_
                have q457 : h453 75 6 = h442 75 6 := by rw [← e455]; exact x_up_k (by decide)
                have q458 : h442 75 6 = h30 75 6 := jK 0 f443 rg_75_6_0_1 (by omega) (by omega) (by decide)
                have q459 : h30 75 6 = h19 75 6 := by rw [← e32]; exact x_up_k (by decide)
                have q460 : h19 75 6 = h8 75 6 := by rw [← e21]; exact x_up_i (by omega)
                have m462 : LnS (v5 - 2147483648) h19 := by rw [← e21]; exact LnS.oth m18 (by decide) (by decide)
                have m461 : LnS (v5 - 2147483648) h30 := by rw [← e32]; exact LnS.up m462 (by decide)
                have q463 : h30 75 13 = h19 75 13 := by rw [← e32]; exact x_up_k (by decide)
                have q464 : h19 75 13 = h8 75 13 := by rw [← e21]; exact x_up_i (by omega)
                have b465 := jB (e := 13) 0 j9 rg_75_13_0_1 (by omega) (by omega)
                have q466 : h30 76 1121 = v5 := by rw [← e32]; exact x_up_at
                have m467 : WT 76 h442 := WT.mk m461 m446 (by omega) (by omega) (by omega) (by omega)
                have m468 : WT 76 h453 := by rw [← e455]; exact WT.up m467 j444 (by omega)
                refine x_retI (np := 100) (x := 0) (by decide +kernel) l6 (Or.inl (by decide +kernel)) ⟨_, rfl, l6, ?_⟩
                exact ⟨j454, f456, (by omega), (by omega), m468⟩
              have q451 : ¬ (2147484479 ≤ v440) := q451
              refine x_aload (np := 65) (x := 0) (by decide +kernel) rfl (x_nc_le (by decide)) ?_
              have q469 : h442 75 1 = 76 := by have z := jB (e := 1) 0 j444 rg_75_1_0_1 (by decide) (by decide); omega
              refine x_getR (np := 68) (x := 705) (f := 1) (q := 76) (by decide +kernel) (by decide) (by decide +kernel) q469 ?_
              refine x_const (np := 71) (x := 9223373284542775586) (a := 2147483938) (by decide +kernel) (by decide) (by decide) ?_
              refine x_iload (np := 72) (x := 2) (by decide +kernel) rfl (by omega) ?_
              refine x_iadd (np := 73) (x := 0) (v := (290 + v440)) (by decide +kernel) (by decide) (by omega) (by omega) (by omega) ?_
              refine x_aload (np := 74) (x := 0) (by decide +kernel) rfl (x_nc_le (by decide)) ?_
              have q470 : h442 75 1 = 76 := by have z := jB (e := 1) 0 j444 rg_75_1_0_1 (by decide) (by decide); omega
              refine x_getR (np := 77) (x := 705) (f := 1) (q := 76) (by decide +kernel) (by decide) (by decide +kernel) q470 ?_
              refine x_const (np := 80) (x := 9223376853660599393) (a := 2147484769) (by decide +kernel) (by decide) (by decide) ?_
              refine x_iload (np := 81) (x := 2) (by decide +kernel) rfl (by omega) ?_
              refine x_iadd (np := 82) (x := 0) (v := (1121 + v440)) (by decide +kernel) (by decide) (by omega) (by omega) (by omega) ?_
              obtain ⟨u471, q472⟩ : ∃ z, v440 = 2147483648 + z := ⟨v440 - 2147483648, by omega⟩
              refine x_aldC (np := 83) (x := 0) (n := 1952) (i := (1121 + u471)) (q := (h442 76 (1121 + u471))) (by decide +kernel) (by decide +kernel) (by omega) (by omega) (by decide) rfl (fun l473 => ?_)
              refine x_ast (np := 84) (x := 0) (kd := 1) (n := 1952) (i := (290 + u471)) (by decide +kernel) (Or.inl rfl) (by decide +kernel) (by omega) (by omega) (by decide) l473 (fun z => absurd z (by decide)) ?_
              have j475 := cwJ (e := (290 + u471)) (v := (h442 76 (1121 + u471))) u471 j444 j444 cw_76_290_76_1121_831 (by omega) (by omega) (by first | rfl | (congr 1; omega))
              have f477 := cwF (e := (290 + u471)) (v := (h442 76 (1121 + u471))) u471 f449 cw_76_290_76_1121_831 (by omega) (by omega) (by decide)
              have f478 := cwF (e := (290 + u471)) (v := (h442 76 (1121 + u471))) u471 f443 cw_76_290_76_1121_831 (by omega) (by omega) (by decide)
              generalize e476 : x_up h442 76 (290 + u471) (h442 76 (1121 + u471)) = h474 at j475 f477 f478 ⊢
              refine x_iinc (np := 87) (i := 2) (j := 2147483649) (v := (1 + v440)) (lo' := [x_r 75, iv_c v5, iv_c (1 + v440)]) (by decide +kernel) (by decide) (by decide) rfl (by omega) (by omega) (by omega) rfl ?_
              refine x_goto (np := 90) (x := 57) (by decide +kernel) ?_
              have m479 : Cp6 h30 h474 ((1 + v440) - 2147483648) := by
                have e0 : v440 - 2147483648 = u471 := by omega
                have e9 : (1 + v440) = 2147483648 + (u471 + 1) := by omega
                have e1 : (1 + v440) - 2147483648 = u471 + 1 := by rw [e9]; exact Nat.add_sub_cancel_left _ _
                have p9 := m446
                rw [e0] at p9
                rw [e1, ← e476]
                exact Cp6.step p9 f443 (by decide) (by omega)
              exact i448 (1 + v440) h474 (by omega) (by omega) j475 f478 m479
          exact p445 _ 2147483648 h30 (Nat.lt_succ_self _) (by omega) j31 (Fr.refl _ _) Cp6.zero
        have q28 : ¬ (2147483648 = 2147483648) := q28
        exfalso; omega
      have q26 : ¬ (2147483648 = 2147483648) := q26
      exfalso; omega
    have q24 : ¬ (2147483648 ≤ v5) := q24
    exfalso; omega
  have q17 : ¬ (2147483648 ≤ v5) := q17
  refine x_aload (np := 17) (x := 0) (by decide +kernel) rfl (x_nc_le (by decide)) ?_
  have b480 := jB (e := 9) 0 j9 rg_75_9_0_1 (by omega) (by omega)
  refine x_getC (np := 20) (x := 713) (f := 9) (q := (h8 75 9)) (by decide +kernel) (by decide) (by decide +kernel) rfl (fun l481 => ?_)
  refine x_goto (np := 23) (x := 24) (by decide +kernel) ?_
  refine x_putI (np := 27) (x := 715) (f := 11) (by decide +kernel) (by decide +kernel) l481 (Or.inl (by decide)) ?_
  have j483 := jU (e := 11) (v := (h8 75 9)) 0 j9 rg_75_11_0_1 (by omega) (by omega) (by omega)
  have f485 := jF (e := 11) (v := (h8 75 9)) 0 f14 rg_75_11_0_1 (by omega) (by omega) (by decide)
  generalize e484 : x_up h8 75 11 (h8 75 9) = h482 at j483 f485 ⊢
  refine x_aload (np := 28) (x := 0) (by decide +kernel) rfl (x_nc_le (by decide)) ?_
  refine x_iload (np := 29) (x := 1) (by decide +kernel) rfl l6 ?_
  refine x_ifz (k := 3) (tg := 36) (np := 32) (by decide +kernel) (by decide) l6 (fun q486 => ?_) (fun q487 => ?_)
  · have q486 : 2147483648 ≤ v5 := q486
    exfalso; omega
  have q487 : ¬ (2147483648 ≤ v5) := q487
  refine x_const (np := 33) (x := 9223372043297226753) (a := 2147483649) (by decide +kernel) (by decide) (by decide) ?_
  refine x_goto (np := 36) (x := 37) (by decide +kernel) ?_
  refine x_const (np := 38) (x := 9223372043297226753) (a := 2147483649) (by decide +kernel) (by decide) (by decide) ?_
  refine x_nI (t := 6) (mj := 152) (n := 3) (rc := 12) (ml := 3) (nr := 0) (np := 41) (as := [x_r 75, iv_c 2147483649, iv_c 2147483649]) (rest := []) (lo1 := [x_r 75, iv_c 2147483649, iv_c 2147483649]) (by decide +kernel) (by decide) (by decide +kernel) (x_rb_of (by decide +kernel)) rfl rfl (x_wr (by decide) (x_wi (by decide) (x_wi (by decide) x_wn))) x_wn (by decide) rfl ?_
  refine x_iload (np := 1) (x := 1) (by decide +kernel) rfl (by decide) ?_
  refine x_ifz (k := 0) (tg := 9) (np := 4) (by decide +kernel) (by decide) (by decide) (fun q488 => ?_) (fun q489 => ?_)
  · have q488 : 2147483649 = 2147483648 := q488
    exfalso; omega
  have q489 : ¬ (2147483649 = 2147483648) := q489
  refine x_aload (np := 5) (x := 0) (by decide +kernel) rfl (x_nc_le (by decide)) ?_
  refine x_iload (np := 6) (x := 2) (by decide +kernel) rfl (by decide) ?_
  refine x_putI (np := 9) (x := 704) (f := 0) (by decide +kernel) (by decide +kernel) (by decide) (Or.inl (by decide)) ?_
  have j491 := jU (e := 0) (v := 2147483649) 0 j483 rg_75_0_0_1 (by omega) (by omega) (by omega)
  have f493 := jF (e := 0) (v := 2147483649) 0 f485 rg_75_0_0_1 (by omega) (by omega) (by decide)
  generalize e492 : x_up h482 75 0 2147483649 = h490 at j491 f493 ⊢
  refine x_iload (np := 10) (x := 1) (by decide +kernel) rfl (by decide) ?_
  refine x_retI (np := 11) (x := 0) (by decide +kernel) (by decide) (Or.inr ⟨by decide +kernel, by omega, by omega⟩) ⟨_, rfl, (by decide), ?_⟩
  refine x_ifz (k := 0) (tg := 46) (np := 44) (by decide +kernel) (by decide) (by decide) (fun q494 => ?_) (fun q495 => ?_)
  · have q494 : 2147483649 = 2147483648 := q494
    exfalso; omega
  have q495 : ¬ (2147483649 = 2147483648) := q495
  refine x_const (np := 45) (x := 9223372039002259456) (a := 2147483648) (by decide +kernel) (by decide) (by decide) ?_
  have q496 : h490 75 6 = h482 75 6 := by rw [← e492]; exact x_up_i (by omega)
  have q497 : h482 75 6 = h8 75 6 := by rw [← e484]; exact x_up_i (by omega)
  have m501 : WT 76 h1 := by rw [← e3]; exact WT.oth hW hJ (by decide)
  have m500 := WT.fr m501 j2 f10 (by decide)
  have m499 : WT 76 h482 := by rw [← e484]; exact WT.oth m500 j9 (by decide)
  have m498 : WT 76 h490 := by rw [← e492]; exact WT.oth m499 j483 (by decide)
  refine x_retI (np := 46) (x := 0) (by decide +kernel) (by decide) (Or.inl (by decide +kernel)) ⟨_, rfl, (by decide), ?_⟩
  exact ⟨j491, f493, (by omega), (by omega), m498⟩
set_option maxHeartbeats 0 in
/-- LentNamesModel.needs(Ljava/lang/String;)Z -/
theorem c172_75_S0 {sc : Nat × Nat} {d ia1 : Nat} {h : xh} (hJ : J h) (hia1 : ia1 < 32) : X sc 172 (d + 5) (xI fun r h' => J h' ∧ Fr 5242881 h h' ∧ (2147483648 ≤ r ∧ r ≤ 2147483649) ∧ (h 75 7 + 0 ≤ h' 75 7) ∧ (r = 2147483649 → h 75 7 + 2 ≤ h' 75 7)) 0 0 0 [x_r 75, x_b (ia1 + 1)] [] h := by
  have hF := Fr.refl 5242881 h
  refine x_aload (np := 1) (x := 0) (by decide +kernel) rfl (x_nc_le (by decide)) ?_
  refine x_cV (t := 6) (mj := 169) (n := 1) (rc := 12) (ml := 1) (nr := 0) (np := 4) (as := [x_r 75]) (rest := []) (lo1 := [x_r 75]) (by decide +kernel) (by decide) (by decide +kernel) (x_rb_of (by decide +kernel)) rfl rfl (x_wr (by decide) x_wn) x_wn (by decide) rfl (c169_75 hJ ) (fun h4 q3 => ?_)
  obtain ⟨j5, f6, c9, c10⟩ := q3
  have f11 := Fr.trans hF f6 (by decide)
  have b12 := jB (e := 7) 0 hJ rg_75_7_0_1 (by omega) (by omega)
  have b13 := jB (e := 9) 0 j5 rg_75_9_0_1 (by omega) (by omega)
  have b14 := jB (e := 7) 0 j5 rg_75_7_0_1 (by omega) (by omega)
  refine x_aload (np := 5) (x := 0) (by decide +kernel) rfl (x_nc_le (by decide)) ?_
  refine x_aloadB (i := ia1) (k4 := 1) rfl hia1 (by rw [tb_b172]; decide +kernel) ?_
  refine x_cP (t := 6) (mj := 170) (n := 2) (rc := 12) (ml := 4) (nr := 0) (np := 9) (as := [x_r 75, x_b (ia1 + 1)]) (rest := []) (lo1 := [x_r 75, x_b (ia1 + 1), 147573952589676412928, 147573952589676412928]) (by decide +kernel) (by decide) (by decide +kernel) (x_rb_of (by decide +kernel)) rfl rfl (x_wr (by decide) (x_wB hia1 x_wn)) x_wn (by decide) rfl (c170_75_S0 j5  hia1) (fun v15 l16 q17 => ?_)
  obtain ⟨b19, c18⟩ := q17
  have b20 := iv_tl_ge ia1 hia1
  refine x_retI (np := 10) (x := 0) (by decide +kernel) l16 (Or.inr ⟨by decide +kernel, by omega, by omega⟩) ⟨_, rfl, l16, ?_⟩
  exact ⟨j5, f11, (by omega), (by omega), (fun z => by omega)⟩
set_option maxHeartbeats 0 in
/-- LentNamesModel.readSeen()Z -/
theorem c185_75 {sc : Nat × Nat} {d  : Nat} {h : xh} (hJ : J h) (hC : Cl h) : X sc 185 (d + 6) (xI fun r h' => J h' ∧ Fr 273678337 h h' ∧ (2147483648 ≤ r ∧ r ≤ 2147483649) ∧ (r = 2147483649 → Cl h')) 0 0 0 [x_r 75, 147573952589676412928, 147573952589676412928, 147573952589676412928] [] h := by
  have hF := Fr.refl 273678337 h
  refine x_aload (np := 1) (x := 0) (by decide +kernel) rfl (x_nc_le (by decide)) ?_
  have q1 : h 75 3 = 78 := by have z := jB (e := 3) 0 hJ rg_75_3_0_1 (by decide) (by decide); omega
  refine x_getR (np := 4) (x := 707) (f := 3) (q := 78) (by decide +kernel) (by decide) (by decide +kernel) q1 ?_
  refine x_const (np := 5) (x := 9223372060477095941) (a := 2147483653) (by decide +kernel) (by decide) (by decide) ?_
  have b2 := jB (e := 5) 0 hJ rg_78_5_0_1 (by omega) (by omega)
  refine x_aldC (np := 6) (x := 0) (n := 290) (i := 5) (q := (h 78 5)) (by decide +kernel) (by decide +kernel) (by omega) (by omega) (by decide) rfl (fun l3 => ?_)
  refine x_const (np := 8) (x := 9223372081951932426) (a := 2147483658) (by decide +kernel) (by decide) (by decide) ?_
  refine x_icmp (k := 1) (tg := 13) (np := 11) (by decide +kernel) (by decide) l3 (by decide) (fun q4 => ?_) (fun q5 => ?_)
  · have q4 : (h 78 5) ≠ 2147483658 := q4
    refine x_const (np := 16) (x := 9223373112744083706) (a := 2147483898) (by decide +kernel) (by decide) (by decide) ?_
    refine x_const (np := 17) (x := 9223372056182128644) (a := 2147483652) (by decide +kernel) (by decide) (by decide) ?_
    refine x_aload (np := 18) (x := 0) (by decide +kernel) rfl (x_nc_le (by decide)) ?_
    have q6 : h 75 3 = 78 := by have z := jB (e := 3) 0 hJ rg_75_3_0_1 (by decide) (by decide); omega
    refine x_getR (np := 21) (x := 707) (f := 3) (q := 78) (by decide +kernel) (by decide) (by decide +kernel) q6 ?_
    refine x_const (np := 22) (x := 9223372060477095941) (a := 2147483653) (by decide +kernel) (by decide) (by decide) ?_
    refine x_aldC (np := 23) (x := 0) (n := 290) (i := 5) (q := (h 78 5)) (by decide +kernel) (by decide +kernel) (by omega) (by omega) (by decide) rfl (fun l7 => ?_)
    obtain ⟨u8, q9⟩ : ∃ z, (h 78 5) = 2147483648 + z := ⟨(h 78 5) - 2147483648, by omega⟩
    refine x_imul (np := 24) (x := 0) (i := 4) (j := u8) (v := (2147483648 + 4 * u8)) (by decide +kernel) (by omega) (by omega) (by omega) (by omega) (by decide) l3 ?_
    refine x_iadd (np := 25) (x := 0) (v := (2147483898 + 4 * u8)) (by decide +kernel) (by decide) (by omega) (by omega) (by omega) ?_
    refine x_istore (np := 26) (x := 1) (lo' := [x_r 75, iv_c (2147483898 + 4 * u8), 147573952589676412928, 147573952589676412928]) (by decide +kernel) (by omega) (Nat.le_of_ble_eq_true rfl) rfl ?_
    refine x_aload (np := 27) (x := 0) (by decide +kernel) rfl (x_nc_le (by decide)) ?_
    refine x_iload (np := 28) (x := 1) (by decide +kernel) rfl (by omega) ?_
    refine x_nI (t := 6) (mj := 177) (n := 2) (rc := 12) (ml := 2) (nr := 0) (np := 31) (as := [x_r 75, iv_c (2147483898 + 4 * u8)]) (rest := []) (lo1 := [x_r 75, iv_c (2147483898 + 4 * u8)]) (by decide +kernel) (by decide) (by decide +kernel) (x_rb_of (by decide +kernel)) rfl rfl (x_wr (by decide) (x_wi (by omega) x_wn)) x_wn (by decide) rfl ?_
    refine x_aload (np := 1) (x := 0) (by decide +kernel) rfl (x_nc_le (by decide)) ?_
    refine x_iload (np := 2) (x := 1) (by decide +kernel) rfl (by omega) ?_
    refine x_aload (np := 3) (x := 0) (by decide +kernel) rfl (x_nc_le (by decide)) ?_
    refine x_const (np := 4) (x := 9223372039002259456) (a := 2147483648) (by decide +kernel) (by decide) (by decide) ?_
    refine x_aload (np := 5) (x := 0) (by decide +kernel) rfl (x_nc_le (by decide)) ?_
    refine x_nI (t := 6) (mj := 157) (n := 1) (rc := 12) (ml := 1) (nr := 4) (np := 8) (as := [x_r 75]) (rest := [iv_c 2147483648, x_r 75, iv_c (2147483898 + 4 * u8), x_r 75]) (lo1 := [x_r 75]) (by decide +kernel) (by decide) (by decide +kernel) (x_rb_of (by decide +kernel)) rfl rfl (x_wr (by decide) x_wn) (x_wi (by decide) (x_wr (by decide) (x_wi (by omega) (x_wr (by decide) x_wn)))) (by decide) rfl ?_
    refine x_aload (np := 1) (x := 0) (by decide +kernel) rfl (x_nc_le (by decide)) ?_
    have q11 : h 75 1 = 76 := by have z := jB (e := 1) 0 hJ rg_75_1_0_1 (by decide) (by decide); omega
    refine x_getR (np := 4) (x := 705) (f := 1) (q := 76) (by decide +kernel) (by decide) (by decide +kernel) q11 ?_
    refine x_const (np := 5) (x := 9223372039002259456) (a := 2147483648) (by decide +kernel) (by decide) (by decide) ?_
    have b12 := jB (e := 0) 0 hJ rg_76_0_0_1 (by omega) (by omega)
    refine x_aldC (np := 6) (x := 0) (n := 1952) (i := 0) (q := (h 76 0)) (by decide +kernel) (by decide +kernel) (by omega) (by omega) (by decide) rfl (fun l13 => ?_)
    refine x_retI (np := 7) (x := 0) (by decide +kernel) l13 (Or.inl (by decide +kernel)) ⟨_, rfl, l13, ?_⟩
    refine x_const (np := 9) (x := 9223372043297226753) (a := 2147483649) (by decide +kernel) (by decide) (by decide) ?_
    obtain ⟨v14, q15⟩ : ∃ z, z + 2147483649 = (h 76 0) + 2147483648 := ⟨(h 76 0) + 2147483648 - 2147483649, by omega⟩
    refine x_isub (np := 10) (x := 0) (v := v14) (by decide +kernel) l13 (by decide) (by omega) (by omega) ?_
    refine x_cI (t := 6) (mj := 174) (n := 3) (rc := 12) (ml := 4) (nr := 2) (np := 13) (as := [x_r 75, iv_c 2147483648, iv_c v14]) (rest := [iv_c (2147483898 + 4 * u8), x_r 75]) (lo1 := [x_r 75, iv_c 2147483648, iv_c v14, 147573952589676412928]) (by decide +kernel) (by decide) (by decide +kernel) (x_rb_of (by decide +kernel)) rfl rfl (x_wr (by decide) (x_wi (by decide) (x_wi (by omega) x_wn))) (x_wi (by omega) (x_wr (by decide) x_wn)) (by decide) rfl (c174_75 hJ  (by omega) (by omega)) (fun v16 h19 l17 q18 => ?_)
    obtain ⟨j20, f21, b22, c23, c24, c25, c26, c27⟩ := q18
    have f28 := Fr.trans hF f21 (by decide)
    have b29 := jB (e := 7) 0 hJ rg_75_7_0_1 (by omega) (by omega)
    have b30 := jB (e := 7) 0 j20 rg_75_7_0_1 (by omega) (by omega)
    have b31 := c27 (by omega)
    refine x_nI (t := 6) (mj := 176) (n := 3) (rc := 12) (ml := 3) (nr := 0) (np := 16) (as := [x_r 75, iv_c (2147483898 + 4 * u8), iv_c v16]) (rest := []) (lo1 := [x_r 75, iv_c (2147483898 + 4 * u8), iv_c v16]) (by decide +kernel) (by decide) (by decide +kernel) (x_rb_of (by decide +kernel)) rfl rfl (x_wr (by decide) (x_wi (by omega) (x_wi l17 x_wn))) x_wn (by decide) rfl ?_
    refine x_aload (np := 1) (x := 0) (by decide +kernel) rfl (x_nc_le (by decide)) ?_
    have q32 : h19 75 3 = 78 := by have z := jB (e := 3) 0 j20 rg_75_3_0_1 (by decide) (by decide); omega
    refine x_getR (np := 4) (x := 707) (f := 3) (q := 78) (by decide +kernel) (by decide) (by decide +kernel) q32 ?_
    refine x_iload (np := 5) (x := 1) (by decide +kernel) rfl (by omega) ?_
    refine x_iload (np := 6) (x := 2) (by decide +kernel) rfl l17 ?_
    refine x_ast (np := 7) (x := 0) (kd := 1) (n := 290) (i := (250 + 4 * u8)) (by decide +kernel) (Or.inl rfl) (by decide +kernel) (by omega) (by omega) (by decide) l17 (fun z => absurd z (by decide)) ?_
    have j34 := jU (e := (250 + 4 * u8)) (v := v16) u8 j20 rg_78_250_4_10 (by omega) (by omega) (by omega)
    have f36 := jF (e := (250 + 4 * u8)) (v := v16) u8 f28 rg_78_250_4_10 (by omega) (by omega) (by decide)
    generalize e35 : x_up h19 78 (250 + 4 * u8) v16 = h33 at j34 f36 ⊢
    refine x_iload (np := 8) (x := 2) (by decide +kernel) rfl l17 ?_
    refine x_ifz (k := 2) (tg := 15) (np := 11) (by decide +kernel) (by decide) l17 (fun q37 => ?_) (fun q38 => ?_)
    · have q37 : v16 < 2147483648 := q37
      refine x_const (np := 16) (x := 9223372039002259456) (a := 2147483648) (by decide +kernel) (by decide) (by decide) ?_
      refine x_retI (np := 17) (x := 0) (by decide +kernel) (by decide) (Or.inr ⟨by decide +kernel, by omega, by omega⟩) ⟨_, rfl, (by decide), ?_⟩
      refine x_retI (np := 17) (x := 0) (by decide +kernel) (by decide) (Or.inr ⟨by decide +kernel, by omega, by omega⟩) ⟨_, rfl, (by decide), ?_⟩
      refine x_ifz (k := 0) (tg := 63) (np := 34) (by decide +kernel) (by decide) (by decide) (fun q39 => ?_) (fun q40 => ?_)
      · have q39 : 2147483648 = 2147483648 := q39
        refine x_const (np := 64) (x := 9223372039002259456) (a := 2147483648) (by decide +kernel) (by decide) (by decide) ?_
        refine x_retI (np := 65) (x := 0) (by decide +kernel) (by decide) (Or.inr ⟨by decide +kernel, by omega, by omega⟩) ⟨_, rfl, (by decide), ?_⟩
        exact ⟨j34, f36, (by omega), (fun z => absurd z (by omega))⟩
      have q40 : ¬ (2147483648 = 2147483648) := q40
      exfalso; omega
    have q38 : ¬ (v16 < 2147483648) := q38
    have b41 := c24 (by omega)
    have b42 := c25 (by omega)
    have b43 := c26 (by omega)
    refine x_const (np := 12) (x := 9223372043297226753) (a := 2147483649) (by decide +kernel) (by decide) (by decide) ?_
    refine x_goto (np := 15) (x := 16) (by decide +kernel) ?_
    refine x_retI (np := 17) (x := 0) (by decide +kernel) (by decide) (Or.inr ⟨by decide +kernel, by omega, by omega⟩) ⟨_, rfl, (by decide), ?_⟩
    refine x_retI (np := 17) (x := 0) (by decide +kernel) (by decide) (Or.inr ⟨by decide +kernel, by omega, by omega⟩) ⟨_, rfl, (by decide), ?_⟩
    refine x_ifz (k := 0) (tg := 63) (np := 34) (by decide +kernel) (by decide) (by decide) (fun q44 => ?_) (fun q45 => ?_)
    · have q44 : 2147483649 = 2147483648 := q44
      exfalso; omega
    have q45 : ¬ (2147483649 = 2147483648) := q45
    refine x_aload (np := 35) (x := 0) (by decide +kernel) rfl (x_nc_le (by decide)) ?_
    refine x_ldcB (i := 2) (idx := 147) (tx := "day") (by rw [tb_y185]; exact List.mem_of_getElem? (i := 37) rfl) (by decide) (by rw [tb_b185]; decide +kernel) ?_
    refine x_cI (t := 6) (mj := 172) (n := 2) (rc := 12) (ml := 2) (nr := 0) (np := 40) (as := [x_r 75, x_b (2 + 1)]) (rest := []) (lo1 := [x_r 75, x_b (2 + 1)]) (by decide +kernel) (by decide) (by decide +kernel) (x_rb_of (by decide +kernel)) rfl rfl (x_wr (by decide) (x_wB (by decide) x_wn)) x_wn (by decide) rfl (c172_75_S0 j34  (by decide)) (fun v46 h49 l47 q48 => ?_)
    obtain ⟨j50, f51, b52, c53, c54⟩ := q48
    have f55 := Fr.trans f36 f51 (by decide)
    have q56 : h33 75 7 = h19 75 7 := by rw [← e35]; exact x_up_k (by decide)
    have b57 := jB (e := 7) 0 j50 rg_75_7_0_1 (by omega) (by omega)
    have q58 : h33 75 7 = h19 75 7 := by rw [← e35]; exact x_up_k (by decide)
    refine x_ifz (k := 0) (tg := 63) (np := 43) (by decide +kernel) (by decide) l47 (fun q59 => ?_) (fun q60 => ?_)
    · have q59 : v46 = 2147483648 := q59
      refine x_const (np := 64) (x := 9223372039002259456) (a := 2147483648) (by decide +kernel) (by decide) (by decide) ?_
      refine x_retI (np := 65) (x := 0) (by decide +kernel) (by decide) (Or.inr ⟨by decide +kernel, by omega, by omega⟩) ⟨_, rfl, (by decide), ?_⟩
      exact ⟨j50, f55, (by omega), (fun z => absurd z (by omega))⟩
    have q60 : ¬ (v46 = 2147483648) := q60
    have b61 := c54 (by omega)
    refine x_aload (np := 44) (x := 0) (by decide +kernel) rfl (x_nc_le (by decide)) ?_
    refine x_iload (np := 45) (x := 1) (by decide +kernel) rfl (by omega) ?_
    refine x_const (np := 46) (x := 9223372043297226753) (a := 2147483649) (by decide +kernel) (by decide) (by decide) ?_
    refine x_iadd (np := 47) (x := 0) (v := (2147483899 + 4 * u8)) (by decide +kernel) (by omega) (by decide) (by omega) (by omega) ?_
    refine x_const (np := 48) (x := 9223372039002259456) (a := 2147483648) (by decide +kernel) (by decide) (by decide) ?_
    refine x_nI (t := 6) (mj := 178) (n := 3) (rc := 12) (ml := 3) (nr := 0) (np := 51) (as := [x_r 75, iv_c (2147483899 + 4 * u8), iv_c 2147483648]) (rest := []) (lo1 := [x_r 75, iv_c (2147483899 + 4 * u8), iv_c 2147483648]) (by decide +kernel) (by decide) (by decide +kernel) (x_rb_of (by decide +kernel)) rfl rfl (x_wr (by decide) (x_wi (by omega) (x_wi (by decide) x_wn))) x_wn (by decide) rfl ?_
    refine x_aload (np := 1) (x := 0) (by decide +kernel) rfl (x_nc_le (by decide)) ?_
    refine x_iload (np := 2) (x := 1) (by decide +kernel) rfl (by omega) ?_
    refine x_aload (np := 3) (x := 0) (by decide +kernel) rfl (x_nc_le (by decide)) ?_
    refine x_iload (np := 4) (x := 2) (by decide +kernel) rfl (by decide) ?_
    refine x_const (np := 6) (x := 9223372086246899723) (a := 2147483659) (by decide +kernel) (by decide) (by decide) ?_
    refine x_cI (t := 6) (mj := 174) (n := 3) (rc := 12) (ml := 4) (nr := 2) (np := 9) (as := [x_r 75, iv_c 2147483648, iv_c 2147483659]) (rest := [iv_c (2147483899 + 4 * u8), x_r 75]) (lo1 := [x_r 75, iv_c 2147483648, iv_c 2147483659, 147573952589676412928]) (by decide +kernel) (by decide) (by decide +kernel) (x_rb_of (by decide +kernel)) rfl rfl (x_wr (by decide) (x_wi (by decide) (x_wi (by decide) x_wn))) (x_wi (by omega) (x_wr (by decide) x_wn)) (by decide) rfl (c174_75 j50  (by omega) (by omega)) (fun v62 h65 l63 q64 => ?_)
    obtain ⟨j66, f67, b68, c69, c70, c71, c72, c73⟩ := q64
    have f74 := Fr.trans f55 f67 (by decide)
    have b75 := jB (e := 7) 0 j66 rg_75_7_0_1 (by omega) (by omega)
    have b76 := c73 (by omega)
    refine x_nI (t := 6) (mj := 176) (n := 3) (rc := 12) (ml := 3) (nr := 0) (np := 12) (as := [x_r 75, iv_c (2147483899 + 4 * u8), iv_c v62]) (rest := []) (lo1 := [x_r 75, iv_c (2147483899 + 4 * u8), iv_c v62]) (by decide +kernel) (by decide) (by decide +kernel) (x_rb_of (by decide +kernel)) rfl rfl (x_wr (by decide) (x_wi (by omega) (x_wi l63 x_wn))) x_wn (by decide) rfl ?_
    refine x_aload (np := 1) (x := 0) (by decide +kernel) rfl (x_nc_le (by decide)) ?_
    have q77 : h65 75 3 = 78 := by have z := jB (e := 3) 0 j66 rg_75_3_0_1 (by decide) (by decide); omega
    refine x_getR (np := 4) (x := 707) (f := 3) (q := 78) (by decide +kernel) (by decide) (by decide +kernel) q77 ?_
    refine x_iload (np := 5) (x := 1) (by decide +kernel) rfl (by omega) ?_
    refine x_iload (np := 6) (x := 2) (by decide +kernel) rfl l63 ?_
    refine x_ast (np := 7) (x := 0) (kd := 1) (n := 290) (i := (251 + 4 * u8)) (by decide +kernel) (Or.inl rfl) (by decide +kernel) (by omega) (by omega) (by decide) l63 (fun z => absurd z (by decide)) ?_
    have j79 := jU (e := (251 + 4 * u8)) (v := v62) u8 j66 rg_78_251_4_10 (by omega) (by omega) (by omega)
    have f81 := jF (e := (251 + 4 * u8)) (v := v62) u8 f74 rg_78_251_4_10 (by omega) (by omega) (by decide)
    generalize e80 : x_up h65 78 (251 + 4 * u8) v62 = h78 at j79 f81 ⊢
    refine x_iload (np := 8) (x := 2) (by decide +kernel) rfl l63 ?_
    refine x_ifz (k := 2) (tg := 15) (np := 11) (by decide +kernel) (by decide) l63 (fun q82 => ?_) (fun q83 => ?_)
    · have q82 : v62 < 2147483648 := q82
      refine x_const (np := 16) (x := 9223372039002259456) (a := 2147483648) (by decide +kernel) (by decide) (by decide) ?_
      refine x_retI (np := 17) (x := 0) (by decide +kernel) (by decide) (Or.inr ⟨by decide +kernel, by omega, by omega⟩) ⟨_, rfl, (by decide), ?_⟩
      refine x_retI (np := 13) (x := 0) (by decide +kernel) (by decide) (Or.inr ⟨by decide +kernel, by omega, by omega⟩) ⟨_, rfl, (by decide), ?_⟩
      refine x_ifz (k := 0) (tg := 63) (np := 54) (by decide +kernel) (by decide) (by decide) (fun q84 => ?_) (fun q85 => ?_)
      · have q84 : 2147483648 = 2147483648 := q84
        refine x_const (np := 64) (x := 9223372039002259456) (a := 2147483648) (by decide +kernel) (by decide) (by decide) ?_
        refine x_retI (np := 65) (x := 0) (by decide +kernel) (by decide) (Or.inr ⟨by decide +kernel, by omega, by omega⟩) ⟨_, rfl, (by decide), ?_⟩
        exact ⟨j79, f81, (by omega), (fun z => absurd z (by omega))⟩
      have q85 : ¬ (2147483648 = 2147483648) := q85
      exfalso; omega
    have q83 : ¬ (v62 < 2147483648) := q83
    have b86 := c70 (by omega)
    have b87 := c71 (by omega)
    have b88 := c72 (by omega)
    refine x_const (np := 12) (x := 9223372043297226753) (a := 2147483649) (by decide +kernel) (by decide) (by decide) ?_
    refine x_goto (np := 15) (x := 16) (by decide +kernel) ?_
    refine x_retI (np := 17) (x := 0) (by decide +kernel) (by decide) (Or.inr ⟨by decide +kernel, by omega, by omega⟩) ⟨_, rfl, (by decide), ?_⟩
    refine x_retI (np := 13) (x := 0) (by decide +kernel) (by decide) (Or.inr ⟨by decide +kernel, by omega, by omega⟩) ⟨_, rfl, (by decide), ?_⟩
    refine x_ifz (k := 0) (tg := 63) (np := 54) (by decide +kernel) (by decide) (by decide) (fun q89 => ?_) (fun q90 => ?_)
    · have q89 : 2147483649 = 2147483648 := q89
      exfalso; omega
    have q90 : ¬ (2147483649 = 2147483648) := q90
    refine x_aload (np := 55) (x := 0) (by decide +kernel) rfl (x_nc_le (by decide)) ?_
    refine x_ldcB (i := 14) (idx := 177) (tx := "as") (by rw [tb_y185]; exact List.mem_of_getElem? (i := 53) rfl) (by decide) (by rw [tb_b185]; decide +kernel) ?_
    refine x_cI (t := 6) (mj := 172) (n := 2) (rc := 12) (ml := 2) (nr := 0) (np := 60) (as := [x_r 75, x_b (14 + 1)]) (rest := []) (lo1 := [x_r 75, x_b (14 + 1)]) (by decide +kernel) (by decide) (by decide +kernel) (x_rb_of (by decide +kernel)) rfl rfl (x_wr (by decide) (x_wB (by decide) x_wn)) x_wn (by decide) rfl (c172_75_S0 j79  (by decide)) (fun v91 h94 l92 q93 => ?_)
    obtain ⟨j95, f96, b97, c98, c99⟩ := q93
    have f100 := Fr.trans f81 f96 (by decide)
    have q101 : h78 75 7 = h65 75 7 := by rw [← e80]; exact x_up_k (by decide)
    have b102 := jB (e := 7) 0 j95 rg_75_7_0_1 (by omega) (by omega)
    have q103 : h78 75 7 = h65 75 7 := by rw [← e80]; exact x_up_k (by decide)
    refine x_ifz (k := 1) (tg := 65) (np := 63) (by decide +kernel) (by decide) l92 (fun q104 => ?_) (fun q105 => ?_)
    · have q104 : v91 ≠ 2147483648 := q104
      have b106 := c99 (by omega)
      refine x_aload (np := 66) (x := 0) (by decide +kernel) rfl (x_nc_le (by decide)) ?_
      have q107 : h94 75 3 = 78 := by have z := jB (e := 3) 0 j95 rg_75_3_0_1 (by decide) (by decide); omega
      refine x_getR (np := 69) (x := 707) (f := 3) (q := 78) (by decide +kernel) (by decide) (by decide +kernel) q107 ?_
      refine x_iload (np := 70) (x := 1) (by decide +kernel) rfl (by omega) ?_
      refine x_const (np := 71) (x := 9223372047592194050) (a := 2147483650) (by decide +kernel) (by decide) (by decide) ?_
      refine x_iadd (np := 72) (x := 0) (v := (2147483900 + 4 * u8)) (by decide +kernel) (by omega) (by decide) (by omega) (by omega) ?_
      refine x_const (np := 73) (x := 9223372039002259456) (a := 2147483648) (by decide +kernel) (by decide) (by decide) ?_
      refine x_ast (np := 74) (x := 0) (kd := 1) (n := 290) (i := (252 + 4 * u8)) (by decide +kernel) (Or.inl rfl) (by decide +kernel) (by omega) (by omega) (by decide) (by decide) (fun z => absurd z (by decide)) ?_
      have j109 := jU (e := (252 + 4 * u8)) (v := 2147483648) u8 j95 rg_78_252_4_10 (by omega) (by omega) (by omega)
      have f111 := jF (e := (252 + 4 * u8)) (v := 2147483648) u8 f100 rg_78_252_4_10 (by omega) (by omega) (by decide)
      generalize e110 : x_up h94 78 (252 + 4 * u8) 2147483648 = h108 at j109 f111 ⊢
      refine x_const (np := 75) (x := 9223372043297226753) (a := 2147483649) (by decide +kernel) (by decide) (by decide) ?_
      refine x_istore (np := 76) (x := 2) (lo' := [x_r 75, iv_c (2147483898 + 4 * u8), iv_c 2147483649, 147573952589676412928]) (by decide +kernel) (by decide) (Nat.le_of_ble_eq_true rfl) rfl ?_
      have p252 : ∀ (n : Nat) (v246 : Nat) (w248 : Nat) (h249 : xh), 4294967296 - h249 75 7 < n → (2147483648 ≤ v246 ∧ v246 ≤ 2147483649) → h249 78 5 = h 78 5 → J h249 → Fr 273678337 h108 h249 → Cl h249 → X sc 185 (d + 6) (xI fun r h' => J h' ∧ Fr 273678337 h h' ∧ (2147483648 ≤ r ∧ r ≤ 2147483649) ∧ (r = 2147483649 → Cl h')) 0 0 76 [x_r 75, iv_c (2147483898 + 4 * u8), iv_c v246, w248] [] h249 := by
        intro n
        induction n with
        | zero => intro v246 w248 h249 q255; exact absurd q255 (Nat.not_lt_zero _)
        | succ n i256 =>
          intro v246 w248 h249 q255 b247 b253 j251 f250 m254
          have f257 := Fr.trans f111 f250 (by decide)
          refine x_iload (np := 77) (x := 2) (by decide +kernel) rfl (by omega) ?_
          refine x_ifz (k := 0) (tg := 122) (np := 80) (by decide +kernel) (by decide) (by omega) (fun q258 => ?_) (fun q259 => ?_)
          · have q258 : v246 = 2147483648 := q258
            refine x_aload (np := 123) (x := 0) (by decide +kernel) rfl (x_nc_le (by decide)) ?_
            refine x_ldcB (i := 16) (idx := 181) (tx := "known") (by rw [tb_y185]; exact List.mem_of_getElem? (i := 55) rfl) (by decide) (by rw [tb_b185]; decide +kernel) ?_
            refine x_cI (t := 6) (mj := 172) (n := 2) (rc := 12) (ml := 2) (nr := 0) (np := 128) (as := [x_r 75, x_b (16 + 1)]) (rest := []) (lo1 := [x_r 75, x_b (16 + 1)]) (by decide +kernel) (by decide) (by decide +kernel) (x_rb_of (by decide +kernel)) rfl rfl (x_wr (by decide) (x_wB (by decide) x_wn)) x_wn (by decide) rfl (c172_75_S0 j251  (by decide)) (fun v260 h263 l261 q262 => ?_)
            obtain ⟨j264, f265, b266, c267, c268⟩ := q262
            have f269 := Fr.trans f257 f265 (by decide)
            have b270 := jB (e := 7) 0 j251 rg_75_7_0_1 (by omega) (by omega)
            have b271 := jB (e := 7) 0 j264 rg_75_7_0_1 (by omega) (by omega)
            refine x_ifz (k := 0) (tg := 149) (np := 131) (by decide +kernel) (by decide) l261 (fun q272 => ?_) (fun q273 => ?_)
            · have q272 : v260 = 2147483648 := q272
              refine x_const (np := 150) (x := 9223372039002259456) (a := 2147483648) (by decide +kernel) (by decide) (by decide) ?_
              refine x_retI (np := 151) (x := 0) (by decide +kernel) (by decide) (Or.inr ⟨by decide +kernel, by omega, by omega⟩) ⟨_, rfl, (by decide), ?_⟩
              exact ⟨j264, f269, (by omega), (fun z => absurd z (by omega))⟩
            have q273 : ¬ (v260 = 2147483648) := q273
            have b274 := c268 (by omega)
            refine x_aload (np := 132) (x := 0) (by decide +kernel) rfl (x_nc_le (by decide)) ?_
            refine x_iload (np := 133) (x := 1) (by decide +kernel) rfl (by omega) ?_
            refine x_const (np := 134) (x := 9223372051887161347) (a := 2147483651) (by decide +kernel) (by decide) (by decide) ?_
            refine x_iadd (np := 135) (x := 0) (v := (2147483901 + 4 * u8)) (by decide +kernel) (by omega) (by decide) (by omega) (by omega) ?_
            refine x_aload (np := 136) (x := 0) (by decide +kernel) rfl (x_nc_le (by decide)) ?_
            have q275 : h263 75 3 = 78 := by have z := jB (e := 3) 0 j264 rg_75_3_0_1 (by decide) (by decide); omega
            refine x_getR (np := 139) (x := 707) (f := 3) (q := 78) (by decide +kernel) (by decide) (by decide +kernel) q275 ?_
            refine x_iload (np := 140) (x := 1) (by decide +kernel) rfl (by omega) ?_
            refine x_const (np := 141) (x := 9223372043297226753) (a := 2147483649) (by decide +kernel) (by decide) (by decide) ?_
            refine x_iadd (np := 142) (x := 0) (v := (2147483899 + 4 * u8)) (by decide +kernel) (by omega) (by decide) (by omega) (by omega) ?_
            have q276 : h263 78 (251 + 4 * u8) = h249 78 (251 + 4 * u8) := jK u8 f265 rg_78_251_4_10 (by omega) (by omega) (by decide)
            have b277 := jB (e := (251 + 4 * u8)) u8 j251 rg_78_251_4_10 (by omega) (by omega)
            refine x_aldC (np := 143) (x := 0) (n := 290) (i := (251 + 4 * u8)) (q := ((h249 78 (251 + 4 * u8)))) (by decide +kernel) (by decide +kernel) (by omega) (by omega) (by decide) q276 (fun l278 => ?_)
            refine x_nI (t := 6) (mj := 178) (n := 3) (rc := 12) (ml := 3) (nr := 0) (np := 146) (as := [x_r 75, iv_c (2147483901 + 4 * u8), iv_c ((h249 78 (251 + 4 * u8)))]) (rest := []) (lo1 := [x_r 75, iv_c (2147483901 + 4 * u8), iv_c ((h249 78 (251 + 4 * u8)))]) (by decide +kernel) (by decide) (by decide +kernel) (x_rb_of (by decide +kernel)) rfl rfl (x_wr (by decide) (x_wi (by omega) (x_wi l278 x_wn))) x_wn (by decide) rfl ?_
            refine x_aload (np := 1) (x := 0) (by decide +kernel) rfl (x_nc_le (by decide)) ?_
            refine x_iload (np := 2) (x := 1) (by decide +kernel) rfl (by omega) ?_
            refine x_aload (np := 3) (x := 0) (by decide +kernel) rfl (x_nc_le (by decide)) ?_
            refine x_iload (np := 4) (x := 2) (by decide +kernel) rfl l278 ?_
            refine x_const (np := 6) (x := 9223372086246899723) (a := 2147483659) (by decide +kernel) (by decide) (by decide) ?_
            refine x_cI (t := 6) (mj := 174) (n := 3) (rc := 12) (ml := 4) (nr := 2) (np := 9) (as := [x_r 75, iv_c ((h249 78 (251 + 4 * u8))), iv_c 2147483659]) (rest := [iv_c (2147483901 + 4 * u8), x_r 75]) (lo1 := [x_r 75, iv_c ((h249 78 (251 + 4 * u8))), iv_c 2147483659, 147573952589676412928]) (by decide +kernel) (by decide) (by decide +kernel) (x_rb_of (by decide +kernel)) rfl rfl (x_wr (by decide) (x_wi l278 (x_wi (by decide) x_wn))) (x_wi (by omega) (x_wr (by decide) x_wn)) (by decide) rfl (c174_75 j264  (by omega) (by omega)) (fun v279 h282 l280 q281 => ?_)
            obtain ⟨j283, f284, b285, c286, c287, c288, c289, c290⟩ := q281
            have f291 := Fr.trans f269 f284 (by decide)
            have b292 := jB (e := 7) 0 j283 rg_75_7_0_1 (by omega) (by omega)
            have b293 := c290 (by omega)
            refine x_nI (t := 6) (mj := 176) (n := 3) (rc := 12) (ml := 3) (nr := 0) (np := 12) (as := [x_r 75, iv_c (2147483901 + 4 * u8), iv_c v279]) (rest := []) (lo1 := [x_r 75, iv_c (2147483901 + 4 * u8), iv_c v279]) (by decide +kernel) (by decide) (by decide +kernel) (x_rb_of (by decide +kernel)) rfl rfl (x_wr (by decide) (x_wi (by omega) (x_wi l280 x_wn))) x_wn (by decide) rfl ?_
            refine x_aload (np := 1) (x := 0) (by decide +kernel) rfl (x_nc_le (by decide)) ?_
            have q294 : h282 75 3 = 78 := by have z := jB (e := 3) 0 j283 rg_75_3_0_1 (by decide) (by decide); omega
            refine x_getR (np := 4) (x := 707) (f := 3) (q := 78) (by decide +kernel) (by decide) (by decide +kernel) q294 ?_
            refine x_iload (np := 5) (x := 1) (by decide +kernel) rfl (by omega) ?_
            refine x_iload (np := 6) (x := 2) (by decide +kernel) rfl l280 ?_
            refine x_ast (np := 7) (x := 0) (kd := 1) (n := 290) (i := (253 + 4 * u8)) (by decide +kernel) (Or.inl rfl) (by decide +kernel) (by omega) (by omega) (by decide) l280 (fun z => absurd z (by decide)) ?_
            have j296 := jU (e := (253 + 4 * u8)) (v := v279) u8 j283 rg_78_253_4_10 (by omega) (by omega) (by omega)
            have f298 := jF (e := (253 + 4 * u8)) (v := v279) u8 f291 rg_78_253_4_10 (by omega) (by omega) (by decide)
            generalize e297 : x_up h282 78 (253 + 4 * u8) v279 = h295 at j296 f298 ⊢
            refine x_iload (np := 8) (x := 2) (by decide +kernel) rfl l280 ?_
            refine x_ifz (k := 2) (tg := 15) (np := 11) (by decide +kernel) (by decide) l280 (fun q299 => ?_) (fun q300 => ?_)
            · have q299 : v279 < 2147483648 := q299
              refine x_const (np := 16) (x := 9223372039002259456) (a := 2147483648) (by decide +kernel) (by decide) (by decide) ?_
              refine x_retI (np := 17) (x := 0) (by decide +kernel) (by decide) (Or.inr ⟨by decide +kernel, by omega, by omega⟩) ⟨_, rfl, (by decide), ?_⟩
              refine x_retI (np := 13) (x := 0) (by decide +kernel) (by decide) (Or.inr ⟨by decide +kernel, by omega, by omega⟩) ⟨_, rfl, (by decide), ?_⟩
              refine x_ifz (k := 1) (tg := 151) (np := 149) (by decide +kernel) (by decide) (by decide) (fun q301 => ?_) (fun q302 => ?_)
              · have q301 : 2147483648 ≠ 2147483648 := q301
                exfalso; omega
              have q302 : ¬ (2147483648 ≠ 2147483648) := q302
              refine x_const (np := 150) (x := 9223372039002259456) (a := 2147483648) (by decide +kernel) (by decide) (by decide) ?_
              refine x_retI (np := 151) (x := 0) (by decide +kernel) (by decide) (Or.inr ⟨by decide +kernel, by omega, by omega⟩) ⟨_, rfl, (by decide), ?_⟩
              exact ⟨j296, f298, (by omega), (fun z => absurd z (by omega))⟩
            have q300 : ¬ (v279 < 2147483648) := q300
            have b303 := c287 (by omega)
            have b304 := c288 (by omega)
            have b305 := c289 (by omega)
            refine x_const (np := 12) (x := 9223372043297226753) (a := 2147483649) (by decide +kernel) (by decide) (by decide) ?_
            refine x_goto (np := 15) (x := 16) (by decide +kernel) ?_
            refine x_retI (np := 17) (x := 0) (by decide +kernel) (by decide) (Or.inr ⟨by decide +kernel, by omega, by omega⟩) ⟨_, rfl, (by decide), ?_⟩
            refine x_retI (np := 13) (x := 0) (by decide +kernel) (by decide) (Or.inr ⟨by decide +kernel, by omega, by omega⟩) ⟨_, rfl, (by decide), ?_⟩
            refine x_ifz (k := 1) (tg := 151) (np := 149) (by decide +kernel) (by decide) (by decide) (fun q306 => ?_) (fun q307 => ?_)
            · have q306 : 2147483649 ≠ 2147483648 := q306
              refine x_aload (np := 152) (x := 0) (by decide +kernel) rfl (x_nc_le (by decide)) ?_
              have q308 : h295 75 3 = 78 := by have z := jB (e := 3) 0 j296 rg_75_3_0_1 (by decide) (by decide); omega
              refine x_getR (np := 155) (x := 707) (f := 3) (q := 78) (by decide +kernel) (by decide) (by decide +kernel) q308 ?_
              refine x_const (np := 156) (x := 9223372060477095941) (a := 2147483653) (by decide +kernel) (by decide) (by decide) ?_
              refine x_dup2 (np := 157) (x := 0) (by decide +kernel) (by have z := (iw_c_lt (a := 2147483653) (by decide)).1; omega) (by have z := x_nc_le (k := 78) (by decide); unfold x_r; omega) ?_
              have q309 : h295 78 5 = h282 78 5 := by rw [← e297]; exact x_up_i (by omega)
              have q310 : h282 78 5 = h263 78 5 := jK 0 f284 rg_78_5_0_1 (by omega) (by omega) (by decide)
              have q311 : h263 78 5 = h249 78 5 := jK 0 f265 rg_78_5_0_1 (by omega) (by omega) (by decide)
              have b312 := jB (e := 5) 0 j251 rg_78_5_0_1 (by omega) (by omega)
              refine x_aldC (np := 158) (x := 0) (n := 290) (i := 5) (q := (h249 78 5)) (by decide +kernel) (by decide +kernel) (by omega) (by omega) (by decide) ((q309.trans q310).trans q311) (fun l313 => ?_)
              refine x_const (np := 159) (x := 9223372043297226753) (a := 2147483649) (by decide +kernel) (by decide) (by decide) ?_
              refine x_iadd (np := 160) (x := 0) (v := (1 + (h249 78 5))) (by decide +kernel) l313 (by decide) (by omega) (by omega) ?_
              refine x_ast (np := 161) (x := 0) (kd := 1) (n := 290) (i := 5) (by decide +kernel) (Or.inl rfl) (by decide +kernel) (by omega) (by omega) (by decide) (by omega) (fun z => absurd z (by decide)) ?_
              have j315 := jU (e := 5) (v := (1 + (h249 78 5))) 0 j296 rg_78_5_0_1 (by omega) (by omega) (by omega)
              have f317 := jF (e := 5) (v := (1 + (h249 78 5))) 0 f298 rg_78_5_0_1 (by omega) (by omega) (by decide)
              generalize e316 : x_up h295 78 5 (1 + (h249 78 5)) = h314 at j315 f317 ⊢
              refine x_const (np := 162) (x := 9223372043297226753) (a := 2147483649) (by decide +kernel) (by decide) (by decide) ?_
              have m321 := Cl.fr m254 f265 (by decide)
              have m320 := Cl.fr m321 f284 (by decide)
              have m319 : Cl h295 := by rw [← e297]; exact Cl.upR (e := (253 + 4 * u8)) (v := v279) u8 m320 rg_76_253_4_10 (by omega) (by omega) (by omega)
              have m318 : Cl h314 := by rw [← e316]; exact Cl.upR (e := 5) (v := (1 + (h249 78 5))) 0 m319 rg_76_5_0_1 (by omega) (by omega) (by omega)
              refine x_retI (np := 163) (x := 0) (by decide +kernel) (by decide) (Or.inr ⟨by decide +kernel, by omega, by omega⟩) ⟨_, rfl, (by decide), ?_⟩
              exact ⟨j315, f317, (by omega), (fun _ => m318)⟩
            have q307 : ¬ (2147483649 ≠ 2147483648) := q307
            exfalso; omega
          have q259 : ¬ (v246 = 2147483648) := q259
          refine x_aload (np := 81) (x := 0) (by decide +kernel) rfl (x_nc_le (by decide)) ?_
          refine x_const (np := 82) (x := 9223372039002259456) (a := 2147483648) (by decide +kernel) (by decide) (by decide) ?_
          refine x_aload (np := 83) (x := 0) (by decide +kernel) rfl (x_nc_le (by decide)) ?_
          refine x_nI (t := 6) (mj := 157) (n := 1) (rc := 12) (ml := 1) (nr := 2) (np := 86) (as := [x_r 75]) (rest := [iv_c 2147483648, x_r 75]) (lo1 := [x_r 75]) (by decide +kernel) (by decide) (by decide +kernel) (x_rb_of (by decide +kernel)) rfl rfl (x_wr (by decide) x_wn) (x_wi (by decide) (x_wr (by decide) x_wn)) (by decide) rfl ?_
          refine x_aload (np := 1) (x := 0) (by decide +kernel) rfl (x_nc_le (by decide)) ?_
          have q322 : h249 75 1 = 76 := by have z := jB (e := 1) 0 j251 rg_75_1_0_1 (by decide) (by decide); omega
          refine x_getR (np := 4) (x := 705) (f := 1) (q := 76) (by decide +kernel) (by decide) (by decide +kernel) q322 ?_
          refine x_const (np := 5) (x := 9223372039002259456) (a := 2147483648) (by decide +kernel) (by decide) (by decide) ?_
          have q323 : h249 76 0 = h108 76 0 := jK 0 f250 rg_76_0_0_1 (by omega) (by omega) (by decide)
          have q324 : h108 76 0 = h94 76 0 := by rw [← e110]; exact x_up_k (by decide)
          have q325 : h94 76 0 = h78 76 0 := jK 0 f96 rg_76_0_0_1 (by omega) (by omega) (by decide)
          have q326 : h78 76 0 = h65 76 0 := by rw [← e80]; exact x_up_k (by decide)
          have q327 : h65 76 0 = h49 76 0 := jK 0 f67 rg_76_0_0_1 (by omega) (by omega) (by decide)
          have q328 : h49 76 0 = h33 76 0 := jK 0 f51 rg_76_0_0_1 (by omega) (by omega) (by decide)
          have q329 : h33 76 0 = h19 76 0 := by rw [← e35]; exact x_up_k (by decide)
          have q330 : h19 76 0 = h 76 0 := jK 0 f21 rg_76_0_0_1 (by omega) (by omega) (by decide)
          refine x_aldC (np := 6) (x := 0) (n := 1952) (i := 0) (q := (h 76 0)) (by decide +kernel) (by decide +kernel) (by omega) (by omega) (by decide) (((((((q323.trans q324).trans q325).trans q326).trans q327).trans q328).trans q329).trans q330) (fun l331 => ?_)
          refine x_retI (np := 7) (x := 0) (by decide +kernel) l13 (Or.inl (by decide +kernel)) ⟨_, rfl, l13, ?_⟩
          refine x_const (np := 87) (x := 9223372043297226753) (a := 2147483649) (by decide +kernel) (by decide) (by decide) ?_
          obtain ⟨v332, q333⟩ : ∃ z, z + 2147483649 = (h 76 0) + 2147483648 := ⟨(h 76 0) + 2147483648 - 2147483649, by omega⟩
          refine x_isub (np := 88) (x := 0) (v := v332) (by decide +kernel) l13 (by decide) (by omega) (by omega) ?_
          refine x_cI (t := 6) (mj := 174) (n := 3) (rc := 12) (ml := 4) (nr := 0) (np := 91) (as := [x_r 75, iv_c 2147483648, iv_c v332]) (rest := []) (lo1 := [x_r 75, iv_c 2147483648, iv_c v332, 147573952589676412928]) (by decide +kernel) (by decide) (by decide +kernel) (x_rb_of (by decide +kernel)) rfl rfl (x_wr (by decide) (x_wi (by decide) (x_wi (by omega) x_wn))) x_wn (by decide) rfl (c174_75 j251  (by omega) (by omega)) (fun v334 h337 l335 q336 => ?_)
          obtain ⟨j338, f339, b340, c341, c342, c343, c344, c345⟩ := q336
          have f346 := Fr.trans f257 f339 (by decide)
          have f347 := Fr.trans f250 f339 (by decide)
          have b348 := jB (e := 7) 0 j251 rg_75_7_0_1 (by omega) (by omega)
          have b349 := jB (e := 7) 0 j338 rg_75_7_0_1 (by omega) (by omega)
          have b350 := c345 (by omega)
          refine x_istore (np := 92) (x := 3) (lo' := [x_r 75, iv_c (2147483898 + 4 * u8), iv_c v246, iv_c v334]) (by decide +kernel) l335 (Nat.le_of_ble_eq_true rfl) rfl ?_
          refine x_iload (np := 93) (x := 3) (by decide +kernel) rfl l335 ?_
          refine x_ifz (k := 3) (tg := 98) (np := 96) (by decide +kernel) (by decide) l335 (fun q351 => ?_) (fun q352 => ?_)
          · have q351 : 2147483648 ≤ v334 := q351
            have b353 := c342 (by omega)
            have b354 := c343 (by omega)
            have b355 := c344 (by omega)
            refine x_aload (np := 99) (x := 0) (by decide +kernel) rfl (x_nc_le (by decide)) ?_
            have q356 : h337 75 3 = 78 := by have z := jB (e := 3) 0 j338 rg_75_3_0_1 (by decide) (by decide); omega
            refine x_getR (np := 102) (x := 707) (f := 3) (q := 78) (by decide +kernel) (by decide) (by decide +kernel) q356 ?_
            refine x_iload (np := 103) (x := 1) (by decide +kernel) rfl (by omega) ?_
            refine x_const (np := 104) (x := 9223372047592194050) (a := 2147483650) (by decide +kernel) (by decide) (by decide) ?_
            refine x_iadd (np := 105) (x := 0) (v := (2147483900 + 4 * u8)) (by decide +kernel) (by omega) (by decide) (by omega) (by omega) ?_
            refine x_dup2 (np := 106) (x := 0) (by decide +kernel) (by have z := (iw_c_lt (a := (2147483900 + 4 * u8)) (by omega)).1; omega) (by have z := x_nc_le (k := 78) (by decide); unfold x_r; omega) ?_
            have q357 : h337 78 (252 + 4 * u8) = h249 78 (252 + 4 * u8) := jK u8 f339 rg_78_252_4_10 (by omega) (by omega) (by decide)
            refine x_aldC (np := 107) (x := 0) (n := 290) (i := (252 + 4 * u8)) (q := ((h249 78 (252 + 4 * u8)))) (by decide +kernel) (by decide +kernel) (by omega) (by omega) (by decide) q357 (fun l358 => ?_)
            refine x_const (np := 108) (x := 9223372043297226753) (a := 2147483649) (by decide +kernel) (by decide) (by decide) ?_
            refine x_iload (np := 109) (x := 3) (by decide +kernel) rfl l335 ?_
            refine x_any (np := 110) (k9 := 3) (by decide +kernel) (by decide) (by decide) l335 (fun v359 l360 => ?_)
            refine x_any (np := 111) (k9 := 1) (by decide +kernel) (by decide) l358 l360 (fun v361 l362 => ?_)
            refine x_ast (np := 112) (x := 0) (kd := 1) (n := 290) (i := (252 + 4 * u8)) (by decide +kernel) (Or.inl rfl) (by decide +kernel) (by omega) (by omega) (by decide) l362 (fun z => absurd z (by decide)) ?_
            have j364 := jU (e := (252 + 4 * u8)) (v := v361) u8 j338 rg_78_252_4_10 (by omega) (by omega) (by omega)
            have f366 := jF (e := (252 + 4 * u8)) (v := v361) u8 f346 rg_78_252_4_10 (by omega) (by omega) (by decide)
            have f367 := jF (e := (252 + 4 * u8)) (v := v361) u8 f347 rg_78_252_4_10 (by omega) (by omega) (by decide)
            generalize e365 : x_up h337 78 (252 + 4 * u8) v361 = h363 at j364 f366 f367 ⊢
            refine x_aload (np := 113) (x := 0) (by decide +kernel) rfl (x_nc_le (by decide)) ?_
            refine x_ldcB (i := 15) (idx := 179) (tx := "or") (by rw [tb_y185]; exact List.mem_of_getElem? (i := 54) rfl) (by decide) (by rw [tb_b185]; decide +kernel) ?_
            refine x_cI (t := 6) (mj := 171) (n := 2) (rc := 12) (ml := 2) (nr := 0) (np := 118) (as := [x_r 75, x_b (15 + 1)]) (rest := []) (lo1 := [x_r 75, x_b (15 + 1)]) (by decide +kernel) (by decide) (by decide +kernel) (x_rb_of (by decide +kernel)) rfl rfl (x_wr (by decide) (x_wB (by decide) x_wn)) x_wn (by decide) rfl (c171_75_S0 j364  (by decide)) (fun v368 h371 l369 q370 => ?_)
            obtain ⟨j372, f373, b374, c375, c376⟩ := q370
            have f377 := Fr.trans f366 f373 (by decide)
            have f378 := Fr.trans f367 f373 (by decide)
            have q379 : h363 75 7 = h337 75 7 := by rw [← e365]; exact x_up_k (by decide)
            have b380 := jB (e := 7) 0 j372 rg_75_7_0_1 (by omega) (by omega)
            have q381 : h363 75 7 = h337 75 7 := by rw [← e365]; exact x_up_k (by decide)
            refine x_istore (np := 119) (x := 2) (lo' := [x_r 75, iv_c (2147483898 + 4 * u8), iv_c v368, iv_c v334]) (by decide +kernel) l369 (Nat.le_of_ble_eq_true rfl) rfl ?_
            refine x_goto (np := 122) (x := 76) (by decide +kernel) ?_
            have q382 : h371 78 5 = h363 78 5 := jK 0 f373 rg_78_5_0_1 (by omega) (by omega) (by decide)
            have q383 : h363 78 5 = h337 78 5 := by rw [← e365]; exact x_up_i (by omega)
            have q384 : h337 78 5 = h249 78 5 := jK 0 f339 rg_78_5_0_1 (by omega) (by omega) (by decide)
            have b385 := jB (e := 5) 0 j251 rg_78_5_0_1 (by omega) (by omega)
            have m388 := Cl.fr m254 f339 (by decide)
            have m387 : Cl h363 := by rw [← e365]; exact Cl.upR (e := (252 + 4 * u8)) (v := v361) u8 m388 rg_76_252_4_10 (by omega) (by omega) (by omega)
            have m386 := Cl.fr m387 f373 (by decide)
            exact i256 v368 (iv_c v334) h371 (by omega) (by omega) (by omega) j372 f378 m386
          have q352 : ¬ (2147483648 ≤ v334) := q352
          refine x_const (np := 97) (x := 9223372039002259456) (a := 2147483648) (by decide +kernel) (by decide) (by decide) ?_
          refine x_retI (np := 98) (x := 0) (by decide +kernel) (by decide) (Or.inr ⟨by decide +kernel, by omega, by omega⟩) ⟨_, rfl, (by decide), ?_⟩
          exact ⟨j338, f346, (by omega), (fun z => absurd z (by omega))⟩
      have q389 : h108 78 5 = h94 78 5 := by rw [← e110]; exact x_up_i (by omega)
      have q390 : h94 78 5 = h78 78 5 := jK 0 f96 rg_78_5_0_1 (by omega) (by omega) (by decide)
      have q391 : h78 78 5 = h65 78 5 := by rw [← e80]; exact x_up_i (by omega)
      have q392 : h65 78 5 = h49 78 5 := jK 0 f67 rg_78_5_0_1 (by omega) (by omega) (by decide)
      have q393 : h49 78 5 = h33 78 5 := jK 0 f51 rg_78_5_0_1 (by omega) (by omega) (by decide)
      have q394 : h33 78 5 = h19 78 5 := by rw [← e35]; exact x_up_i (by omega)
      have q395 : h19 78 5 = h 78 5 := jK 0 f21 rg_78_5_0_1 (by omega) (by omega) (by decide)
      have m402 := Cl.fr hC f21 (by decide)
      have m401 : Cl h33 := by rw [← e35]; exact Cl.upR (e := (250 + 4 * u8)) (v := v16) u8 m402 rg_76_250_4_10 (by omega) (by omega) (by omega)
      have m400 := Cl.fr m401 f51 (by decide)
      have m399 := Cl.fr m400 f67 (by decide)
      have m398 : Cl h78 := by rw [← e80]; exact Cl.upR (e := (251 + 4 * u8)) (v := v62) u8 m399 rg_76_251_4_10 (by omega) (by omega) (by omega)
      have m397 := Cl.fr m398 f96 (by decide)
      have m396 : Cl h108 := by rw [← e110]; exact Cl.upR (e := (252 + 4 * u8)) (v := 2147483648) u8 m397 rg_76_252_4_10 (by omega) (by omega) (by omega)
      exact p252 _ 2147483649 147573952589676412928 h108 (Nat.lt_succ_self _) (by omega) (by omega) j109 (Fr.refl _ _) m396
    have q105 : ¬ (v91 ≠ 2147483648) := q105
    refine x_const (np := 64) (x := 9223372039002259456) (a := 2147483648) (by decide +kernel) (by decide) (by decide) ?_
    refine x_retI (np := 65) (x := 0) (by decide +kernel) (by decide) (Or.inr ⟨by decide +kernel, by omega, by omega⟩) ⟨_, rfl, (by decide), ?_⟩
    exact ⟨j95, f100, (by omega), (fun z => absurd z (by omega))⟩
  have q5 : ¬ ((h 78 5) ≠ 2147483658) := q5
  refine x_const (np := 12) (x := 9223372039002259456) (a := 2147483648) (by decide +kernel) (by decide) (by decide) ?_
  refine x_retI (np := 13) (x := 0) (by decide +kernel) (by decide) (Or.inr ⟨by decide +kernel, by omega, by omega⟩) ⟨_, rfl, (by decide), ?_⟩
  exact ⟨hJ, hF, (by omega), (fun z => absurd z (by omega))⟩
