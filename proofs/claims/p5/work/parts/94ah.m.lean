/-! ===== methods ===== -/
set_option maxHeartbeats 0 in
/-- LentNamesModel.readSum()Z -/
theorem c189_75 {sc : Nat × Nat} {d  : Nat} {h : xh} {tB : Nat → Nat} {tN : Nat} (hJ : J h) (hr0 : (h 75 13) + 5 ≤ (h 75 7)) (hT : Tq tB tN h) : X sc 189 (d + 6) (xI fun r h' => J h' ∧ Fr 89128961 h h' ∧ (2147483648 ≤ r ∧ r ≤ 2147483649) ∧ (r = 2147483649 → h' 75 13 + h 75 7 ≤ h' 75 7 + h 75 13) ∧ (r = 2147483649 → h 75 7 + 0 ≤ h' 75 7) ∧ (r = 2147483649 → h 75 13 ≤ h' 75 13) ∧ Kp h h' (h 75 13 - 2147483648) ∧ (r = 2147483649 → Seg (sg h') (h 75 13 - 2147483648) (h' 75 13 - 2147483648)) ∧ (∀ l, G tB tN (Kd.seq 0) l (sk tB tN (h 75 7)) (rs r (sk tB tN (h' 75 7)))) ∧ (r = 2147483648 → ∀ l, GF tB tN (Kd.seq 0) l (sk tB tN (h 75 7)) (h' 75 9))) 0 0 0 [x_r 75] [] h := by
  have hF := Fr.refl 89128961 h
  have b1 := jB (e := 13) 0 hJ rg_75_13_0_1 (by first | decide | omega) (by first | decide | omega)
  have b2 := jB (e := 7) 0 hJ rg_75_7_0_1 (by first | decide | omega) (by first | decide | omega)
  refine x_aload (np := 1) (x := 0) (by decide +kernel) rfl (x_nc_le (by decide)) ?_
  refine x_cI (t := 6) (mj := 188) (n := 1) (rc := 12) (ml := 2) (nr := 0) (np := 4) (as := [x_r 75]) (rest := []) (lo1 := [x_r 75, 147573952589676412928]) (by decide +kernel) (by decide) (by decide +kernel) (x_rb_of (by decide +kernel)) rfl rfl (x_wr (by decide) x_wn) x_wn (by decide) rfl (c188_75 hJ  (by first | decide | omega) hT) (fun v3 h6 l4 q5 => ?_)
  obtain ⟨j7, f8, b9, c10, c11, c12, c13, c14, c15, c16⟩ := q5
  have f17 := Fr.trans hF f8 (by decide)
  have b18 := jB (e := 13) 0 j7 rg_75_13_0_1 (by first | decide | omega) (by first | decide | omega)
  have b19 := jB (e := 7) 0 j7 rg_75_7_0_1 (by first | decide | omega) (by first | decide | omega)
  refine x_ifz (k := 1) (tg := 9) (np := 7) (by decide +kernel) (by decide) l4 (fun q20 => ?_) (fun q21 => ?_)
  · have q20 : v3 ≠ 2147483648 := q20
    have b22 := c10 (by first | decide | omega)
    have b23 := c11 (by first | decide | omega)
    have b24 := c12 (by first | decide | omega)
    have s25 := c14 (by first | decide | omega)
    have p185 : ∀ (n : Nat) (h182 : xh), 4294967296 - h182 75 7 < n → h182 75 13 + h 75 7 ≤ h182 75 7 + h 75 13 → h 75 7 ≤ h182 75 7 → h 75 13 ≤ h182 75 13 → J h182 → Fr 89128961 h6 h182 → (∀ l, Res tB tN (Kd.lp 0) l (sk tB tN (h182 75 7)) (Kd.seq 0) l (sk tB tN (h 75 7))) → (∀ l, ResF tB tN (Kd.lp 0) l (sk tB tN (h182 75 7)) (Kd.seq 0) l (sk tB tN (h 75 7))) → Kp h h182 (h 75 13 - 2147483648) → Seg (sg h182) (h 75 13 - 2147483648) (h182 75 13 - 2147483648) → X sc 189 (d + 6) (xI fun r h' => J h' ∧ Fr 89128961 h h' ∧ (2147483648 ≤ r ∧ r ≤ 2147483649) ∧ (r = 2147483649 → h' 75 13 + h 75 7 ≤ h' 75 7 + h 75 13) ∧ (r = 2147483649 → h 75 7 + 0 ≤ h' 75 7) ∧ (r = 2147483649 → h 75 13 ≤ h' 75 13) ∧ Kp h h' (h 75 13 - 2147483648) ∧ (r = 2147483649 → Seg (sg h') (h 75 13 - 2147483648) (h' 75 13 - 2147483648)) ∧ (∀ l, G tB tN (Kd.seq 0) l (sk tB tN (h 75 7)) (rs r (sk tB tN (h' 75 7)))) ∧ (r = 2147483648 → ∀ l, GF tB tN (Kd.seq 0) l (sk tB tN (h 75 7)) (h' 75 9))) 0 0 9 [x_r 75] [] h182 := by
      intro n
      induction n with
      | zero => intro h182 q193; exact absurd q193 (Nat.not_lt_zero _)
      | succ n i194 =>
        intro h182 q193 b186 b187 b188 j184 f183 m189 m190 m191 m192
        have f195 := Fr.trans f17 f183 (by decide)
        refine x_aload (np := 10) (x := 0) (by decide +kernel) rfl (x_nc_le (by decide)) ?_
        refine x_const (np := 12) (x := 9223372223685853227) (a := 2147483691) (by decide +kernel) (by decide) (by decide) ?_
        have m200 := Tq.fr hT f8 (by decide) (by decide)
        have m199 := Tq.fr m200 f183 (by decide) (by decide)
        refine x_cI (t := 6) (mj := 173) (n := 2) (rc := 12) (ml := 2) (nr := 0) (np := 15) (as := [x_r 75, iv_c 2147483691]) (rest := []) (lo1 := [x_r 75, iv_c 2147483691]) (by decide +kernel) (by decide) (by decide +kernel) (x_rb_of (by decide +kernel)) rfl rfl (x_wr (by decide) (x_wi (by decide) x_wn)) x_wn (by decide) rfl (c173_75 j184  (by first | decide | omega) m199) (fun v196 h201 l197 q198 => ?_)
        obtain ⟨j202, f203, b204, c205, c206, c207, c208⟩ := q198
        have f209 := Fr.trans f195 f203 (by decide)
        have f210 := Fr.trans f183 f203 (by decide)
        have b211 := jB (e := 7) 0 j184 rg_75_7_0_1 (by first | decide | omega) (by first | decide | omega)
        have b212 := jB (e := 7) 0 j202 rg_75_7_0_1 (by first | decide | omega) (by first | decide | omega)
        refine x_ifz (k := 0) (tg := 37) (np := 18) (by decide +kernel) (by decide) l197 (fun q213 => ?_) (fun q214 => ?_)
        · have q213 : v196 = 2147483648 := q213
          refine x_const (np := 38) (x := 9223372043297226753) (a := 2147483649) (by decide +kernel) (by decide) (by decide) ?_
          have q215 : h201 75 13 = h182 75 13 := jK 0 f203 rg_75_13_0_1 (by first | decide | omega) (by first | decide | omega) (by decide)
          have b216 := jB (e := 13) 0 j184 rg_75_13_0_1 (by first | decide | omega) (by first | decide | omega)
          have q217 : h201 75 13 = h182 75 13 := jK 0 f203 rg_75_13_0_1 (by first | decide | omega) (by first | decide | omega) (by decide)
          have k219 : Kp h h182 (h 75 13 - 2147483648) := Kp.less m191 (by first | decide | omega)
          have k218 : Kp h h201 (h 75 13 - 2147483648) := Kp.fr k219 f203 (by first | decide | omega) (by decide)
          have q220 : h201 75 13 = h182 75 13 := jK 0 f203 rg_75_13_0_1 (by first | decide | omega) (by first | decide | omega) (by decide)
          have k221 : Kp h182 h201 (h182 75 13 - 2147483648) := Kp.fr Kp.refl f203 (by first | decide | omega) (by decide)
          have s222 : Seg (sg h201) (h 75 13 - 2147483648) (h201 75 13 - 2147483648) := Seg.cast (Seg.kp m192 k221) (by first | decide | omega) (by first | decide | omega)
          obtain ⟨w223, e224⟩ := Tk.no c207 (by first | decide | omega)
          refine x_retI (np := 39) (x := 0) (by decide +kernel) (by decide) (Or.inr ⟨by decide +kernel, by first | decide | omega, by first | decide | omega⟩) ⟨_, rfl, (by decide), ?_⟩
          exact ⟨j202, f209, (by first | decide | omega), (fun z => by first | decide | omega), (fun z => by first | decide | omega), (fun z => by first | decide | omega), k218, (fun _ => s222), (fun l => gQ_e (t := 0) (m189 l) w223 rfl (by first | decide | omega) ((Eq.symm e224))), (fun z => absurd z (by first | decide | omega))⟩
        have q214 : ¬ (v196 = 2147483648) := q214
        have b225 := c206 (by first | decide | omega)
        refine x_aload (np := 19) (x := 0) (by decide +kernel) rfl (x_nc_le (by decide)) ?_
        have q226 : h201 75 13 = h182 75 13 := jK 0 f203 rg_75_13_0_1 (by first | decide | omega) (by first | decide | omega) (by decide)
        have b227 := jB (e := 13) 0 j184 rg_75_13_0_1 (by first | decide | omega) (by first | decide | omega)
        have m231 := Tq.fr m199 f203 (by decide) (by decide)
        refine x_cI (t := 6) (mj := 188) (n := 1) (rc := 12) (ml := 2) (nr := 0) (np := 22) (as := [x_r 75]) (rest := []) (lo1 := [x_r 75, 147573952589676412928]) (by decide +kernel) (by decide) (by decide +kernel) (x_rb_of (by decide +kernel)) rfl rfl (x_wr (by decide) x_wn) x_wn (by decide) rfl (c188_75 j202  (by first | decide | omega) m231) (fun v228 h232 l229 q230 => ?_)
        obtain ⟨j233, f234, b235, c236, c237, c238, c239, c240, c241, c242⟩ := q230
        have f243 := Fr.trans f209 f234 (by decide)
        have f244 := Fr.trans f210 f234 (by decide)
        have q245 : h201 75 13 = h182 75 13 := jK 0 f203 rg_75_13_0_1 (by first | decide | omega) (by first | decide | omega) (by decide)
        have b246 := jB (e := 13) 0 j233 rg_75_13_0_1 (by first | decide | omega) (by first | decide | omega)
        have b247 := jB (e := 7) 0 j233 rg_75_7_0_1 (by first | decide | omega) (by first | decide | omega)
        have q248 : h201 75 13 = h182 75 13 := jK 0 f203 rg_75_13_0_1 (by first | decide | omega) (by first | decide | omega) (by decide)
        refine x_ifz (k := 1) (tg := 27) (np := 25) (by decide +kernel) (by decide) l229 (fun q249 => ?_) (fun q250 => ?_)
        · have q249 : v228 ≠ 2147483648 := q249
          have b251 := c236 (by first | decide | omega)
          have b252 := c237 (by first | decide | omega)
          have b253 := c238 (by first | decide | omega)
          have s254 := c240 (by first | decide | omega)
          have q255 : h201 75 13 = h182 75 13 := jK 0 f203 rg_75_13_0_1 (by first | decide | omega) (by first | decide | omega) (by decide)
          refine x_aload (np := 28) (x := 0) (by decide +kernel) rfl (x_nc_le (by decide)) ?_
          refine x_const (np := 30) (x := 9223372077656965129) (a := 2147483657) (by decide +kernel) (by decide) (by decide) ?_
          refine x_const (np := 31) (x := 9223372039002259456) (a := 2147483648) (by decide +kernel) (by decide) (by decide) ?_
          refine x_nV (t := 6) (mj := 187) (n := 3) (rc := 12) (ml := 3) (nr := 0) (np := 34) (as := [x_r 75, iv_c 2147483657, iv_c 2147483648]) (rest := []) (lo1 := [x_r 75, iv_c 2147483657, iv_c 2147483648]) (by decide +kernel) (by decide) (by decide +kernel) (x_rb_of (by decide +kernel)) rfl rfl (x_wr (by decide) (x_wi (by decide) (x_wi (by decide) x_wn))) x_wn (by decide) rfl ?_
          refine x_aload (np := 1) (x := 0) (by decide +kernel) rfl (x_nc_le (by decide)) ?_
          have q256 : h232 75 1 = 76 := by have z := jB (e := 1) 0 j233 rg_75_1_0_1 (by decide) (by decide); omega
          refine x_getR (np := 4) (x := 705) (f := 1) (q := 76) (by decide +kernel) (by decide) (by decide +kernel) q256 ?_
          refine x_const (np := 7) (x := 9223376986804585600) (a := 2147484800) (by decide +kernel) (by decide) (by decide) ?_
          refine x_const (np := 8) (x := 9223372047592194050) (a := 2147483650) (by decide +kernel) (by decide) (by decide) ?_
          refine x_aload (np := 9) (x := 0) (by decide +kernel) rfl (x_nc_le (by decide)) ?_
          refine x_getC (np := 12) (x := 717) (f := 13) (q := (h232 75 13)) (by decide +kernel) (by decide) (by decide +kernel) rfl (fun l257 => ?_)
          obtain ⟨u258, q259⟩ : ∃ z, (h232 75 13) = 2147483648 + z := ⟨(h232 75 13) - 2147483648, by first | decide | omega⟩
          refine x_imul (np := 13) (x := 0) (i := 2) (j := u258) (v := (2147483648 + 2 * u258)) (by decide +kernel) (by first | decide | omega) (by first | decide | omega) (by first | decide | omega) (by first | decide | omega) (by decide) l257 ?_
          refine x_iadd (np := 14) (x := 0) (v := (2147484800 + 2 * u258)) (by decide +kernel) (by decide) (by first | decide | omega) (by first | decide | omega) (by first | decide | omega) ?_
          refine x_iload (np := 15) (x := 1) (by decide +kernel) rfl (by decide) ?_
          refine x_ast (np := 16) (x := 0) (kd := 1) (n := 1952) (i := (1152 + 2 * u258)) (by decide +kernel) (Or.inl rfl) (by decide +kernel) (by first | decide | omega) (by first | decide | omega) (by decide) (by decide) (fun z => absurd z (by decide)) ?_
          have j262 := jU (e := (1152 + 2 * u258)) (v := 2147483657) u258 j233 rg_76_1152_2_395 (by first | decide | omega) (by first | decide | omega) (by first | decide | omega)
          have f264 := jF (e := (1152 + 2 * u258)) (v := 2147483657) u258 f243 rg_76_1152_2_395 (by first | decide | omega) (by first | decide | omega) (by decide)
          have f265 := jF (e := (1152 + 2 * u258)) (v := 2147483657) u258 f244 rg_76_1152_2_395 (by first | decide | omega) (by first | decide | omega) (by decide)
          generalize e263 : x_up h232 76 (1152 + 2 * u258) 2147483657 = h261 at j262 f264 f265 ⊢
          refine x_aload (np := 17) (x := 0) (by decide +kernel) rfl (x_nc_le (by decide)) ?_
          have q266 : h261 75 1 = 76 := by have z := jB (e := 1) 0 j262 rg_75_1_0_1 (by decide) (by decide); omega
          refine x_getR (np := 20) (x := 705) (f := 1) (q := 76) (by decide +kernel) (by decide) (by decide +kernel) q266 ?_
          refine x_const (np := 23) (x := 9223376986804585600) (a := 2147484800) (by decide +kernel) (by decide) (by decide) ?_
          refine x_const (np := 24) (x := 9223372047592194050) (a := 2147483650) (by decide +kernel) (by decide) (by decide) ?_
          refine x_aload (np := 25) (x := 0) (by decide +kernel) rfl (x_nc_le (by decide)) ?_
          have q267 : h261 75 13 = h232 75 13 := by rw [← e263]; exact x_up_k (by decide)
          refine x_getC (np := 28) (x := 717) (f := 13) (q := (h232 75 13)) (by decide +kernel) (by decide) (by decide +kernel) q267 (fun l268 => ?_)
          refine x_imul (np := 29) (x := 0) (i := 2) (j := u258) (v := (2147483648 + 2 * u258)) (by decide +kernel) (by first | decide | omega) (by first | decide | omega) (by first | decide | omega) (by first | decide | omega) (by decide) l257 ?_
          refine x_iadd (np := 30) (x := 0) (v := (2147484800 + 2 * u258)) (by decide +kernel) (by decide) (by first | decide | omega) (by first | decide | omega) (by first | decide | omega) ?_
          refine x_const (np := 31) (x := 9223372043297226753) (a := 2147483649) (by decide +kernel) (by decide) (by decide) ?_
          refine x_iadd (np := 32) (x := 0) (v := (2147484801 + 2 * u258)) (by decide +kernel) (by first | decide | omega) (by decide) (by first | decide | omega) (by first | decide | omega) ?_
          refine x_iload (np := 33) (x := 2) (by decide +kernel) rfl (by decide) ?_
          refine x_ast (np := 34) (x := 0) (kd := 1) (n := 1952) (i := (1153 + 2 * u258)) (by decide +kernel) (Or.inl rfl) (by decide +kernel) (by first | decide | omega) (by first | decide | omega) (by decide) (by decide) (fun z => absurd z (by decide)) ?_
          have j271 := jU (e := (1153 + 2 * u258)) (v := 2147483648) u258 j262 rg_76_1153_2_395 (by first | decide | omega) (by first | decide | omega) (by first | decide | omega)
          have f273 := jF (e := (1153 + 2 * u258)) (v := 2147483648) u258 f264 rg_76_1153_2_395 (by first | decide | omega) (by first | decide | omega) (by decide)
          have f274 := jF (e := (1153 + 2 * u258)) (v := 2147483648) u258 f265 rg_76_1153_2_395 (by first | decide | omega) (by first | decide | omega) (by decide)
          generalize e272 : x_up h261 76 (1153 + 2 * u258) 2147483648 = h270 at j271 f273 f274 ⊢
          refine x_aload (np := 35) (x := 0) (by decide +kernel) rfl (x_nc_le (by decide)) ?_
          refine x_dup (np := 36) (x := 0) (by decide +kernel) (by have z := x_nc_le (k := 75) (by decide); unfold x_r; omega) ?_
          have q275 : h270 75 13 = h261 75 13 := by rw [← e272]; exact x_up_k (by decide)
          have q276 : h261 75 13 = h232 75 13 := by rw [← e263]; exact x_up_k (by decide)
          refine x_getC (np := 39) (x := 717) (f := 13) (q := (h232 75 13)) (by decide +kernel) (by decide) (by decide +kernel) (q275.trans q276) (fun l277 => ?_)
          refine x_const (np := 40) (x := 9223372043297226753) (a := 2147483649) (by decide +kernel) (by decide) (by decide) ?_
          refine x_iadd (np := 41) (x := 0) (v := (1 + (h232 75 13))) (by decide +kernel) l257 (by decide) (by first | decide | omega) (by first | decide | omega) ?_
          refine x_putI (np := 44) (x := 717) (f := 13) (by decide +kernel) (by decide +kernel) (by first | decide | omega) (Or.inl (by decide)) ?_
          have j279 := jU (e := 13) (v := (1 + (h232 75 13))) 0 j271 rg_75_13_0_1 (by first | decide | omega) (by first | decide | omega) (by first | decide | omega)
          have f281 := jF (e := 13) (v := (1 + (h232 75 13))) 0 f273 rg_75_13_0_1 (by first | decide | omega) (by first | decide | omega) (by decide)
          have f282 := jF (e := 13) (v := (1 + (h232 75 13))) 0 f274 rg_75_13_0_1 (by first | decide | omega) (by first | decide | omega) (by decide)
          generalize e280 : x_up h270 75 13 (1 + (h232 75 13)) = h278 at j279 f281 f282 ⊢
          refine x_retV (np := 45) (x := 0) (by decide +kernel) (by decide +kernel) ⟨rfl, ?_⟩
          have q283 : h278 75 13 = (1 + (h232 75 13)) := by rw [← e280]; exact x_up_at
          refine x_goto (np := 37) (x := 9) (by decide +kernel) ?_
          have q284 : h278 75 7 = h270 75 7 := by rw [← e280]; exact x_up_i (by first | decide | omega)
          have q285 : h270 75 7 = h261 75 7 := by rw [← e272]; exact x_up_k (by decide)
          have q286 : h261 75 7 = h232 75 7 := by rw [← e263]; exact x_up_k (by decide)
          have q287 : h278 75 7 = h270 75 7 := by rw [← e280]; exact x_up_i (by first | decide | omega)
          have q288 : h270 75 7 = h261 75 7 := by rw [← e272]; exact x_up_k (by decide)
          have q289 : h261 75 7 = h232 75 7 := by rw [← e263]; exact x_up_k (by decide)
          have q290 : h278 75 13 = (1 + (h232 75 13)) := by rw [← e280]; exact x_up_at
          have b291 := jB (e := 10) 0 hJ rg_75_10_0_1 (by first | decide | omega) (by first | decide | omega)
          have q292 : h278 75 10 = h270 75 10 := by rw [← e280]; exact x_up_i (by first | decide | omega)
          have q293 : h270 75 10 = h261 75 10 := by rw [← e272]; exact x_up_k (by decide)
          have q294 : h261 75 10 = h232 75 10 := by rw [← e263]; exact x_up_k (by decide)
          have q295 : h232 75 10 = h201 75 10 := jK 0 f234 rg_75_10_0_1 (by first | decide | omega) (by first | decide | omega) (by decide)
          have q296 : h201 75 10 = h182 75 10 := jK 0 f203 rg_75_10_0_1 (by first | decide | omega) (by first | decide | omega) (by decide)
          have q297 : h182 75 10 = h6 75 10 := jK 0 f183 rg_75_10_0_1 (by first | decide | omega) (by first | decide | omega) (by decide)
          have q298 : h6 75 10 = h 75 10 := jK 0 f8 rg_75_10_0_1 (by first | decide | omega) (by first | decide | omega) (by decide)
          obtain ⟨w299, e300⟩ := Tk.yes c207 (by first | decide | omega)
          have q301 : h278 75 7 = h270 75 7 := by rw [← e280]; exact x_up_i (by first | decide | omega)
          have q302 : h270 75 7 = h261 75 7 := by rw [← e272]; exact x_up_k (by decide)
          have q303 : h261 75 7 = h232 75 7 := by rw [← e263]; exact x_up_k (by decide)
          obtain ⟨w304, e305⟩ := Tk.yes c207 (by first | decide | omega)
          have q306 : h278 75 7 = h270 75 7 := by rw [← e280]; exact x_up_i (by first | decide | omega)
          have q307 : h270 75 7 = h261 75 7 := by rw [← e272]; exact x_up_k (by decide)
          have q308 : h261 75 7 = h232 75 7 := by rw [← e263]; exact x_up_k (by decide)
          have k314 : Kp h h182 (h 75 13 - 2147483648) := Kp.less m191 (by first | decide | omega)
          have k313 : Kp h h201 (h 75 13 - 2147483648) := Kp.fr k314 f203 (by first | decide | omega) (by decide)
          have q315 : h201 75 13 = h182 75 13 := jK 0 f203 rg_75_13_0_1 (by first | decide | omega) (by first | decide | omega) (by decide)
          have k312 : Kp h h232 (h 75 13 - 2147483648) := Kp.trans k313 c239 (by first | decide | omega)
          have k311 : Kp h h261 (h 75 13 - 2147483648) := by rw [← e263]; exact Kp.up k312 (by first | decide | omega) (fun i hi => by first | decide | omega)
          have k310 : Kp h h270 (h 75 13 - 2147483648) := by rw [← e272]; exact Kp.up k311 (by first | decide | omega) (fun i hi => by first | decide | omega)
          have k309 : Kp h h278 (h 75 13 - 2147483648) := by rw [← e280]; exact Kp.oth k310 (by decide)
          have q316 : h278 75 13 = (1 + (h232 75 13)) := by rw [← e280]; exact x_up_at
          have q318 : h278 76 (1152 + 2 * u258) = h270 76 (1152 + 2 * u258) := by rw [← e280]; exact x_up_k (by decide)
          have q319 : h270 76 (1152 + 2 * u258) = h261 76 (1152 + 2 * u258) := by rw [← e272]; exact x_up_i (by first | decide | omega)
          have q320 : h261 76 (1152 + 2 * u258) = 2147483657 := by rw [← e263]; exact x_up_at
          have k325 : Kp h182 h201 (h182 75 13 - 2147483648) := Kp.fr Kp.refl f203 (by first | decide | omega) (by decide)
          have q326 : h201 75 13 = h182 75 13 := jK 0 f203 rg_75_13_0_1 (by first | decide | omega) (by first | decide | omega) (by decide)
          have k324 : Kp h182 h232 (h182 75 13 - 2147483648) := Kp.trans k325 c239 (by first | decide | omega)
          have k323 : Kp h182 h261 (h182 75 13 - 2147483648) := by rw [← e263]; exact Kp.up k324 (by first | decide | omega) (fun i hi => by first | decide | omega)
          have k322 : Kp h182 h270 (h182 75 13 - 2147483648) := by rw [← e272]; exact Kp.up k323 (by first | decide | omega) (fun i hi => by first | decide | omega)
          have k321 : Kp h182 h278 (h182 75 13 - 2147483648) := by rw [← e280]; exact Kp.oth k322 (by decide)
          have k329 : Kp h232 h261 (h232 75 13 - 2147483648) := by rw [← e263]; exact Kp.up Kp.refl (by first | decide | omega) (fun i hi => by first | decide | omega)
          have k328 : Kp h232 h270 (h232 75 13 - 2147483648) := by rw [← e272]; exact Kp.up k329 (by first | decide | omega) (fun i hi => by first | decide | omega)
          have k327 : Kp h232 h278 (h232 75 13 - 2147483648) := by rw [← e280]; exact Kp.oth k328 (by decide)
          have s317 : Seg (sg h278) (h 75 13 - 2147483648) (u258 + 1) := Seg.bin (Seg.kp m192 k321) (Seg.cast (a' := (h182 75 13 - 2147483648)) (b' := u258) (Seg.kp s254 k327) (by first | decide | omega) (by first | decide | omega)) (show 2147483656 < h278 76 (1152 + 2 * u258) by first | decide | omega) (show h278 76 (1152 + 2 * u258) ≠ 2147483660 by first | decide | omega)
          have s330 : Seg (sg h278) (h 75 13 - 2147483648) (h278 75 13 - 2147483648) := Seg.cast (Seg.kp s317 Kp.refl) (by first | decide | omega) (by first | decide | omega)
          exact i194  h278 (by first | decide | omega) (by first | decide | omega) (by first | decide | omega) (by first | decide | omega) j279 f282 (fun l => gQ_st (t := 0) (m189 l) w299 rfl e300 (c241 l) rfl (by first | decide | omega) (congrArg (sk tB tN) (show h232 75 7 = h278 75 7 by first | decide | omega))) (fun l => fQ_st (t := 0) (m190 l) w304 rfl e305 (c241 l) rfl (by first | decide | omega) (congrArg (sk tB tN) (show h232 75 7 = h278 75 7 by first | decide | omega))) k309 s330
        have q250 : ¬ (v228 ≠ 2147483648) := q250
        refine x_const (np := 26) (x := 9223372039002259456) (a := 2147483648) (by decide +kernel) (by decide) (by decide) ?_
        have k333 : Kp h h182 (h 75 13 - 2147483648) := Kp.less m191 (by first | decide | omega)
        have k332 : Kp h h201 (h 75 13 - 2147483648) := Kp.fr k333 f203 (by first | decide | omega) (by decide)
        have q334 : h201 75 13 = h182 75 13 := jK 0 f203 rg_75_13_0_1 (by first | decide | omega) (by first | decide | omega) (by decide)
        have k331 : Kp h h232 (h 75 13 - 2147483648) := Kp.trans k332 c239 (by first | decide | omega)
        obtain ⟨w335, e336⟩ := Tk.yes c207 (by first | decide | omega)
        obtain ⟨w337, e338⟩ := Tk.yes c207 (by first | decide | omega)
        refine x_retI (np := 27) (x := 0) (by decide +kernel) (by decide) (Or.inr ⟨by decide +kernel, by first | decide | omega, by first | decide | omega⟩) ⟨_, rfl, (by decide), ?_⟩
        exact ⟨j233, f243, (by first | decide | omega), (fun z => by first | decide | omega), (fun z => by first | decide | omega), (fun z => by first | decide | omega), k331, (fun z => absurd z (by first | decide | omega)), (fun l => gQ_f (t := 0) (m189 l) w335 rfl e336 (c241 l) rfl (by first | decide | omega) (by first | decide | omega)), (fun _ l => fQ_f (t := 0) (m190 l) w337 rfl e338 (c242 (by first | decide | omega) l) rfl rfl)⟩
    have b339 := jB (e := 10) 0 hJ rg_75_10_0_1 (by first | decide | omega) (by first | decide | omega)
    have q340 : h6 75 10 = h 75 10 := jK 0 f8 rg_75_10_0_1 (by first | decide | omega) (by first | decide | omega) (by decide)
    have k341 : Kp h h6 (h 75 13 - 2147483648) := Kp.less c13 (by first | decide | omega)
    have s342 : Seg (sg h6) (h 75 13 - 2147483648) (h6 75 13 - 2147483648) := Seg.cast (Seg.kp s25 Kp.refl) (by first | decide | omega) (by first | decide | omega)
    exact p185 _  h6 (Nat.lt_succ_self _) (by first | decide | omega) (by first | decide | omega) (by first | decide | omega) j7 (Fr.refl _ _) (fun l => gQ_in (t := 0) (c15 l) rfl (by first | decide | omega) rfl) (fun l => fQ_in (t := 0) (c15 l) rfl (by first | decide | omega) rfl) k341 s342
  have q21 : ¬ (v3 ≠ 2147483648) := q21
  refine x_const (np := 8) (x := 9223372039002259456) (a := 2147483648) (by decide +kernel) (by decide) (by decide) ?_
  have k343 : Kp h h6 (h 75 13 - 2147483648) := Kp.less c13 (by first | decide | omega)
  refine x_retI (np := 9) (x := 0) (by decide +kernel) (by decide) (Or.inr ⟨by decide +kernel, by first | decide | omega, by first | decide | omega⟩) ⟨_, rfl, (by decide), ?_⟩
  exact ⟨j7, f17, (by first | decide | omega), (fun z => by first | decide | omega), (fun z => by first | decide | omega), (fun z => by first | decide | omega), k343, (fun z => absurd z (by first | decide | omega)), (fun l => gQ_no (t := 0) (c15 l) rfl (by first | decide | omega) (by first | decide | omega)), (fun _ l => fQ_no (t := 0) (c16 (by first | decide | omega) l) rfl rfl)⟩
set_option maxHeartbeats 0 in
/-- LentNamesModel.readAtom()Z -/
theorem c190_75_D6 {sc : Nat × Nat} {d  : Nat} {h : xh} {tB : Nat → Nat} {tN : Nat} (hJ : J h) (hr0 : (h 75 13) + 5 ≤ (h 75 7)) (hr1 : (h 75 10) = 2147483654) (hT : Tq tB tN h) : X sc 190 (d + 7) (xI fun r h' => J h' ∧ Fr 89128961 h h' ∧ (2147483648 ≤ r ∧ r ≤ 2147483649) ∧ (r = 2147483649 → h' 75 13 + h 75 7 ≤ h' 75 7 + h 75 13) ∧ (r = 2147483649 → h' 75 10 = h 75 10) ∧ (r = 2147483649 → h 75 7 + 0 ≤ h' 75 7) ∧ (r = 2147483649 → h 75 13 ≤ h' 75 13) ∧ Kp h h' (h 75 13 - 2147483648) ∧ (r = 2147483649 → Seg (sg h') (h 75 13 - 2147483648) (h' 75 13 - 2147483648)) ∧ G tB tN Kd.atom 6 (sk tB tN (h 75 7)) (rs r (sk tB tN (h' 75 7))) ∧ (r = 2147483648 → GF tB tN Kd.atom 6 (sk tB tN (h 75 7)) (h' 75 9))) 0 0 0 [x_r 75, 147573952589676412928, 147573952589676412928] [] h := by
  have hF := Fr.refl 89128961 h
  have b1 := jB (e := 13) 0 hJ rg_75_13_0_1 (by first | decide | omega) (by first | decide | omega)
  have b2 := jB (e := 7) 0 hJ rg_75_7_0_1 (by first | decide | omega) (by first | decide | omega)
  have b3 := jB (e := 10) 0 hJ rg_75_10_0_1 (by first | decide | omega) (by first | decide | omega)
  refine x_aload (np := 1) (x := 0) (by decide +kernel) rfl (x_nc_le (by decide)) ?_
  refine x_const (np := 3) (x := 9223372210800951336) (a := 2147483688) (by decide +kernel) (by decide) (by decide) ?_
  refine x_cI (t := 6) (mj := 173) (n := 2) (rc := 12) (ml := 2) (nr := 0) (np := 6) (as := [x_r 75, iv_c 2147483688]) (rest := []) (lo1 := [x_r 75, iv_c 2147483688]) (by decide +kernel) (by decide) (by decide +kernel) (x_rb_of (by decide +kernel)) rfl rfl (x_wr (by decide) (x_wi (by decide) x_wn)) x_wn (by decide) rfl (c173_75 hJ  (by first | decide | omega) hT) (fun v4 h7 l5 q6 => ?_)
  obtain ⟨j8, f9, b10, c11, c12, c13, c14⟩ := q6
  have f15 := Fr.trans hF f9 (by decide)
  have b16 := jB (e := 7) 0 j8 rg_75_7_0_1 (by first | decide | omega) (by first | decide | omega)
  refine x_ifz (k := 0) (tg := 56) (np := 9) (by decide +kernel) (by decide) l5 (fun q17 => ?_) (fun q18 => ?_)
  · have q17 : v4 = 2147483648 := q17
    refine x_aload (np := 57) (x := 0) (by decide +kernel) rfl (x_nc_le (by decide)) ?_
    refine x_ldcB (i := 24) (idx := 245) (tx := "not") (by rw [tb_y190]; exact List.mem_of_getElem? (i := 59) rfl) (by decide) (by rw [tb_b190]; decide +kernel) ?_
    have m22 := Tq.fr hT f9 (by decide) (by decide)
    refine x_cI (t := 6) (mj := 171) (n := 2) (rc := 12) (ml := 2) (nr := 0) (np := 62) (as := [x_r 75, x_b (24 + 1)]) (rest := []) (lo1 := [x_r 75, x_b (24 + 1)]) (by decide +kernel) (by decide) (by decide +kernel) (x_rb_of (by decide +kernel)) rfl rfl (x_wr (by decide) (x_wB (by decide) x_wn)) x_wn (by decide) rfl (c171_75_S0 j8  (by decide) m22) (fun v19 h23 l20 q21 => ?_)
    obtain ⟨j24, f25, b26, c27, c28, c29, c30⟩ := q21
    have f31 := Fr.trans f15 f25 (by decide)
    have b32 := jB (e := 7) 0 j24 rg_75_7_0_1 (by first | decide | omega) (by first | decide | omega)
    refine x_ifz (k := 0) (tg := 114) (np := 65) (by decide +kernel) (by decide) l20 (fun q33 => ?_) (fun q34 => ?_)
    · have q33 : v19 = 2147483648 := q33
      refine x_aload (np := 115) (x := 0) (by decide +kernel) rfl (x_nc_le (by decide)) ?_
      refine x_ldcB (i := 25) (idx := 250) (tx := "own") (by rw [tb_y190]; exact List.mem_of_getElem? (i := 60) rfl) (by decide) (by rw [tb_b190]; decide +kernel) ?_
      have m38 := Tq.fr m22 f25 (by decide) (by decide)
      refine x_cI (t := 6) (mj := 171) (n := 2) (rc := 12) (ml := 2) (nr := 0) (np := 120) (as := [x_r 75, x_b (25 + 1)]) (rest := []) (lo1 := [x_r 75, x_b (25 + 1)]) (by decide +kernel) (by decide) (by decide +kernel) (x_rb_of (by decide +kernel)) rfl rfl (x_wr (by decide) (x_wB (by decide) x_wn)) x_wn (by decide) rfl (c171_75_S0 j24  (by decide) m38) (fun v35 h39 l36 q37 => ?_)
      obtain ⟨j40, f41, b42, c43, c44, c45, c46⟩ := q37
      have f47 := Fr.trans f31 f41 (by decide)
      have b48 := jB (e := 7) 0 j40 rg_75_7_0_1 (by first | decide | omega) (by first | decide | omega)
      refine x_istore (np := 121) (x := 1) (lo' := [x_r 75, iv_c v35, 147573952589676412928]) (by decide +kernel) l36 (Nat.le_of_ble_eq_true rfl) rfl ?_
      refine x_iload (np := 122) (x := 1) (by decide +kernel) rfl l36 ?_
      refine x_ifz (k := 1) (tg := 134) (np := 125) (by decide +kernel) (by decide) l36 (fun q49 => ?_) (fun q50 => ?_)
      · have q49 : v35 ≠ 2147483648 := q49
        have b51 := c44 (by first | decide | omega)
        refine x_aload (np := 135) (x := 0) (by decide +kernel) rfl (x_nc_le (by decide)) ?_
        refine x_iload (np := 136) (x := 1) (by decide +kernel) rfl l36 ?_
        refine x_ifz (k := 0) (tg := 144) (np := 139) (by decide +kernel) (by decide) l36 (fun q52 => ?_) (fun q53 => ?_)
        · have q52 : v35 = 2147483648 := q52
          exfalso; omega
        have q53 : ¬ (v35 = 2147483648) := q53
        refine x_const (np := 141) (x := 9223372064772063238) (a := 2147483654) (by decide +kernel) (by decide) (by decide) ?_
        refine x_goto (np := 144) (x := 146) (by decide +kernel) ?_
        refine x_const (np := 147) (x := 9223372039002259456) (a := 2147483648) (by decide +kernel) (by decide) (by decide) ?_
        refine x_nV (t := 6) (mj := 187) (n := 3) (rc := 12) (ml := 3) (nr := 0) (np := 150) (as := [x_r 75, iv_c 2147483654, iv_c 2147483648]) (rest := []) (lo1 := [x_r 75, iv_c 2147483654, iv_c 2147483648]) (by decide +kernel) (by decide) (by decide +kernel) (x_rb_of (by decide +kernel)) rfl rfl (x_wr (by decide) (x_wi (by decide) (x_wi (by decide) x_wn))) x_wn (by decide) rfl ?_
        refine x_aload (np := 1) (x := 0) (by decide +kernel) rfl (x_nc_le (by decide)) ?_
        have q54 : h39 75 1 = 76 := by have z := jB (e := 1) 0 j40 rg_75_1_0_1 (by decide) (by decide); omega
        refine x_getR (np := 4) (x := 705) (f := 1) (q := 76) (by decide +kernel) (by decide) (by decide +kernel) q54 ?_
        refine x_const (np := 7) (x := 9223376986804585600) (a := 2147484800) (by decide +kernel) (by decide) (by decide) ?_
        refine x_const (np := 8) (x := 9223372047592194050) (a := 2147483650) (by decide +kernel) (by decide) (by decide) ?_
        refine x_aload (np := 9) (x := 0) (by decide +kernel) rfl (x_nc_le (by decide)) ?_
        have q55 : h39 75 13 = h23 75 13 := jK 0 f41 rg_75_13_0_1 (by first | decide | omega) (by first | decide | omega) (by decide)
        have q56 : h23 75 13 = h7 75 13 := jK 0 f25 rg_75_13_0_1 (by first | decide | omega) (by first | decide | omega) (by decide)
        have q57 : h7 75 13 = h 75 13 := jK 0 f9 rg_75_13_0_1 (by first | decide | omega) (by first | decide | omega) (by decide)
        refine x_getC (np := 12) (x := 717) (f := 13) (q := (h 75 13)) (by decide +kernel) (by decide) (by decide +kernel) ((q55.trans q56).trans q57) (fun l58 => ?_)
        obtain ⟨u59, q60⟩ : ∃ z, (h 75 13) = 2147483648 + z := ⟨(h 75 13) - 2147483648, by first | decide | omega⟩
        refine x_imul (np := 13) (x := 0) (i := 2) (j := u59) (v := (2147483648 + 2 * u59)) (by decide +kernel) (by first | decide | omega) (by first | decide | omega) (by first | decide | omega) (by first | decide | omega) (by decide) l58 ?_
        refine x_iadd (np := 14) (x := 0) (v := (2147484800 + 2 * u59)) (by decide +kernel) (by decide) (by first | decide | omega) (by first | decide | omega) (by first | decide | omega) ?_
        refine x_iload (np := 15) (x := 1) (by decide +kernel) rfl (by decide) ?_
        refine x_ast (np := 16) (x := 0) (kd := 1) (n := 1952) (i := (1152 + 2 * u59)) (by decide +kernel) (Or.inl rfl) (by decide +kernel) (by first | decide | omega) (by first | decide | omega) (by decide) (by decide) (fun z => absurd z (by decide)) ?_
        have j63 := jU (e := (1152 + 2 * u59)) (v := 2147483654) u59 j40 rg_76_1152_2_394 (by first | decide | omega) (by first | decide | omega) (by first | decide | omega)
        have f65 := jF (e := (1152 + 2 * u59)) (v := 2147483654) u59 f47 rg_76_1152_2_394 (by first | decide | omega) (by first | decide | omega) (by decide)
        generalize e64 : x_up h39 76 (1152 + 2 * u59) 2147483654 = h62 at j63 f65 ⊢
        refine x_aload (np := 17) (x := 0) (by decide +kernel) rfl (x_nc_le (by decide)) ?_
        have q66 : h62 75 1 = 76 := by have z := jB (e := 1) 0 j63 rg_75_1_0_1 (by decide) (by decide); omega
        refine x_getR (np := 20) (x := 705) (f := 1) (q := 76) (by decide +kernel) (by decide) (by decide +kernel) q66 ?_
        refine x_const (np := 23) (x := 9223376986804585600) (a := 2147484800) (by decide +kernel) (by decide) (by decide) ?_
        refine x_const (np := 24) (x := 9223372047592194050) (a := 2147483650) (by decide +kernel) (by decide) (by decide) ?_
        refine x_aload (np := 25) (x := 0) (by decide +kernel) rfl (x_nc_le (by decide)) ?_
        have q67 : h62 75 13 = h39 75 13 := by rw [← e64]; exact x_up_k (by decide)
        have q68 : h39 75 13 = h23 75 13 := jK 0 f41 rg_75_13_0_1 (by first | decide | omega) (by first | decide | omega) (by decide)
        have q69 : h23 75 13 = h7 75 13 := jK 0 f25 rg_75_13_0_1 (by first | decide | omega) (by first | decide | omega) (by decide)
        have q70 : h7 75 13 = h 75 13 := jK 0 f9 rg_75_13_0_1 (by first | decide | omega) (by first | decide | omega) (by decide)
        refine x_getC (np := 28) (x := 717) (f := 13) (q := (h 75 13)) (by decide +kernel) (by decide) (by decide +kernel) (((q67.trans q68).trans q69).trans q70) (fun l71 => ?_)
        refine x_imul (np := 29) (x := 0) (i := 2) (j := u59) (v := (2147483648 + 2 * u59)) (by decide +kernel) (by first | decide | omega) (by first | decide | omega) (by first | decide | omega) (by first | decide | omega) (by decide) l58 ?_
        refine x_iadd (np := 30) (x := 0) (v := (2147484800 + 2 * u59)) (by decide +kernel) (by decide) (by first | decide | omega) (by first | decide | omega) (by first | decide | omega) ?_
        refine x_const (np := 31) (x := 9223372043297226753) (a := 2147483649) (by decide +kernel) (by decide) (by decide) ?_
        refine x_iadd (np := 32) (x := 0) (v := (2147484801 + 2 * u59)) (by decide +kernel) (by first | decide | omega) (by decide) (by first | decide | omega) (by first | decide | omega) ?_
        refine x_iload (np := 33) (x := 2) (by decide +kernel) rfl (by decide) ?_
        refine x_ast (np := 34) (x := 0) (kd := 1) (n := 1952) (i := (1153 + 2 * u59)) (by decide +kernel) (Or.inl rfl) (by decide +kernel) (by first | decide | omega) (by first | decide | omega) (by decide) (by decide) (fun z => absurd z (by decide)) ?_
        have j74 := jU (e := (1153 + 2 * u59)) (v := 2147483648) u59 j63 rg_76_1153_2_394 (by first | decide | omega) (by first | decide | omega) (by first | decide | omega)
        have f76 := jF (e := (1153 + 2 * u59)) (v := 2147483648) u59 f65 rg_76_1153_2_394 (by first | decide | omega) (by first | decide | omega) (by decide)
        generalize e75 : x_up h62 76 (1153 + 2 * u59) 2147483648 = h73 at j74 f76 ⊢
        refine x_aload (np := 35) (x := 0) (by decide +kernel) rfl (x_nc_le (by decide)) ?_
        refine x_dup (np := 36) (x := 0) (by decide +kernel) (by have z := x_nc_le (k := 75) (by decide); unfold x_r; omega) ?_
        have q77 : h73 75 13 = h62 75 13 := by rw [← e75]; exact x_up_k (by decide)
        have q78 : h62 75 13 = h39 75 13 := by rw [← e64]; exact x_up_k (by decide)
        have q79 : h39 75 13 = h23 75 13 := jK 0 f41 rg_75_13_0_1 (by first | decide | omega) (by first | decide | omega) (by decide)
        have q80 : h23 75 13 = h7 75 13 := jK 0 f25 rg_75_13_0_1 (by first | decide | omega) (by first | decide | omega) (by decide)
        have q81 : h7 75 13 = h 75 13 := jK 0 f9 rg_75_13_0_1 (by first | decide | omega) (by first | decide | omega) (by decide)
        refine x_getC (np := 39) (x := 717) (f := 13) (q := (h 75 13)) (by decide +kernel) (by decide) (by decide +kernel) ((((q77.trans q78).trans q79).trans q80).trans q81) (fun l82 => ?_)
        refine x_const (np := 40) (x := 9223372043297226753) (a := 2147483649) (by decide +kernel) (by decide) (by decide) ?_
        refine x_iadd (np := 41) (x := 0) (v := (1 + (h 75 13))) (by decide +kernel) l58 (by decide) (by first | decide | omega) (by first | decide | omega) ?_
        refine x_putI (np := 44) (x := 717) (f := 13) (by decide +kernel) (by decide +kernel) (by first | decide | omega) (Or.inl (by decide)) ?_
        have j84 := jU (e := 13) (v := (1 + (h 75 13))) 0 j74 rg_75_13_0_1 (by first | decide | omega) (by first | decide | omega) (by first | decide | omega)
        have f86 := jF (e := 13) (v := (1 + (h 75 13))) 0 f76 rg_75_13_0_1 (by first | decide | omega) (by first | decide | omega) (by decide)
        generalize e85 : x_up h73 75 13 (1 + (h 75 13)) = h83 at j84 f86 ⊢
        refine x_retV (np := 45) (x := 0) (by decide +kernel) (by decide +kernel) ⟨rfl, ?_⟩
        have q87 : h83 75 13 = (1 + (h 75 13)) := by rw [← e85]; exact x_up_at
        refine x_const (np := 151) (x := 9223372043297226753) (a := 2147483649) (by decide +kernel) (by decide) (by decide) ?_
        have q88 : h83 75 13 = (1 + (h 75 13)) := by rw [← e85]; exact x_up_at
        have q89 : h83 75 7 = h73 75 7 := by rw [← e85]; exact x_up_i (by first | decide | omega)
        have q90 : h73 75 7 = h62 75 7 := by rw [← e75]; exact x_up_k (by decide)
        have q91 : h62 75 7 = h39 75 7 := by rw [← e64]; exact x_up_k (by decide)
        have q92 : h83 75 10 = h73 75 10 := by rw [← e85]; exact x_up_i (by first | decide | omega)
        have q93 : h73 75 10 = h62 75 10 := by rw [← e75]; exact x_up_k (by decide)
        have q94 : h62 75 10 = h39 75 10 := by rw [← e64]; exact x_up_k (by decide)
        have q95 : h39 75 10 = h23 75 10 := jK 0 f41 rg_75_10_0_1 (by first | decide | omega) (by first | decide | omega) (by decide)
        have q96 : h23 75 10 = h7 75 10 := jK 0 f25 rg_75_10_0_1 (by first | decide | omega) (by first | decide | omega) (by decide)
        have q97 : h7 75 10 = h 75 10 := jK 0 f9 rg_75_10_0_1 (by first | decide | omega) (by first | decide | omega) (by decide)
        have q98 : h83 75 7 = h73 75 7 := by rw [← e85]; exact x_up_i (by first | decide | omega)
        have q99 : h73 75 7 = h62 75 7 := by rw [← e75]; exact x_up_k (by decide)
        have q100 : h62 75 7 = h39 75 7 := by rw [← e64]; exact x_up_k (by decide)
        have q101 : h83 75 13 = (1 + (h 75 13)) := by rw [← e85]; exact x_up_at
        have k107 : Kp h h7 (h 75 13 - 2147483648) := Kp.fr Kp.refl f9 (by first | decide | omega) (by decide)
        have k106 : Kp h h23 (h 75 13 - 2147483648) := Kp.fr k107 f25 (by first | decide | omega) (by decide)
        have k105 : Kp h h39 (h 75 13 - 2147483648) := Kp.fr k106 f41 (by first | decide | omega) (by decide)
        have k104 : Kp h h62 (h 75 13 - 2147483648) := by rw [← e64]; exact Kp.up k105 (by first | decide | omega) (fun i hi => by first | decide | omega)
        have k103 : Kp h h73 (h 75 13 - 2147483648) := by rw [← e75]; exact Kp.up k104 (by first | decide | omega) (fun i hi => by first | decide | omega)
        have k102 : Kp h h83 (h 75 13 - 2147483648) := by rw [← e85]; exact Kp.oth k103 (by decide)
        have q108 : h83 75 13 = (1 + (h 75 13)) := by rw [← e85]; exact x_up_at
        have q110 : h83 76 (1152 + 2 * u59) = h73 76 (1152 + 2 * u59) := by rw [← e85]; exact x_up_k (by decide)
        have q111 : h73 76 (1152 + 2 * u59) = h62 76 (1152 + 2 * u59) := by rw [← e75]; exact x_up_i (by first | decide | omega)
        have q112 : h62 76 (1152 + 2 * u59) = 2147483654 := by rw [← e64]; exact x_up_at
        have s109 : Seg (sg h83) u59 (u59 + 1) := Seg.push (show 2147483648 ≤ h83 76 (1152 + 2 * u59) by first | decide | omega) (show h83 76 (1152 + 2 * u59) ≤ 2147483656 by first | decide | omega)
        have s113 : Seg (sg h83) (h 75 13 - 2147483648) (h83 75 13 - 2147483648) := Seg.cast (Seg.kp s109 Kp.refl) (by first | decide | omega) (by first | decide | omega)
        obtain ⟨w114, e115⟩ := Tk.no c13 (by first | decide | omega)
        obtain ⟨w116, e117⟩ := Tk.no c29 (by first | decide | omega)
        obtain ⟨w118, e119⟩ := Tk.yes c45 (by first | decide | omega)
        have q120 : h83 75 7 = h73 75 7 := by rw [← e85]; exact x_up_i (by first | decide | omega)
        have q121 : h73 75 7 = h62 75 7 := by rw [← e75]; exact x_up_k (by decide)
        have q122 : h62 75 7 = h39 75 7 := by rw [← e64]; exact x_up_k (by decide)
        refine x_retI (np := 152) (x := 0) (by decide +kernel) (by decide) (Or.inr ⟨by decide +kernel, by first | decide | omega, by first | decide | omega⟩) ⟨_, rfl, (by decide), ?_⟩
        exact ⟨j84, f86, (by first | decide | omega), (fun z => by first | decide | omega), (fun z => by first | decide | omega), (fun z => by first | decide | omega), (fun z => by first | decide | omega), k102, (fun _ => s113), (gA_own w118 (Eq.trans e117 e115) e119 (by first | decide | omega) (congrArg (sk tB tN) (show h39 75 7 = h83 75 7 by first | decide | omega))), (fun z => absurd z (by first | decide | omega))⟩
      have q50 : ¬ (v35 ≠ 2147483648) := q50
      refine x_aload (np := 126) (x := 0) (by decide +kernel) rfl (x_nc_le (by decide)) ?_
      refine x_ldcB (i := 26) (idx := 252) (tx := "mine") (by rw [tb_y190]; exact List.mem_of_getElem? (i := 61) rfl) (by decide) (by rw [tb_b190]; decide +kernel) ?_
      have m126 := Tq.fr m38 f41 (by decide) (by decide)
      refine x_cI (t := 6) (mj := 171) (n := 2) (rc := 12) (ml := 2) (nr := 0) (np := 131) (as := [x_r 75, x_b (26 + 1)]) (rest := []) (lo1 := [x_r 75, x_b (26 + 1)]) (by decide +kernel) (by decide) (by decide +kernel) (x_rb_of (by decide +kernel)) rfl rfl (x_wr (by decide) (x_wB (by decide) x_wn)) x_wn (by decide) rfl (c171_75_S0 j40  (by decide) m126) (fun v123 h127 l124 q125 => ?_)
      obtain ⟨j128, f129, b130, c131, c132, c133, c134⟩ := q125
      have f135 := Fr.trans f47 f129 (by decide)
      have b136 := jB (e := 7) 0 j128 rg_75_7_0_1 (by first | decide | omega) (by first | decide | omega)
      refine x_ifz (k := 0) (tg := 152) (np := 134) (by decide +kernel) (by decide) l124 (fun q137 => ?_) (fun q138 => ?_)
      · have q137 : v123 = 2147483648 := q137
        refine x_aload (np := 153) (x := 0) (by decide +kernel) rfl (x_nc_le (by decide)) ?_
        have q139 : h127 75 13 = h39 75 13 := jK 0 f129 rg_75_13_0_1 (by first | decide | omega) (by first | decide | omega) (by decide)
        have q140 : h39 75 13 = h23 75 13 := jK 0 f41 rg_75_13_0_1 (by first | decide | omega) (by first | decide | omega) (by decide)
        have q141 : h23 75 13 = h7 75 13 := jK 0 f25 rg_75_13_0_1 (by first | decide | omega) (by first | decide | omega) (by decide)
        have q142 : h7 75 13 = h 75 13 := jK 0 f9 rg_75_13_0_1 (by first | decide | omega) (by first | decide | omega) (by decide)
        have m146 := Tq.fr m126 f129 (by decide) (by decide)
        refine x_cI (t := 6) (mj := 189) (n := 1) (rc := 12) (ml := 1) (nr := 0) (np := 156) (as := [x_r 75]) (rest := []) (lo1 := [x_r 75]) (by decide +kernel) (by decide) (by decide +kernel) (x_rb_of (by decide +kernel)) rfl rfl (x_wr (by decide) x_wn) x_wn (by decide) rfl (c189_75 j128  (by first | decide | omega) m146) (fun v143 h147 l144 q145 => ?_)
        obtain ⟨j148, f149, b150, c151, c152, c153, c154, c155, c156, c157⟩ := q145
        have f158 := Fr.trans f135 f149 (by decide)
        have q159 : h127 75 13 = h39 75 13 := jK 0 f129 rg_75_13_0_1 (by first | decide | omega) (by first | decide | omega) (by decide)
        have q160 : h39 75 13 = h23 75 13 := jK 0 f41 rg_75_13_0_1 (by first | decide | omega) (by first | decide | omega) (by decide)
        have q161 : h23 75 13 = h7 75 13 := jK 0 f25 rg_75_13_0_1 (by first | decide | omega) (by first | decide | omega) (by decide)
        have q162 : h7 75 13 = h 75 13 := jK 0 f9 rg_75_13_0_1 (by first | decide | omega) (by first | decide | omega) (by decide)
        have b163 := jB (e := 13) 0 j148 rg_75_13_0_1 (by first | decide | omega) (by first | decide | omega)
        have b164 := jB (e := 7) 0 j148 rg_75_7_0_1 (by first | decide | omega) (by first | decide | omega)
        have q165 : h127 75 13 = h39 75 13 := jK 0 f129 rg_75_13_0_1 (by first | decide | omega) (by first | decide | omega) (by decide)
        have q166 : h39 75 13 = h23 75 13 := jK 0 f41 rg_75_13_0_1 (by first | decide | omega) (by first | decide | omega) (by decide)
        have q167 : h23 75 13 = h7 75 13 := jK 0 f25 rg_75_13_0_1 (by first | decide | omega) (by first | decide | omega) (by decide)
        have q168 : h7 75 13 = h 75 13 := jK 0 f9 rg_75_13_0_1 (by first | decide | omega) (by first | decide | omega) (by decide)
        refine x_ifz (k := 1) (tg := 161) (np := 159) (by decide +kernel) (by decide) l144 (fun q169 => ?_) (fun q170 => ?_)
        · have q169 : v143 ≠ 2147483648 := q169
          have b171 := c151 (by first | decide | omega)
          have b172 := c152 (by first | decide | omega)
          have b173 := c153 (by first | decide | omega)
          have s174 := c155 (by first | decide | omega)
          have q175 : h127 75 13 = h39 75 13 := jK 0 f129 rg_75_13_0_1 (by first | decide | omega) (by first | decide | omega) (by decide)
          have q176 : h39 75 13 = h23 75 13 := jK 0 f41 rg_75_13_0_1 (by first | decide | omega) (by first | decide | omega) (by decide)
          have q177 : h23 75 13 = h7 75 13 := jK 0 f25 rg_75_13_0_1 (by first | decide | omega) (by first | decide | omega) (by decide)
          have q178 : h7 75 13 = h 75 13 := jK 0 f9 rg_75_13_0_1 (by first | decide | omega) (by first | decide | omega) (by decide)
          refine x_aload (np := 162) (x := 0) (by decide +kernel) rfl (x_nc_le (by decide)) ?_
          refine x_const (np := 164) (x := 9223372296700297276) (a := 2147483708) (by decide +kernel) (by decide) (by decide) ?_
          have m182 := Tq.fr m146 f149 (by decide) (by decide)
          refine x_cI (t := 6) (mj := 173) (n := 2) (rc := 12) (ml := 2) (nr := 0) (np := 167) (as := [x_r 75, iv_c 2147483708]) (rest := []) (lo1 := [x_r 75, iv_c 2147483708]) (by decide +kernel) (by decide) (by decide +kernel) (x_rb_of (by decide +kernel)) rfl rfl (x_wr (by decide) (x_wi (by decide) x_wn)) x_wn (by decide) rfl (c173_75 j148  (by first | decide | omega) m182) (fun v179 h183 l180 q181 => ?_)
          obtain ⟨j184, f185, b186, c187, c188, c189, c190⟩ := q181
          have f191 := Fr.trans f158 f185 (by decide)
          have b192 := jB (e := 7) 0 j184 rg_75_7_0_1 (by first | decide | omega) (by first | decide | omega)
          refine x_istore (np := 168) (x := 2) (lo' := [x_r 75, iv_c v35, iv_c v179]) (by decide +kernel) l180 (Nat.le_of_ble_eq_true rfl) rfl ?_
          refine x_iload (np := 169) (x := 2) (by decide +kernel) rfl l180 ?_
          refine x_ifz (k := 1) (tg := 181) (np := 172) (by decide +kernel) (by decide) l180 (fun q193 => ?_) (fun q194 => ?_)
          · have q193 : v179 ≠ 2147483648 := q193
            have b195 := c188 (by first | decide | omega)
            refine x_aload (np := 182) (x := 0) (by decide +kernel) rfl (x_nc_le (by decide)) ?_
            have q196 : h183 75 13 = h147 75 13 := jK 0 f185 rg_75_13_0_1 (by first | decide | omega) (by first | decide | omega) (by decide)
            have m200 := Tq.fr m182 f185 (by decide) (by decide)
            refine x_cI (t := 6) (mj := 189) (n := 1) (rc := 12) (ml := 1) (nr := 0) (np := 185) (as := [x_r 75]) (rest := []) (lo1 := [x_r 75]) (by decide +kernel) (by decide) (by decide +kernel) (x_rb_of (by decide +kernel)) rfl rfl (x_wr (by decide) x_wn) x_wn (by decide) rfl (c189_75 j184  (by first | decide | omega) m200) (fun v197 h201 l198 q199 => ?_)
            obtain ⟨j202, f203, b204, c205, c206, c207, c208, c209, c210, c211⟩ := q199
            have f212 := Fr.trans f191 f203 (by decide)
            have q213 : h183 75 13 = h147 75 13 := jK 0 f185 rg_75_13_0_1 (by first | decide | omega) (by first | decide | omega) (by decide)
            have b214 := jB (e := 13) 0 j202 rg_75_13_0_1 (by first | decide | omega) (by first | decide | omega)
            have b215 := jB (e := 7) 0 j202 rg_75_7_0_1 (by first | decide | omega) (by first | decide | omega)
            have q216 : h183 75 13 = h147 75 13 := jK 0 f185 rg_75_13_0_1 (by first | decide | omega) (by first | decide | omega) (by decide)
            refine x_ifz (k := 1) (tg := 190) (np := 188) (by decide +kernel) (by decide) l198 (fun q217 => ?_) (fun q218 => ?_)
            · have q217 : v197 ≠ 2147483648 := q217
              have b219 := c205 (by first | decide | omega)
              have b220 := c206 (by first | decide | omega)
              have b221 := c207 (by first | decide | omega)
              have s222 := c209 (by first | decide | omega)
              have q223 : h183 75 13 = h147 75 13 := jK 0 f185 rg_75_13_0_1 (by first | decide | omega) (by first | decide | omega) (by decide)
              refine x_aload (np := 191) (x := 0) (by decide +kernel) rfl (x_nc_le (by decide)) ?_
              refine x_iload (np := 192) (x := 2) (by decide +kernel) rfl l180 ?_
              refine x_ifz (k := 0) (tg := 200) (np := 195) (by decide +kernel) (by decide) l180 (fun q224 => ?_) (fun q225 => ?_)
              · have q224 : v179 = 2147483648 := q224
                exfalso; omega
              have q225 : ¬ (v179 = 2147483648) := q225
              refine x_const (np := 197) (x := 9223372081951932426) (a := 2147483658) (by decide +kernel) (by decide) (by decide) ?_
              refine x_goto (np := 200) (x := 202) (by decide +kernel) ?_
              refine x_const (np := 203) (x := 9223372039002259456) (a := 2147483648) (by decide +kernel) (by decide) (by decide) ?_
              refine x_nV (t := 6) (mj := 187) (n := 3) (rc := 12) (ml := 3) (nr := 0) (np := 206) (as := [x_r 75, iv_c 2147483658, iv_c 2147483648]) (rest := []) (lo1 := [x_r 75, iv_c 2147483658, iv_c 2147483648]) (by decide +kernel) (by decide) (by decide +kernel) (x_rb_of (by decide +kernel)) rfl rfl (x_wr (by decide) (x_wi (by decide) (x_wi (by decide) x_wn))) x_wn (by decide) rfl ?_
              refine x_aload (np := 1) (x := 0) (by decide +kernel) rfl (x_nc_le (by decide)) ?_
              have q226 : h201 75 1 = 76 := by have z := jB (e := 1) 0 j202 rg_75_1_0_1 (by decide) (by decide); omega
              refine x_getR (np := 4) (x := 705) (f := 1) (q := 76) (by decide +kernel) (by decide) (by decide +kernel) q226 ?_
              refine x_const (np := 7) (x := 9223376986804585600) (a := 2147484800) (by decide +kernel) (by decide) (by decide) ?_
              refine x_const (np := 8) (x := 9223372047592194050) (a := 2147483650) (by decide +kernel) (by decide) (by decide) ?_
              refine x_aload (np := 9) (x := 0) (by decide +kernel) rfl (x_nc_le (by decide)) ?_
              refine x_getC (np := 12) (x := 717) (f := 13) (q := (h201 75 13)) (by decide +kernel) (by decide) (by decide +kernel) rfl (fun l227 => ?_)
              obtain ⟨u228, q229⟩ : ∃ z, (h201 75 13) = 2147483648 + z := ⟨(h201 75 13) - 2147483648, by first | decide | omega⟩
              refine x_imul (np := 13) (x := 0) (i := 2) (j := u228) (v := (2147483648 + 2 * u228)) (by decide +kernel) (by first | decide | omega) (by first | decide | omega) (by first | decide | omega) (by first | decide | omega) (by decide) l227 ?_
              refine x_iadd (np := 14) (x := 0) (v := (2147484800 + 2 * u228)) (by decide +kernel) (by decide) (by first | decide | omega) (by first | decide | omega) (by first | decide | omega) ?_
              refine x_iload (np := 15) (x := 1) (by decide +kernel) rfl (by decide) ?_
              refine x_ast (np := 16) (x := 0) (kd := 1) (n := 1952) (i := (1152 + 2 * u228)) (by decide +kernel) (Or.inl rfl) (by decide +kernel) (by first | decide | omega) (by first | decide | omega) (by decide) (by decide) (fun z => absurd z (by decide)) ?_
              have j232 := jU (e := (1152 + 2 * u228)) (v := 2147483658) u228 j202 rg_76_1152_2_395 (by first | decide | omega) (by first | decide | omega) (by first | decide | omega)
              have f234 := jF (e := (1152 + 2 * u228)) (v := 2147483658) u228 f212 rg_76_1152_2_395 (by first | decide | omega) (by first | decide | omega) (by decide)
              generalize e233 : x_up h201 76 (1152 + 2 * u228) 2147483658 = h231 at j232 f234 ⊢
              refine x_aload (np := 17) (x := 0) (by decide +kernel) rfl (x_nc_le (by decide)) ?_
              have q235 : h231 75 1 = 76 := by have z := jB (e := 1) 0 j232 rg_75_1_0_1 (by decide) (by decide); omega
              refine x_getR (np := 20) (x := 705) (f := 1) (q := 76) (by decide +kernel) (by decide) (by decide +kernel) q235 ?_
              refine x_const (np := 23) (x := 9223376986804585600) (a := 2147484800) (by decide +kernel) (by decide) (by decide) ?_
              refine x_const (np := 24) (x := 9223372047592194050) (a := 2147483650) (by decide +kernel) (by decide) (by decide) ?_
              refine x_aload (np := 25) (x := 0) (by decide +kernel) rfl (x_nc_le (by decide)) ?_
              have q236 : h231 75 13 = h201 75 13 := by rw [← e233]; exact x_up_k (by decide)
              refine x_getC (np := 28) (x := 717) (f := 13) (q := (h201 75 13)) (by decide +kernel) (by decide) (by decide +kernel) q236 (fun l237 => ?_)
              refine x_imul (np := 29) (x := 0) (i := 2) (j := u228) (v := (2147483648 + 2 * u228)) (by decide +kernel) (by first | decide | omega) (by first | decide | omega) (by first | decide | omega) (by first | decide | omega) (by decide) l227 ?_
              refine x_iadd (np := 30) (x := 0) (v := (2147484800 + 2 * u228)) (by decide +kernel) (by decide) (by first | decide | omega) (by first | decide | omega) (by first | decide | omega) ?_
              refine x_const (np := 31) (x := 9223372043297226753) (a := 2147483649) (by decide +kernel) (by decide) (by decide) ?_
              refine x_iadd (np := 32) (x := 0) (v := (2147484801 + 2 * u228)) (by decide +kernel) (by first | decide | omega) (by decide) (by first | decide | omega) (by first | decide | omega) ?_
              refine x_iload (np := 33) (x := 2) (by decide +kernel) rfl (by decide) ?_
              refine x_ast (np := 34) (x := 0) (kd := 1) (n := 1952) (i := (1153 + 2 * u228)) (by decide +kernel) (Or.inl rfl) (by decide +kernel) (by first | decide | omega) (by first | decide | omega) (by decide) (by decide) (fun z => absurd z (by decide)) ?_
              have j240 := jU (e := (1153 + 2 * u228)) (v := 2147483648) u228 j232 rg_76_1153_2_395 (by first | decide | omega) (by first | decide | omega) (by first | decide | omega)
              have f242 := jF (e := (1153 + 2 * u228)) (v := 2147483648) u228 f234 rg_76_1153_2_395 (by first | decide | omega) (by first | decide | omega) (by decide)
              generalize e241 : x_up h231 76 (1153 + 2 * u228) 2147483648 = h239 at j240 f242 ⊢
              refine x_aload (np := 35) (x := 0) (by decide +kernel) rfl (x_nc_le (by decide)) ?_
              refine x_dup (np := 36) (x := 0) (by decide +kernel) (by have z := x_nc_le (k := 75) (by decide); unfold x_r; omega) ?_
              have q243 : h239 75 13 = h231 75 13 := by rw [← e241]; exact x_up_k (by decide)
              have q244 : h231 75 13 = h201 75 13 := by rw [← e233]; exact x_up_k (by decide)
              refine x_getC (np := 39) (x := 717) (f := 13) (q := (h201 75 13)) (by decide +kernel) (by decide) (by decide +kernel) (q243.trans q244) (fun l245 => ?_)
              refine x_const (np := 40) (x := 9223372043297226753) (a := 2147483649) (by decide +kernel) (by decide) (by decide) ?_
              refine x_iadd (np := 41) (x := 0) (v := (1 + (h201 75 13))) (by decide +kernel) l227 (by decide) (by first | decide | omega) (by first | decide | omega) ?_
              refine x_putI (np := 44) (x := 717) (f := 13) (by decide +kernel) (by decide +kernel) (by first | decide | omega) (Or.inl (by decide)) ?_
              have j247 := jU (e := 13) (v := (1 + (h201 75 13))) 0 j240 rg_75_13_0_1 (by first | decide | omega) (by first | decide | omega) (by first | decide | omega)
              have f249 := jF (e := 13) (v := (1 + (h201 75 13))) 0 f242 rg_75_13_0_1 (by first | decide | omega) (by first | decide | omega) (by decide)
              generalize e248 : x_up h239 75 13 (1 + (h201 75 13)) = h246 at j247 f249 ⊢
              refine x_retV (np := 45) (x := 0) (by decide +kernel) (by decide +kernel) ⟨rfl, ?_⟩
              have q250 : h246 75 13 = (1 + (h201 75 13)) := by rw [← e248]; exact x_up_at
              refine x_const (np := 207) (x := 9223372043297226753) (a := 2147483649) (by decide +kernel) (by decide) (by decide) ?_
              have q251 : h246 75 13 = (1 + (h201 75 13)) := by rw [← e248]; exact x_up_at
              have q252 : h246 75 7 = h239 75 7 := by rw [← e248]; exact x_up_i (by first | decide | omega)
              have q253 : h239 75 7 = h231 75 7 := by rw [← e241]; exact x_up_k (by decide)
              have q254 : h231 75 7 = h201 75 7 := by rw [← e233]; exact x_up_k (by decide)
              have q255 : h246 75 10 = h239 75 10 := by rw [← e248]; exact x_up_i (by first | decide | omega)
              have q256 : h239 75 10 = h231 75 10 := by rw [← e241]; exact x_up_k (by decide)
              have q257 : h231 75 10 = h201 75 10 := by rw [← e233]; exact x_up_k (by decide)
              have q258 : h201 75 10 = h183 75 10 := jK 0 f203 rg_75_10_0_1 (by first | decide | omega) (by first | decide | omega) (by decide)
              have q259 : h183 75 10 = h147 75 10 := jK 0 f185 rg_75_10_0_1 (by first | decide | omega) (by first | decide | omega) (by decide)
              have q260 : h147 75 10 = h127 75 10 := jK 0 f149 rg_75_10_0_1 (by first | decide | omega) (by first | decide | omega) (by decide)
              have q261 : h127 75 10 = h39 75 10 := jK 0 f129 rg_75_10_0_1 (by first | decide | omega) (by first | decide | omega) (by decide)
              have q262 : h39 75 10 = h23 75 10 := jK 0 f41 rg_75_10_0_1 (by first | decide | omega) (by first | decide | omega) (by decide)
              have q263 : h23 75 10 = h7 75 10 := jK 0 f25 rg_75_10_0_1 (by first | decide | omega) (by first | decide | omega) (by decide)
              have q264 : h7 75 10 = h 75 10 := jK 0 f9 rg_75_10_0_1 (by first | decide | omega) (by first | decide | omega) (by decide)
              have q265 : h246 75 7 = h239 75 7 := by rw [← e248]; exact x_up_i (by first | decide | omega)
              have q266 : h239 75 7 = h231 75 7 := by rw [← e241]; exact x_up_k (by decide)
              have q267 : h231 75 7 = h201 75 7 := by rw [← e233]; exact x_up_k (by decide)
              have q268 : h246 75 13 = (1 + (h201 75 13)) := by rw [← e248]; exact x_up_at
              have k278 : Kp h h7 (h 75 13 - 2147483648) := Kp.fr Kp.refl f9 (by first | decide | omega) (by decide)
              have k277 : Kp h h23 (h 75 13 - 2147483648) := Kp.fr k278 f25 (by first | decide | omega) (by decide)
              have k276 : Kp h h39 (h 75 13 - 2147483648) := Kp.fr k277 f41 (by first | decide | omega) (by decide)
              have k275 : Kp h h127 (h 75 13 - 2147483648) := Kp.fr k276 f129 (by first | decide | omega) (by decide)
              have q279 : h127 75 13 = h39 75 13 := jK 0 f129 rg_75_13_0_1 (by first | decide | omega) (by first | decide | omega) (by decide)
              have q280 : h39 75 13 = h23 75 13 := jK 0 f41 rg_75_13_0_1 (by first | decide | omega) (by first | decide | omega) (by decide)
              have q281 : h23 75 13 = h7 75 13 := jK 0 f25 rg_75_13_0_1 (by first | decide | omega) (by first | decide | omega) (by decide)
              have q282 : h7 75 13 = h 75 13 := jK 0 f9 rg_75_13_0_1 (by first | decide | omega) (by first | decide | omega) (by decide)
              have k274 : Kp h h147 (h 75 13 - 2147483648) := Kp.trans k275 c154 (by first | decide | omega)
              have k273 : Kp h h183 (h 75 13 - 2147483648) := Kp.fr k274 f185 (by first | decide | omega) (by decide)
              have q283 : h183 75 13 = h147 75 13 := jK 0 f185 rg_75_13_0_1 (by first | decide | omega) (by first | decide | omega) (by decide)
              have k272 : Kp h h201 (h 75 13 - 2147483648) := Kp.trans k273 c208 (by first | decide | omega)
              have k271 : Kp h h231 (h 75 13 - 2147483648) := by rw [← e233]; exact Kp.up k272 (by first | decide | omega) (fun i hi => by first | decide | omega)
              have k270 : Kp h h239 (h 75 13 - 2147483648) := by rw [← e241]; exact Kp.up k271 (by first | decide | omega) (fun i hi => by first | decide | omega)
              have k269 : Kp h h246 (h 75 13 - 2147483648) := by rw [← e248]; exact Kp.oth k270 (by decide)
              have q284 : h246 75 13 = (1 + (h201 75 13)) := by rw [← e248]; exact x_up_at
              have q286 : h246 76 (1152 + 2 * u228) = h239 76 (1152 + 2 * u228) := by rw [← e248]; exact x_up_k (by decide)
              have q287 : h239 76 (1152 + 2 * u228) = h231 76 (1152 + 2 * u228) := by rw [← e241]; exact x_up_i (by first | decide | omega)
              have q288 : h231 76 (1152 + 2 * u228) = 2147483658 := by rw [← e233]; exact x_up_at
              have k293 : Kp h147 h183 (h147 75 13 - 2147483648) := Kp.fr Kp.refl f185 (by first | decide | omega) (by decide)
              have q294 : h183 75 13 = h147 75 13 := jK 0 f185 rg_75_13_0_1 (by first | decide | omega) (by first | decide | omega) (by decide)
              have k292 : Kp h147 h201 (h147 75 13 - 2147483648) := Kp.trans k293 c208 (by first | decide | omega)
              have k291 : Kp h147 h231 (h147 75 13 - 2147483648) := by rw [← e233]; exact Kp.up k292 (by first | decide | omega) (fun i hi => by first | decide | omega)
              have k290 : Kp h147 h239 (h147 75 13 - 2147483648) := by rw [← e241]; exact Kp.up k291 (by first | decide | omega) (fun i hi => by first | decide | omega)
              have k289 : Kp h147 h246 (h147 75 13 - 2147483648) := by rw [← e248]; exact Kp.oth k290 (by decide)
              have k297 : Kp h201 h231 (h201 75 13 - 2147483648) := by rw [← e233]; exact Kp.up Kp.refl (by first | decide | omega) (fun i hi => by first | decide | omega)
              have k296 : Kp h201 h239 (h201 75 13 - 2147483648) := by rw [← e241]; exact Kp.up k297 (by first | decide | omega) (fun i hi => by first | decide | omega)
              have k295 : Kp h201 h246 (h201 75 13 - 2147483648) := by rw [← e248]; exact Kp.oth k296 (by decide)
              have s285 : Seg (sg h246) (h127 75 13 - 2147483648) (u228 + 1) := Seg.bin (Seg.kp s174 k289) (Seg.cast (a' := (h147 75 13 - 2147483648)) (b' := u228) (Seg.kp s222 k295) (by first | decide | omega) (by first | decide | omega)) (show 2147483656 < h246 76 (1152 + 2 * u228) by first | decide | omega) (show h246 76 (1152 + 2 * u228) ≠ 2147483660 by first | decide | omega)
              have s298 : Seg (sg h246) (h 75 13 - 2147483648) (h246 75 13 - 2147483648) := Seg.cast (Seg.kp s285 Kp.refl) (by first | decide | omega) (by first | decide | omega)
              obtain ⟨w299, e300⟩ := Tk.no c13 (by first | decide | omega)
              obtain ⟨w301, e302⟩ := Tk.no c29 (by first | decide | omega)
              obtain ⟨w303, e304⟩ := Tk.no c45 (by first | decide | omega)
              obtain ⟨w305, e306⟩ := Tk.no c133 (by first | decide | omega)
              have w307 : An tB tN (sk tB tN (h 75 7)) := gA_an w301 e300 w299 rfl w303 (Eq.trans e302 e300) w305 (Eq.trans e304 (Eq.trans e302 e300))
              obtain ⟨w308, e309⟩ := Tk.yes c189 (by first | decide | omega)
              have q310 : h246 75 7 = h239 75 7 := by rw [← e248]; exact x_up_i (by first | decide | omega)
              have q311 : h239 75 7 = h231 75 7 := by rw [← e241]; exact x_up_k (by decide)
              have q312 : h231 75 7 = h201 75 7 := by rw [← e233]; exact x_up_k (by decide)
              refine x_retI (np := 208) (x := 0) (by decide +kernel) (by decide) (Or.inr ⟨by decide +kernel, by first | decide | omega, by first | decide | omega⟩) ⟨_, rfl, (by decide), ?_⟩
              exact ⟨j247, f249, (by first | decide | omega), (fun z => by first | decide | omega), (fun z => by first | decide | omega), (fun z => by first | decide | omega), (fun z => by first | decide | omega), k269, (fun _ => s298), (gA_c2 w307 (c156 6) (Eq.trans e306 (Eq.trans e304 (Eq.trans e302 e300))) (by first | decide | omega) (Or.inl w308) rfl e309 (c210 6) rfl (by first | decide | omega) (fun z => (congrArg (sk tB tN) (show h201 75 7 = h246 75 7 by first | decide | omega)))), (fun z => absurd z (by first | decide | omega))⟩
            have q218 : ¬ (v197 ≠ 2147483648) := q218
            refine x_const (np := 189) (x := 9223372039002259456) (a := 2147483648) (by decide +kernel) (by decide) (by decide) ?_
            have q313 : h201 75 10 = h183 75 10 := jK 0 f203 rg_75_10_0_1 (by first | decide | omega) (by first | decide | omega) (by decide)
            have q314 : h183 75 10 = h147 75 10 := jK 0 f185 rg_75_10_0_1 (by first | decide | omega) (by first | decide | omega) (by decide)
            have q315 : h147 75 10 = h127 75 10 := jK 0 f149 rg_75_10_0_1 (by first | decide | omega) (by first | decide | omega) (by decide)
            have q316 : h127 75 10 = h39 75 10 := jK 0 f129 rg_75_10_0_1 (by first | decide | omega) (by first | decide | omega) (by decide)
            have q317 : h39 75 10 = h23 75 10 := jK 0 f41 rg_75_10_0_1 (by first | decide | omega) (by first | decide | omega) (by decide)
            have q318 : h23 75 10 = h7 75 10 := jK 0 f25 rg_75_10_0_1 (by first | decide | omega) (by first | decide | omega) (by decide)
            have q319 : h7 75 10 = h 75 10 := jK 0 f9 rg_75_10_0_1 (by first | decide | omega) (by first | decide | omega) (by decide)
            have k326 : Kp h h7 (h 75 13 - 2147483648) := Kp.fr Kp.refl f9 (by first | decide | omega) (by decide)
            have k325 : Kp h h23 (h 75 13 - 2147483648) := Kp.fr k326 f25 (by first | decide | omega) (by decide)
            have k324 : Kp h h39 (h 75 13 - 2147483648) := Kp.fr k325 f41 (by first | decide | omega) (by decide)
            have k323 : Kp h h127 (h 75 13 - 2147483648) := Kp.fr k324 f129 (by first | decide | omega) (by decide)
            have q327 : h127 75 13 = h39 75 13 := jK 0 f129 rg_75_13_0_1 (by first | decide | omega) (by first | decide | omega) (by decide)
            have q328 : h39 75 13 = h23 75 13 := jK 0 f41 rg_75_13_0_1 (by first | decide | omega) (by first | decide | omega) (by decide)
            have q329 : h23 75 13 = h7 75 13 := jK 0 f25 rg_75_13_0_1 (by first | decide | omega) (by first | decide | omega) (by decide)
            have q330 : h7 75 13 = h 75 13 := jK 0 f9 rg_75_13_0_1 (by first | decide | omega) (by first | decide | omega) (by decide)
            have k322 : Kp h h147 (h 75 13 - 2147483648) := Kp.trans k323 c154 (by first | decide | omega)
            have k321 : Kp h h183 (h 75 13 - 2147483648) := Kp.fr k322 f185 (by first | decide | omega) (by decide)
            have q331 : h183 75 13 = h147 75 13 := jK 0 f185 rg_75_13_0_1 (by first | decide | omega) (by first | decide | omega) (by decide)
            have k320 : Kp h h201 (h 75 13 - 2147483648) := Kp.trans k321 c208 (by first | decide | omega)
            obtain ⟨w332, e333⟩ := Tk.no c13 (by first | decide | omega)
            obtain ⟨w334, e335⟩ := Tk.no c29 (by first | decide | omega)
            obtain ⟨w336, e337⟩ := Tk.no c45 (by first | decide | omega)
            obtain ⟨w338, e339⟩ := Tk.no c133 (by first | decide | omega)
            have w340 : An tB tN (sk tB tN (h 75 7)) := gA_an w334 e333 w332 rfl w336 (Eq.trans e335 e333) w338 (Eq.trans e337 (Eq.trans e335 e333))
            obtain ⟨w341, e342⟩ := Tk.yes c189 (by first | decide | omega)
            obtain ⟨w343, e344⟩ := Tk.no c13 (by first | decide | omega)
            obtain ⟨w345, e346⟩ := Tk.no c29 (by first | decide | omega)
            obtain ⟨w347, e348⟩ := Tk.no c45 (by first | decide | omega)
            obtain ⟨w349, e350⟩ := Tk.no c133 (by first | decide | omega)
            have w351 : An tB tN (sk tB tN (h 75 7)) := gA_an w345 e344 w343 rfl w347 (Eq.trans e346 e344) w349 (Eq.trans e348 (Eq.trans e346 e344))
            obtain ⟨w352, e353⟩ := Tk.yes c189 (by first | decide | omega)
            refine x_retI (np := 190) (x := 0) (by decide +kernel) (by decide) (Or.inr ⟨by decide +kernel, by first | decide | omega, by first | decide | omega⟩) ⟨_, rfl, (by decide), ?_⟩
            exact ⟨j202, f212, (by first | decide | omega), (fun z => by first | decide | omega), (fun z => by first | decide | omega), (fun z => by first | decide | omega), (fun z => by first | decide | omega), k320, (fun z => absurd z (by first | decide | omega)), (gA_c2 w340 (c156 6) (Eq.trans e339 (Eq.trans e337 (Eq.trans e335 e333))) (by first | decide | omega) (Or.inl w341) rfl e342 (c210 6) rfl (by first | decide | omega) (fun z => absurd z (by first | decide | omega))), (fun _ => fA_c2 w351 (c156 6) (Eq.trans e350 (Eq.trans e348 (Eq.trans e346 e344))) (by first | decide | omega) (Or.inl w352) rfl e353 (c211 (by first | decide | omega) 6) rfl rfl)⟩
          have q194 : ¬ (v179 ≠ 2147483648) := q194
          refine x_aload (np := 173) (x := 0) (by decide +kernel) rfl (x_nc_le (by decide)) ?_
          refine x_const (np := 175) (x := 9223372305290231870) (a := 2147483710) (by decide +kernel) (by decide) (by decide) ?_
          have m357 := Tq.fr m182 f185 (by decide) (by decide)
          refine x_cI (t := 6) (mj := 173) (n := 2) (rc := 12) (ml := 2) (nr := 0) (np := 178) (as := [x_r 75, iv_c 2147483710]) (rest := []) (lo1 := [x_r 75, iv_c 2147483710]) (by decide +kernel) (by decide) (by decide +kernel) (x_rb_of (by decide +kernel)) rfl rfl (x_wr (by decide) (x_wi (by decide) x_wn)) x_wn (by decide) rfl (c173_75 j184  (by first | decide | omega) m357) (fun v354 h358 l355 q356 => ?_)
          obtain ⟨j359, f360, b361, c362, c363, c364, c365⟩ := q356
          have f366 := Fr.trans f191 f360 (by decide)
          have b367 := jB (e := 7) 0 j359 rg_75_7_0_1 (by first | decide | omega) (by first | decide | omega)
          refine x_ifz (k := 0) (tg := 188) (np := 181) (by decide +kernel) (by decide) l355 (fun q368 => ?_) (fun q369 => ?_)
          · have q368 : v354 = 2147483648 := q368
            refine x_const (np := 189) (x := 9223372039002259456) (a := 2147483648) (by decide +kernel) (by decide) (by decide) ?_
            have q370 : h358 75 13 = h183 75 13 := jK 0 f360 rg_75_13_0_1 (by first | decide | omega) (by first | decide | omega) (by decide)
            have q371 : h183 75 13 = h147 75 13 := jK 0 f185 rg_75_13_0_1 (by first | decide | omega) (by first | decide | omega) (by decide)
            have q372 : h358 75 10 = h183 75 10 := jK 0 f360 rg_75_10_0_1 (by first | decide | omega) (by first | decide | omega) (by decide)
            have q373 : h183 75 10 = h147 75 10 := jK 0 f185 rg_75_10_0_1 (by first | decide | omega) (by first | decide | omega) (by decide)
            have q374 : h147 75 10 = h127 75 10 := jK 0 f149 rg_75_10_0_1 (by first | decide | omega) (by first | decide | omega) (by decide)
            have q375 : h127 75 10 = h39 75 10 := jK 0 f129 rg_75_10_0_1 (by first | decide | omega) (by first | decide | omega) (by decide)
            have q376 : h39 75 10 = h23 75 10 := jK 0 f41 rg_75_10_0_1 (by first | decide | omega) (by first | decide | omega) (by decide)
            have q377 : h23 75 10 = h7 75 10 := jK 0 f25 rg_75_10_0_1 (by first | decide | omega) (by first | decide | omega) (by decide)
            have q378 : h7 75 10 = h 75 10 := jK 0 f9 rg_75_10_0_1 (by first | decide | omega) (by first | decide | omega) (by decide)
            have q379 : h358 75 13 = h183 75 13 := jK 0 f360 rg_75_13_0_1 (by first | decide | omega) (by first | decide | omega) (by decide)
            have q380 : h183 75 13 = h147 75 13 := jK 0 f185 rg_75_13_0_1 (by first | decide | omega) (by first | decide | omega) (by decide)
            have k387 : Kp h h7 (h 75 13 - 2147483648) := Kp.fr Kp.refl f9 (by first | decide | omega) (by decide)
            have k386 : Kp h h23 (h 75 13 - 2147483648) := Kp.fr k387 f25 (by first | decide | omega) (by decide)
            have k385 : Kp h h39 (h 75 13 - 2147483648) := Kp.fr k386 f41 (by first | decide | omega) (by decide)
            have k384 : Kp h h127 (h 75 13 - 2147483648) := Kp.fr k385 f129 (by first | decide | omega) (by decide)
            have q388 : h127 75 13 = h39 75 13 := jK 0 f129 rg_75_13_0_1 (by first | decide | omega) (by first | decide | omega) (by decide)
            have q389 : h39 75 13 = h23 75 13 := jK 0 f41 rg_75_13_0_1 (by first | decide | omega) (by first | decide | omega) (by decide)
            have q390 : h23 75 13 = h7 75 13 := jK 0 f25 rg_75_13_0_1 (by first | decide | omega) (by first | decide | omega) (by decide)
            have q391 : h7 75 13 = h 75 13 := jK 0 f9 rg_75_13_0_1 (by first | decide | omega) (by first | decide | omega) (by decide)
            have k383 : Kp h h147 (h 75 13 - 2147483648) := Kp.trans k384 c154 (by first | decide | omega)
            have k382 : Kp h h183 (h 75 13 - 2147483648) := Kp.fr k383 f185 (by first | decide | omega) (by decide)
            have k381 : Kp h h358 (h 75 13 - 2147483648) := Kp.fr k382 f360 (by first | decide | omega) (by decide)
            obtain ⟨w392, e393⟩ := Tk.no c13 (by first | decide | omega)
            obtain ⟨w394, e395⟩ := Tk.no c29 (by first | decide | omega)
            obtain ⟨w396, e397⟩ := Tk.no c45 (by first | decide | omega)
            obtain ⟨w398, e399⟩ := Tk.no c133 (by first | decide | omega)
            have w400 : An tB tN (sk tB tN (h 75 7)) := gA_an w394 e393 w392 rfl w396 (Eq.trans e395 e393) w398 (Eq.trans e397 (Eq.trans e395 e393))
            obtain ⟨w401, e402⟩ := Tk.no c189 (by first | decide | omega)
            obtain ⟨w403, e404⟩ := Tk.no c364 (by first | decide | omega)
            obtain ⟨w405, e406⟩ := Tk.no c13 (by first | decide | omega)
            obtain ⟨w407, e408⟩ := Tk.no c29 (by first | decide | omega)
            obtain ⟨w409, e410⟩ := Tk.no c45 (by first | decide | omega)
            obtain ⟨w411, e412⟩ := Tk.no c133 (by first | decide | omega)
            have w413 : An tB tN (sk tB tN (h 75 7)) := gA_an w407 e406 w405 rfl w409 (Eq.trans e408 e406) w411 (Eq.trans e410 (Eq.trans e408 e406))
            obtain ⟨w414, e415⟩ := Tk.no c189 (by first | decide | omega)
            obtain ⟨w416, e417⟩ := Tk.no c364 (by first | decide | omega)
            refine x_retI (np := 190) (x := 0) (by decide +kernel) (by decide) (Or.inr ⟨by decide +kernel, by first | decide | omega, by first | decide | omega⟩) ⟨_, rfl, (by decide), ?_⟩
            exact ⟨j359, f366, (by first | decide | omega), (fun z => by first | decide | omega), (fun z => by first | decide | omega), (fun z => by first | decide | omega), (fun z => by first | decide | omega), k381, (fun z => absurd z (by first | decide | omega)), (gA_c1 w400 (c156 6) (Eq.trans e399 (Eq.trans e397 (Eq.trans e395 e393))) (by first | decide | omega) w401 rfl w403 (Eq.trans rfl (Eq.trans e402 rfl)) (by first | decide | omega)), (fun _ => fA_c1 w413 (c156 6) (Eq.trans e412 (Eq.trans e410 (Eq.trans e408 e406))) (by first | decide | omega) w414 rfl w416 (Eq.trans rfl (Eq.trans e415 rfl)) c365)⟩
          have q369 : ¬ (v354 = 2147483648) := q369
          have b418 := c363 (by first | decide | omega)
          refine x_aload (np := 182) (x := 0) (by decide +kernel) rfl (x_nc_le (by decide)) ?_
          have q419 : h358 75 13 = h183 75 13 := jK 0 f360 rg_75_13_0_1 (by first | decide | omega) (by first | decide | omega) (by decide)
          have q420 : h183 75 13 = h147 75 13 := jK 0 f185 rg_75_13_0_1 (by first | decide | omega) (by first | decide | omega) (by decide)
          have m424 := Tq.fr m357 f360 (by decide) (by decide)
          refine x_cI (t := 6) (mj := 189) (n := 1) (rc := 12) (ml := 1) (nr := 0) (np := 185) (as := [x_r 75]) (rest := []) (lo1 := [x_r 75]) (by decide +kernel) (by decide) (by decide +kernel) (x_rb_of (by decide +kernel)) rfl rfl (x_wr (by decide) x_wn) x_wn (by decide) rfl (c189_75 j359  (by first | decide | omega) m424) (fun v421 h425 l422 q423 => ?_)
          obtain ⟨j426, f427, b428, c429, c430, c431, c432, c433, c434, c435⟩ := q423
          have f436 := Fr.trans f366 f427 (by decide)
          have q437 : h358 75 13 = h183 75 13 := jK 0 f360 rg_75_13_0_1 (by first | decide | omega) (by first | decide | omega) (by decide)
          have q438 : h183 75 13 = h147 75 13 := jK 0 f185 rg_75_13_0_1 (by first | decide | omega) (by first | decide | omega) (by decide)
          have b439 := jB (e := 13) 0 j426 rg_75_13_0_1 (by first | decide | omega) (by first | decide | omega)
          have b440 := jB (e := 7) 0 j426 rg_75_7_0_1 (by first | decide | omega) (by first | decide | omega)
          have q441 : h358 75 13 = h183 75 13 := jK 0 f360 rg_75_13_0_1 (by first | decide | omega) (by first | decide | omega) (by decide)
          have q442 : h183 75 13 = h147 75 13 := jK 0 f185 rg_75_13_0_1 (by first | decide | omega) (by first | decide | omega) (by decide)
          refine x_ifz (k := 1) (tg := 190) (np := 188) (by decide +kernel) (by decide) l422 (fun q443 => ?_) (fun q444 => ?_)
          · have q443 : v421 ≠ 2147483648 := q443
            have b445 := c429 (by first | decide | omega)
            have b446 := c430 (by first | decide | omega)
            have b447 := c431 (by first | decide | omega)
            have s448 := c433 (by first | decide | omega)
            have q449 : h358 75 13 = h183 75 13 := jK 0 f360 rg_75_13_0_1 (by first | decide | omega) (by first | decide | omega) (by decide)
            have q450 : h183 75 13 = h147 75 13 := jK 0 f185 rg_75_13_0_1 (by first | decide | omega) (by first | decide | omega) (by decide)
            refine x_aload (np := 191) (x := 0) (by decide +kernel) rfl (x_nc_le (by decide)) ?_
            refine x_iload (np := 192) (x := 2) (by decide +kernel) rfl l180 ?_
            refine x_ifz (k := 0) (tg := 200) (np := 195) (by decide +kernel) (by decide) l180 (fun q451 => ?_) (fun q452 => ?_)
            · have q451 : v179 = 2147483648 := q451
              refine x_const (np := 202) (x := 9223372086246899723) (a := 2147483659) (by decide +kernel) (by decide) (by decide) ?_
              refine x_const (np := 203) (x := 9223372039002259456) (a := 2147483648) (by decide +kernel) (by decide) (by decide) ?_
              refine x_nV (t := 6) (mj := 187) (n := 3) (rc := 12) (ml := 3) (nr := 0) (np := 206) (as := [x_r 75, iv_c 2147483659, iv_c 2147483648]) (rest := []) (lo1 := [x_r 75, iv_c 2147483659, iv_c 2147483648]) (by decide +kernel) (by decide) (by decide +kernel) (x_rb_of (by decide +kernel)) rfl rfl (x_wr (by decide) (x_wi (by decide) (x_wi (by decide) x_wn))) x_wn (by decide) rfl ?_
              refine x_aload (np := 1) (x := 0) (by decide +kernel) rfl (x_nc_le (by decide)) ?_
              have q453 : h425 75 1 = 76 := by have z := jB (e := 1) 0 j426 rg_75_1_0_1 (by decide) (by decide); omega
              refine x_getR (np := 4) (x := 705) (f := 1) (q := 76) (by decide +kernel) (by decide) (by decide +kernel) q453 ?_
              refine x_const (np := 7) (x := 9223376986804585600) (a := 2147484800) (by decide +kernel) (by decide) (by decide) ?_
              refine x_const (np := 8) (x := 9223372047592194050) (a := 2147483650) (by decide +kernel) (by decide) (by decide) ?_
              refine x_aload (np := 9) (x := 0) (by decide +kernel) rfl (x_nc_le (by decide)) ?_
              refine x_getC (np := 12) (x := 717) (f := 13) (q := (h425 75 13)) (by decide +kernel) (by decide) (by decide +kernel) rfl (fun l454 => ?_)
              obtain ⟨u455, q456⟩ : ∃ z, (h425 75 13) = 2147483648 + z := ⟨(h425 75 13) - 2147483648, by first | decide | omega⟩
              refine x_imul (np := 13) (x := 0) (i := 2) (j := u455) (v := (2147483648 + 2 * u455)) (by decide +kernel) (by first | decide | omega) (by first | decide | omega) (by first | decide | omega) (by first | decide | omega) (by decide) l454 ?_
              refine x_iadd (np := 14) (x := 0) (v := (2147484800 + 2 * u455)) (by decide +kernel) (by decide) (by first | decide | omega) (by first | decide | omega) (by first | decide | omega) ?_
              refine x_iload (np := 15) (x := 1) (by decide +kernel) rfl (by decide) ?_
              refine x_ast (np := 16) (x := 0) (kd := 1) (n := 1952) (i := (1152 + 2 * u455)) (by decide +kernel) (Or.inl rfl) (by decide +kernel) (by first | decide | omega) (by first | decide | omega) (by decide) (by decide) (fun z => absurd z (by decide)) ?_
              have j459 := jU (e := (1152 + 2 * u455)) (v := 2147483659) u455 j426 rg_76_1152_2_395 (by first | decide | omega) (by first | decide | omega) (by first | decide | omega)
              have f461 := jF (e := (1152 + 2 * u455)) (v := 2147483659) u455 f436 rg_76_1152_2_395 (by first | decide | omega) (by first | decide | omega) (by decide)
              generalize e460 : x_up h425 76 (1152 + 2 * u455) 2147483659 = h458 at j459 f461 ⊢
              refine x_aload (np := 17) (x := 0) (by decide +kernel) rfl (x_nc_le (by decide)) ?_
              have q462 : h458 75 1 = 76 := by have z := jB (e := 1) 0 j459 rg_75_1_0_1 (by decide) (by decide); omega
              refine x_getR (np := 20) (x := 705) (f := 1) (q := 76) (by decide +kernel) (by decide) (by decide +kernel) q462 ?_
              refine x_const (np := 23) (x := 9223376986804585600) (a := 2147484800) (by decide +kernel) (by decide) (by decide) ?_
              refine x_const (np := 24) (x := 9223372047592194050) (a := 2147483650) (by decide +kernel) (by decide) (by decide) ?_
              refine x_aload (np := 25) (x := 0) (by decide +kernel) rfl (x_nc_le (by decide)) ?_
              have q463 : h458 75 13 = h425 75 13 := by rw [← e460]; exact x_up_k (by decide)
              refine x_getC (np := 28) (x := 717) (f := 13) (q := (h425 75 13)) (by decide +kernel) (by decide) (by decide +kernel) q463 (fun l464 => ?_)
              refine x_imul (np := 29) (x := 0) (i := 2) (j := u455) (v := (2147483648 + 2 * u455)) (by decide +kernel) (by first | decide | omega) (by first | decide | omega) (by first | decide | omega) (by first | decide | omega) (by decide) l454 ?_
              refine x_iadd (np := 30) (x := 0) (v := (2147484800 + 2 * u455)) (by decide +kernel) (by decide) (by first | decide | omega) (by first | decide | omega) (by first | decide | omega) ?_
              refine x_const (np := 31) (x := 9223372043297226753) (a := 2147483649) (by decide +kernel) (by decide) (by decide) ?_
              refine x_iadd (np := 32) (x := 0) (v := (2147484801 + 2 * u455)) (by decide +kernel) (by first | decide | omega) (by decide) (by first | decide | omega) (by first | decide | omega) ?_
              refine x_iload (np := 33) (x := 2) (by decide +kernel) rfl (by decide) ?_
              refine x_ast (np := 34) (x := 0) (kd := 1) (n := 1952) (i := (1153 + 2 * u455)) (by decide +kernel) (Or.inl rfl) (by decide +kernel) (by first | decide | omega) (by first | decide | omega) (by decide) (by decide) (fun z => absurd z (by decide)) ?_
              have j467 := jU (e := (1153 + 2 * u455)) (v := 2147483648) u455 j459 rg_76_1153_2_395 (by first | decide | omega) (by first | decide | omega) (by first | decide | omega)
              have f469 := jF (e := (1153 + 2 * u455)) (v := 2147483648) u455 f461 rg_76_1153_2_395 (by first | decide | omega) (by first | decide | omega) (by decide)
              generalize e468 : x_up h458 76 (1153 + 2 * u455) 2147483648 = h466 at j467 f469 ⊢
              refine x_aload (np := 35) (x := 0) (by decide +kernel) rfl (x_nc_le (by decide)) ?_
              refine x_dup (np := 36) (x := 0) (by decide +kernel) (by have z := x_nc_le (k := 75) (by decide); unfold x_r; omega) ?_
              have q470 : h466 75 13 = h458 75 13 := by rw [← e468]; exact x_up_k (by decide)
              have q471 : h458 75 13 = h425 75 13 := by rw [← e460]; exact x_up_k (by decide)
              refine x_getC (np := 39) (x := 717) (f := 13) (q := (h425 75 13)) (by decide +kernel) (by decide) (by decide +kernel) (q470.trans q471) (fun l472 => ?_)
              refine x_const (np := 40) (x := 9223372043297226753) (a := 2147483649) (by decide +kernel) (by decide) (by decide) ?_
              refine x_iadd (np := 41) (x := 0) (v := (1 + (h425 75 13))) (by decide +kernel) l454 (by decide) (by first | decide | omega) (by first | decide | omega) ?_
              refine x_putI (np := 44) (x := 717) (f := 13) (by decide +kernel) (by decide +kernel) (by first | decide | omega) (Or.inl (by decide)) ?_
              have j474 := jU (e := 13) (v := (1 + (h425 75 13))) 0 j467 rg_75_13_0_1 (by first | decide | omega) (by first | decide | omega) (by first | decide | omega)
              have f476 := jF (e := 13) (v := (1 + (h425 75 13))) 0 f469 rg_75_13_0_1 (by first | decide | omega) (by first | decide | omega) (by decide)
              generalize e475 : x_up h466 75 13 (1 + (h425 75 13)) = h473 at j474 f476 ⊢
              refine x_retV (np := 45) (x := 0) (by decide +kernel) (by decide +kernel) ⟨rfl, ?_⟩
              have q477 : h473 75 13 = (1 + (h425 75 13)) := by rw [← e475]; exact x_up_at
              refine x_const (np := 207) (x := 9223372043297226753) (a := 2147483649) (by decide +kernel) (by decide) (by decide) ?_
              have q478 : h473 75 13 = (1 + (h425 75 13)) := by rw [← e475]; exact x_up_at
              have q479 : h473 75 7 = h466 75 7 := by rw [← e475]; exact x_up_i (by first | decide | omega)
              have q480 : h466 75 7 = h458 75 7 := by rw [← e468]; exact x_up_k (by decide)
              have q481 : h458 75 7 = h425 75 7 := by rw [← e460]; exact x_up_k (by decide)
              have q482 : h473 75 10 = h466 75 10 := by rw [← e475]; exact x_up_i (by first | decide | omega)
              have q483 : h466 75 10 = h458 75 10 := by rw [← e468]; exact x_up_k (by decide)
              have q484 : h458 75 10 = h425 75 10 := by rw [← e460]; exact x_up_k (by decide)
              have q485 : h425 75 10 = h358 75 10 := jK 0 f427 rg_75_10_0_1 (by first | decide | omega) (by first | decide | omega) (by decide)
              have q486 : h358 75 10 = h183 75 10 := jK 0 f360 rg_75_10_0_1 (by first | decide | omega) (by first | decide | omega) (by decide)
              have q487 : h183 75 10 = h147 75 10 := jK 0 f185 rg_75_10_0_1 (by first | decide | omega) (by first | decide | omega) (by decide)
              have q488 : h147 75 10 = h127 75 10 := jK 0 f149 rg_75_10_0_1 (by first | decide | omega) (by first | decide | omega) (by decide)
              have q489 : h127 75 10 = h39 75 10 := jK 0 f129 rg_75_10_0_1 (by first | decide | omega) (by first | decide | omega) (by decide)
              have q490 : h39 75 10 = h23 75 10 := jK 0 f41 rg_75_10_0_1 (by first | decide | omega) (by first | decide | omega) (by decide)
              have q491 : h23 75 10 = h7 75 10 := jK 0 f25 rg_75_10_0_1 (by first | decide | omega) (by first | decide | omega) (by decide)
              have q492 : h7 75 10 = h 75 10 := jK 0 f9 rg_75_10_0_1 (by first | decide | omega) (by first | decide | omega) (by decide)
              have q493 : h473 75 7 = h466 75 7 := by rw [← e475]; exact x_up_i (by first | decide | omega)
              have q494 : h466 75 7 = h458 75 7 := by rw [← e468]; exact x_up_k (by decide)
              have q495 : h458 75 7 = h425 75 7 := by rw [← e460]; exact x_up_k (by decide)
              have q496 : h473 75 13 = (1 + (h425 75 13)) := by rw [← e475]; exact x_up_at
              have k507 : Kp h h7 (h 75 13 - 2147483648) := Kp.fr Kp.refl f9 (by first | decide | omega) (by decide)
              have k506 : Kp h h23 (h 75 13 - 2147483648) := Kp.fr k507 f25 (by first | decide | omega) (by decide)
              have k505 : Kp h h39 (h 75 13 - 2147483648) := Kp.fr k506 f41 (by first | decide | omega) (by decide)
              have k504 : Kp h h127 (h 75 13 - 2147483648) := Kp.fr k505 f129 (by first | decide | omega) (by decide)
              have q508 : h127 75 13 = h39 75 13 := jK 0 f129 rg_75_13_0_1 (by first | decide | omega) (by first | decide | omega) (by decide)
              have q509 : h39 75 13 = h23 75 13 := jK 0 f41 rg_75_13_0_1 (by first | decide | omega) (by first | decide | omega) (by decide)
              have q510 : h23 75 13 = h7 75 13 := jK 0 f25 rg_75_13_0_1 (by first | decide | omega) (by first | decide | omega) (by decide)
              have q511 : h7 75 13 = h 75 13 := jK 0 f9 rg_75_13_0_1 (by first | decide | omega) (by first | decide | omega) (by decide)
              have k503 : Kp h h147 (h 75 13 - 2147483648) := Kp.trans k504 c154 (by first | decide | omega)
              have k502 : Kp h h183 (h 75 13 - 2147483648) := Kp.fr k503 f185 (by first | decide | omega) (by decide)
              have k501 : Kp h h358 (h 75 13 - 2147483648) := Kp.fr k502 f360 (by first | decide | omega) (by decide)
              have q512 : h358 75 13 = h183 75 13 := jK 0 f360 rg_75_13_0_1 (by first | decide | omega) (by first | decide | omega) (by decide)
              have q513 : h183 75 13 = h147 75 13 := jK 0 f185 rg_75_13_0_1 (by first | decide | omega) (by first | decide | omega) (by decide)
              have k500 : Kp h h425 (h 75 13 - 2147483648) := Kp.trans k501 c432 (by first | decide | omega)
              have k499 : Kp h h458 (h 75 13 - 2147483648) := by rw [← e460]; exact Kp.up k500 (by first | decide | omega) (fun i hi => by first | decide | omega)
              have k498 : Kp h h466 (h 75 13 - 2147483648) := by rw [← e468]; exact Kp.up k499 (by first | decide | omega) (fun i hi => by first | decide | omega)
              have k497 : Kp h h473 (h 75 13 - 2147483648) := by rw [← e475]; exact Kp.oth k498 (by decide)
              have q514 : h473 75 13 = (1 + (h425 75 13)) := by rw [← e475]; exact x_up_at
              have q516 : h473 76 (1152 + 2 * u455) = h466 76 (1152 + 2 * u455) := by rw [← e475]; exact x_up_k (by decide)
              have q517 : h466 76 (1152 + 2 * u455) = h458 76 (1152 + 2 * u455) := by rw [← e468]; exact x_up_i (by first | decide | omega)
              have q518 : h458 76 (1152 + 2 * u455) = 2147483659 := by rw [← e460]; exact x_up_at
              have k524 : Kp h147 h183 (h147 75 13 - 2147483648) := Kp.fr Kp.refl f185 (by first | decide | omega) (by decide)
              have k523 : Kp h147 h358 (h147 75 13 - 2147483648) := Kp.fr k524 f360 (by first | decide | omega) (by decide)
              have q525 : h358 75 13 = h183 75 13 := jK 0 f360 rg_75_13_0_1 (by first | decide | omega) (by first | decide | omega) (by decide)
              have q526 : h183 75 13 = h147 75 13 := jK 0 f185 rg_75_13_0_1 (by first | decide | omega) (by first | decide | omega) (by decide)
              have k522 : Kp h147 h425 (h147 75 13 - 2147483648) := Kp.trans k523 c432 (by first | decide | omega)
              have k521 : Kp h147 h458 (h147 75 13 - 2147483648) := by rw [← e460]; exact Kp.up k522 (by first | decide | omega) (fun i hi => by first | decide | omega)
              have k520 : Kp h147 h466 (h147 75 13 - 2147483648) := by rw [← e468]; exact Kp.up k521 (by first | decide | omega) (fun i hi => by first | decide | omega)
              have k519 : Kp h147 h473 (h147 75 13 - 2147483648) := by rw [← e475]; exact Kp.oth k520 (by decide)
              have k529 : Kp h425 h458 (h425 75 13 - 2147483648) := by rw [← e460]; exact Kp.up Kp.refl (by first | decide | omega) (fun i hi => by first | decide | omega)
              have k528 : Kp h425 h466 (h425 75 13 - 2147483648) := by rw [← e468]; exact Kp.up k529 (by first | decide | omega) (fun i hi => by first | decide | omega)
              have k527 : Kp h425 h473 (h425 75 13 - 2147483648) := by rw [← e475]; exact Kp.oth k528 (by decide)
              have s515 : Seg (sg h473) (h127 75 13 - 2147483648) (u455 + 1) := Seg.bin (Seg.kp s174 k519) (Seg.cast (a' := (h147 75 13 - 2147483648)) (b' := u455) (Seg.kp s448 k527) (by first | decide | omega) (by first | decide | omega)) (show 2147483656 < h473 76 (1152 + 2 * u455) by first | decide | omega) (show h473 76 (1152 + 2 * u455) ≠ 2147483660 by first | decide | omega)
              have s530 : Seg (sg h473) (h 75 13 - 2147483648) (h473 75 13 - 2147483648) := Seg.cast (Seg.kp s515 Kp.refl) (by first | decide | omega) (by first | decide | omega)
              obtain ⟨w531, e532⟩ := Tk.no c13 (by first | decide | omega)
              obtain ⟨w533, e534⟩ := Tk.no c29 (by first | decide | omega)
              obtain ⟨w535, e536⟩ := Tk.no c45 (by first | decide | omega)
              obtain ⟨w537, e538⟩ := Tk.no c133 (by first | decide | omega)
              have w539 : An tB tN (sk tB tN (h 75 7)) := gA_an w533 e532 w531 rfl w535 (Eq.trans e534 e532) w537 (Eq.trans e536 (Eq.trans e534 e532))
              obtain ⟨w540, e541⟩ := Tk.no c189 (by first | decide | omega)
              obtain ⟨w542, e543⟩ := Tk.yes c364 (by first | decide | omega)
              have q544 : h473 75 7 = h466 75 7 := by rw [← e475]; exact x_up_i (by first | decide | omega)
              have q545 : h466 75 7 = h458 75 7 := by rw [← e468]; exact x_up_k (by decide)
              have q546 : h458 75 7 = h425 75 7 := by rw [← e460]; exact x_up_k (by decide)
              refine x_retI (np := 208) (x := 0) (by decide +kernel) (by decide) (Or.inr ⟨by decide +kernel, by first | decide | omega, by first | decide | omega⟩) ⟨_, rfl, (by decide), ?_⟩
              exact ⟨j474, f476, (by first | decide | omega), (fun z => by first | decide | omega), (fun z => by first | decide | omega), (fun z => by first | decide | omega), (fun z => by first | decide | omega), k497, (fun _ => s530), (gA_c2 w539 (c156 6) (Eq.trans e538 (Eq.trans e536 (Eq.trans e534 e532))) (by first | decide | omega) (Or.inr w542) (Eq.trans rfl (Eq.trans e541 rfl)) e543 (c434 6) rfl (by first | decide | omega) (fun z => (congrArg (sk tB tN) (show h425 75 7 = h473 75 7 by first | decide | omega)))), (fun z => absurd z (by first | decide | omega))⟩
            have q452 : ¬ (v179 = 2147483648) := q452
            exfalso; omega
          have q444 : ¬ (v421 ≠ 2147483648) := q444
          refine x_const (np := 189) (x := 9223372039002259456) (a := 2147483648) (by decide +kernel) (by decide) (by decide) ?_
          have q547 : h425 75 10 = h358 75 10 := jK 0 f427 rg_75_10_0_1 (by first | decide | omega) (by first | decide | omega) (by decide)
          have q548 : h358 75 10 = h183 75 10 := jK 0 f360 rg_75_10_0_1 (by first | decide | omega) (by first | decide | omega) (by decide)
          have q549 : h183 75 10 = h147 75 10 := jK 0 f185 rg_75_10_0_1 (by first | decide | omega) (by first | decide | omega) (by decide)
          have q550 : h147 75 10 = h127 75 10 := jK 0 f149 rg_75_10_0_1 (by first | decide | omega) (by first | decide | omega) (by decide)
          have q551 : h127 75 10 = h39 75 10 := jK 0 f129 rg_75_10_0_1 (by first | decide | omega) (by first | decide | omega) (by decide)
          have q552 : h39 75 10 = h23 75 10 := jK 0 f41 rg_75_10_0_1 (by first | decide | omega) (by first | decide | omega) (by decide)
          have q553 : h23 75 10 = h7 75 10 := jK 0 f25 rg_75_10_0_1 (by first | decide | omega) (by first | decide | omega) (by decide)
          have q554 : h7 75 10 = h 75 10 := jK 0 f9 rg_75_10_0_1 (by first | decide | omega) (by first | decide | omega) (by decide)
          have k562 : Kp h h7 (h 75 13 - 2147483648) := Kp.fr Kp.refl f9 (by first | decide | omega) (by decide)
          have k561 : Kp h h23 (h 75 13 - 2147483648) := Kp.fr k562 f25 (by first | decide | omega) (by decide)
          have k560 : Kp h h39 (h 75 13 - 2147483648) := Kp.fr k561 f41 (by first | decide | omega) (by decide)
          have k559 : Kp h h127 (h 75 13 - 2147483648) := Kp.fr k560 f129 (by first | decide | omega) (by decide)
          have q563 : h127 75 13 = h39 75 13 := jK 0 f129 rg_75_13_0_1 (by first | decide | omega) (by first | decide | omega) (by decide)
          have q564 : h39 75 13 = h23 75 13 := jK 0 f41 rg_75_13_0_1 (by first | decide | omega) (by first | decide | omega) (by decide)
          have q565 : h23 75 13 = h7 75 13 := jK 0 f25 rg_75_13_0_1 (by first | decide | omega) (by first | decide | omega) (by decide)
          have q566 : h7 75 13 = h 75 13 := jK 0 f9 rg_75_13_0_1 (by first | decide | omega) (by first | decide | omega) (by decide)
          have k558 : Kp h h147 (h 75 13 - 2147483648) := Kp.trans k559 c154 (by first | decide | omega)
          have k557 : Kp h h183 (h 75 13 - 2147483648) := Kp.fr k558 f185 (by first | decide | omega) (by decide)
          have k556 : Kp h h358 (h 75 13 - 2147483648) := Kp.fr k557 f360 (by first | decide | omega) (by decide)
          have q567 : h358 75 13 = h183 75 13 := jK 0 f360 rg_75_13_0_1 (by first | decide | omega) (by first | decide | omega) (by decide)
          have q568 : h183 75 13 = h147 75 13 := jK 0 f185 rg_75_13_0_1 (by first | decide | omega) (by first | decide | omega) (by decide)
          have k555 : Kp h h425 (h 75 13 - 2147483648) := Kp.trans k556 c432 (by first | decide | omega)
          obtain ⟨w569, e570⟩ := Tk.no c13 (by first | decide | omega)
          obtain ⟨w571, e572⟩ := Tk.no c29 (by first | decide | omega)
          obtain ⟨w573, e574⟩ := Tk.no c45 (by first | decide | omega)
          obtain ⟨w575, e576⟩ := Tk.no c133 (by first | decide | omega)
          have w577 : An tB tN (sk tB tN (h 75 7)) := gA_an w571 e570 w569 rfl w573 (Eq.trans e572 e570) w575 (Eq.trans e574 (Eq.trans e572 e570))
          obtain ⟨w578, e579⟩ := Tk.no c189 (by first | decide | omega)
          obtain ⟨w580, e581⟩ := Tk.yes c364 (by first | decide | omega)
          obtain ⟨w582, e583⟩ := Tk.no c13 (by first | decide | omega)
          obtain ⟨w584, e585⟩ := Tk.no c29 (by first | decide | omega)
          obtain ⟨w586, e587⟩ := Tk.no c45 (by first | decide | omega)
          obtain ⟨w588, e589⟩ := Tk.no c133 (by first | decide | omega)
          have w590 : An tB tN (sk tB tN (h 75 7)) := gA_an w584 e583 w582 rfl w586 (Eq.trans e585 e583) w588 (Eq.trans e587 (Eq.trans e585 e583))
          obtain ⟨w591, e592⟩ := Tk.no c189 (by first | decide | omega)
          obtain ⟨w593, e594⟩ := Tk.yes c364 (by first | decide | omega)
          refine x_retI (np := 190) (x := 0) (by decide +kernel) (by decide) (Or.inr ⟨by decide +kernel, by first | decide | omega, by first | decide | omega⟩) ⟨_, rfl, (by decide), ?_⟩
          exact ⟨j426, f436, (by first | decide | omega), (fun z => by first | decide | omega), (fun z => by first | decide | omega), (fun z => by first | decide | omega), (fun z => by first | decide | omega), k555, (fun z => absurd z (by first | decide | omega)), (gA_c2 w577 (c156 6) (Eq.trans e576 (Eq.trans e574 (Eq.trans e572 e570))) (by first | decide | omega) (Or.inr w580) (Eq.trans rfl (Eq.trans e579 rfl)) e581 (c434 6) rfl (by first | decide | omega) (fun z => absurd z (by first | decide | omega))), (fun _ => fA_c2 w590 (c156 6) (Eq.trans e589 (Eq.trans e587 (Eq.trans e585 e583))) (by first | decide | omega) (Or.inr w593) (Eq.trans rfl (Eq.trans e592 rfl)) e594 (c435 (by first | decide | omega) 6) rfl rfl)⟩
        have q170 : ¬ (v143 ≠ 2147483648) := q170
        refine x_const (np := 160) (x := 9223372039002259456) (a := 2147483648) (by decide +kernel) (by decide) (by decide) ?_
        have q595 : h147 75 10 = h127 75 10 := jK 0 f149 rg_75_10_0_1 (by first | decide | omega) (by first | decide | omega) (by decide)
        have q596 : h127 75 10 = h39 75 10 := jK 0 f129 rg_75_10_0_1 (by first | decide | omega) (by first | decide | omega) (by decide)
        have q597 : h39 75 10 = h23 75 10 := jK 0 f41 rg_75_10_0_1 (by first | decide | omega) (by first | decide | omega) (by decide)
        have q598 : h23 75 10 = h7 75 10 := jK 0 f25 rg_75_10_0_1 (by first | decide | omega) (by first | decide | omega) (by decide)
        have q599 : h7 75 10 = h 75 10 := jK 0 f9 rg_75_10_0_1 (by first | decide | omega) (by first | decide | omega) (by decide)
        have k604 : Kp h h7 (h 75 13 - 2147483648) := Kp.fr Kp.refl f9 (by first | decide | omega) (by decide)
        have k603 : Kp h h23 (h 75 13 - 2147483648) := Kp.fr k604 f25 (by first | decide | omega) (by decide)
        have k602 : Kp h h39 (h 75 13 - 2147483648) := Kp.fr k603 f41 (by first | decide | omega) (by decide)
        have k601 : Kp h h127 (h 75 13 - 2147483648) := Kp.fr k602 f129 (by first | decide | omega) (by decide)
        have q605 : h127 75 13 = h39 75 13 := jK 0 f129 rg_75_13_0_1 (by first | decide | omega) (by first | decide | omega) (by decide)
        have q606 : h39 75 13 = h23 75 13 := jK 0 f41 rg_75_13_0_1 (by first | decide | omega) (by first | decide | omega) (by decide)
        have q607 : h23 75 13 = h7 75 13 := jK 0 f25 rg_75_13_0_1 (by first | decide | omega) (by first | decide | omega) (by decide)
        have q608 : h7 75 13 = h 75 13 := jK 0 f9 rg_75_13_0_1 (by first | decide | omega) (by first | decide | omega) (by decide)
        have k600 : Kp h h147 (h 75 13 - 2147483648) := Kp.trans k601 c154 (by first | decide | omega)
        obtain ⟨w609, e610⟩ := Tk.no c13 (by first | decide | omega)
        obtain ⟨w611, e612⟩ := Tk.no c29 (by first | decide | omega)
        obtain ⟨w613, e614⟩ := Tk.no c45 (by first | decide | omega)
        obtain ⟨w615, e616⟩ := Tk.no c133 (by first | decide | omega)
        have w617 : An tB tN (sk tB tN (h 75 7)) := gA_an w611 e610 w609 rfl w613 (Eq.trans e612 e610) w615 (Eq.trans e614 (Eq.trans e612 e610))
        obtain ⟨w618, e619⟩ := Tk.no c13 (by first | decide | omega)
        obtain ⟨w620, e621⟩ := Tk.no c29 (by first | decide | omega)
        obtain ⟨w622, e623⟩ := Tk.no c45 (by first | decide | omega)
        obtain ⟨w624, e625⟩ := Tk.no c133 (by first | decide | omega)
        have w626 : An tB tN (sk tB tN (h 75 7)) := gA_an w620 e619 w618 rfl w622 (Eq.trans e621 e619) w624 (Eq.trans e623 (Eq.trans e621 e619))
        refine x_retI (np := 161) (x := 0) (by decide +kernel) (by decide) (Or.inr ⟨by decide +kernel, by first | decide | omega, by first | decide | omega⟩) ⟨_, rfl, (by decide), ?_⟩
        exact ⟨j148, f158, (by first | decide | omega), (fun z => by first | decide | omega), (fun z => by first | decide | omega), (fun z => by first | decide | omega), (fun z => by first | decide | omega), k600, (fun z => absurd z (by first | decide | omega)), (gA_c0 w617 (c156 6) (Eq.trans e616 (Eq.trans e614 (Eq.trans e612 e610))) (by first | decide | omega) (by first | decide | omega)), (fun _ => fA_c0 w626 (c157 (by first | decide | omega) 6) (Eq.trans e625 (Eq.trans e623 (Eq.trans e621 e619))) rfl)⟩
      have q138 : ¬ (v123 = 2147483648) := q138
      have b627 := c132 (by first | decide | omega)
      refine x_aload (np := 135) (x := 0) (by decide +kernel) rfl (x_nc_le (by decide)) ?_
      refine x_iload (np := 136) (x := 1) (by decide +kernel) rfl l36 ?_
      refine x_ifz (k := 0) (tg := 144) (np := 139) (by decide +kernel) (by decide) l36 (fun q628 => ?_) (fun q629 => ?_)
      · have q628 : v35 = 2147483648 := q628
        refine x_const (np := 146) (x := 9223372069067030535) (a := 2147483655) (by decide +kernel) (by decide) (by decide) ?_
        refine x_const (np := 147) (x := 9223372039002259456) (a := 2147483648) (by decide +kernel) (by decide) (by decide) ?_
        refine x_nV (t := 6) (mj := 187) (n := 3) (rc := 12) (ml := 3) (nr := 0) (np := 150) (as := [x_r 75, iv_c 2147483655, iv_c 2147483648]) (rest := []) (lo1 := [x_r 75, iv_c 2147483655, iv_c 2147483648]) (by decide +kernel) (by decide) (by decide +kernel) (x_rb_of (by decide +kernel)) rfl rfl (x_wr (by decide) (x_wi (by decide) (x_wi (by decide) x_wn))) x_wn (by decide) rfl ?_
        refine x_aload (np := 1) (x := 0) (by decide +kernel) rfl (x_nc_le (by decide)) ?_
        have q630 : h127 75 1 = 76 := by have z := jB (e := 1) 0 j128 rg_75_1_0_1 (by decide) (by decide); omega
        refine x_getR (np := 4) (x := 705) (f := 1) (q := 76) (by decide +kernel) (by decide) (by decide +kernel) q630 ?_
        refine x_const (np := 7) (x := 9223376986804585600) (a := 2147484800) (by decide +kernel) (by decide) (by decide) ?_
        refine x_const (np := 8) (x := 9223372047592194050) (a := 2147483650) (by decide +kernel) (by decide) (by decide) ?_
        refine x_aload (np := 9) (x := 0) (by decide +kernel) rfl (x_nc_le (by decide)) ?_
        have q631 : h127 75 13 = h39 75 13 := jK 0 f129 rg_75_13_0_1 (by first | decide | omega) (by first | decide | omega) (by decide)
        have q632 : h39 75 13 = h23 75 13 := jK 0 f41 rg_75_13_0_1 (by first | decide | omega) (by first | decide | omega) (by decide)
        have q633 : h23 75 13 = h7 75 13 := jK 0 f25 rg_75_13_0_1 (by first | decide | omega) (by first | decide | omega) (by decide)
        have q634 : h7 75 13 = h 75 13 := jK 0 f9 rg_75_13_0_1 (by first | decide | omega) (by first | decide | omega) (by decide)
        refine x_getC (np := 12) (x := 717) (f := 13) (q := (h 75 13)) (by decide +kernel) (by decide) (by decide +kernel) (((q631.trans q632).trans q633).trans q634) (fun l635 => ?_)
        obtain ⟨u636, q637⟩ : ∃ z, (h 75 13) = 2147483648 + z := ⟨(h 75 13) - 2147483648, by first | decide | omega⟩
        refine x_imul (np := 13) (x := 0) (i := 2) (j := u636) (v := (2147483648 + 2 * u636)) (by decide +kernel) (by first | decide | omega) (by first | decide | omega) (by first | decide | omega) (by first | decide | omega) (by decide) l635 ?_
        refine x_iadd (np := 14) (x := 0) (v := (2147484800 + 2 * u636)) (by decide +kernel) (by decide) (by first | decide | omega) (by first | decide | omega) (by first | decide | omega) ?_
        refine x_iload (np := 15) (x := 1) (by decide +kernel) rfl (by decide) ?_
        refine x_ast (np := 16) (x := 0) (kd := 1) (n := 1952) (i := (1152 + 2 * u636)) (by decide +kernel) (Or.inl rfl) (by decide +kernel) (by first | decide | omega) (by first | decide | omega) (by decide) (by decide) (fun z => absurd z (by decide)) ?_
        have j640 := jU (e := (1152 + 2 * u636)) (v := 2147483655) u636 j128 rg_76_1152_2_394 (by first | decide | omega) (by first | decide | omega) (by first | decide | omega)
        have f642 := jF (e := (1152 + 2 * u636)) (v := 2147483655) u636 f135 rg_76_1152_2_394 (by first | decide | omega) (by first | decide | omega) (by decide)
        generalize e641 : x_up h127 76 (1152 + 2 * u636) 2147483655 = h639 at j640 f642 ⊢
        refine x_aload (np := 17) (x := 0) (by decide +kernel) rfl (x_nc_le (by decide)) ?_
        have q643 : h639 75 1 = 76 := by have z := jB (e := 1) 0 j640 rg_75_1_0_1 (by decide) (by decide); omega
        refine x_getR (np := 20) (x := 705) (f := 1) (q := 76) (by decide +kernel) (by decide) (by decide +kernel) q643 ?_
        refine x_const (np := 23) (x := 9223376986804585600) (a := 2147484800) (by decide +kernel) (by decide) (by decide) ?_
        refine x_const (np := 24) (x := 9223372047592194050) (a := 2147483650) (by decide +kernel) (by decide) (by decide) ?_
        refine x_aload (np := 25) (x := 0) (by decide +kernel) rfl (x_nc_le (by decide)) ?_
        have q644 : h639 75 13 = h127 75 13 := by rw [← e641]; exact x_up_k (by decide)
        have q645 : h127 75 13 = h39 75 13 := jK 0 f129 rg_75_13_0_1 (by first | decide | omega) (by first | decide | omega) (by decide)
        have q646 : h39 75 13 = h23 75 13 := jK 0 f41 rg_75_13_0_1 (by first | decide | omega) (by first | decide | omega) (by decide)
        have q647 : h23 75 13 = h7 75 13 := jK 0 f25 rg_75_13_0_1 (by first | decide | omega) (by first | decide | omega) (by decide)
        have q648 : h7 75 13 = h 75 13 := jK 0 f9 rg_75_13_0_1 (by first | decide | omega) (by first | decide | omega) (by decide)
        refine x_getC (np := 28) (x := 717) (f := 13) (q := (h 75 13)) (by decide +kernel) (by decide) (by decide +kernel) ((((q644.trans q645).trans q646).trans q647).trans q648) (fun l649 => ?_)
        refine x_imul (np := 29) (x := 0) (i := 2) (j := u636) (v := (2147483648 + 2 * u636)) (by decide +kernel) (by first | decide | omega) (by first | decide | omega) (by first | decide | omega) (by first | decide | omega) (by decide) l635 ?_
        refine x_iadd (np := 30) (x := 0) (v := (2147484800 + 2 * u636)) (by decide +kernel) (by decide) (by first | decide | omega) (by first | decide | omega) (by first | decide | omega) ?_
        refine x_const (np := 31) (x := 9223372043297226753) (a := 2147483649) (by decide +kernel) (by decide) (by decide) ?_
        refine x_iadd (np := 32) (x := 0) (v := (2147484801 + 2 * u636)) (by decide +kernel) (by first | decide | omega) (by decide) (by first | decide | omega) (by first | decide | omega) ?_
        refine x_iload (np := 33) (x := 2) (by decide +kernel) rfl (by decide) ?_
        refine x_ast (np := 34) (x := 0) (kd := 1) (n := 1952) (i := (1153 + 2 * u636)) (by decide +kernel) (Or.inl rfl) (by decide +kernel) (by first | decide | omega) (by first | decide | omega) (by decide) (by decide) (fun z => absurd z (by decide)) ?_
        have j652 := jU (e := (1153 + 2 * u636)) (v := 2147483648) u636 j640 rg_76_1153_2_394 (by first | decide | omega) (by first | decide | omega) (by first | decide | omega)
        have f654 := jF (e := (1153 + 2 * u636)) (v := 2147483648) u636 f642 rg_76_1153_2_394 (by first | decide | omega) (by first | decide | omega) (by decide)
        generalize e653 : x_up h639 76 (1153 + 2 * u636) 2147483648 = h651 at j652 f654 ⊢
        refine x_aload (np := 35) (x := 0) (by decide +kernel) rfl (x_nc_le (by decide)) ?_
        refine x_dup (np := 36) (x := 0) (by decide +kernel) (by have z := x_nc_le (k := 75) (by decide); unfold x_r; omega) ?_
        have q655 : h651 75 13 = h639 75 13 := by rw [← e653]; exact x_up_k (by decide)
        have q656 : h639 75 13 = h127 75 13 := by rw [← e641]; exact x_up_k (by decide)
        have q657 : h127 75 13 = h39 75 13 := jK 0 f129 rg_75_13_0_1 (by first | decide | omega) (by first | decide | omega) (by decide)
        have q658 : h39 75 13 = h23 75 13 := jK 0 f41 rg_75_13_0_1 (by first | decide | omega) (by first | decide | omega) (by decide)
        have q659 : h23 75 13 = h7 75 13 := jK 0 f25 rg_75_13_0_1 (by first | decide | omega) (by first | decide | omega) (by decide)
        have q660 : h7 75 13 = h 75 13 := jK 0 f9 rg_75_13_0_1 (by first | decide | omega) (by first | decide | omega) (by decide)
        refine x_getC (np := 39) (x := 717) (f := 13) (q := (h 75 13)) (by decide +kernel) (by decide) (by decide +kernel) (((((q655.trans q656).trans q657).trans q658).trans q659).trans q660) (fun l661 => ?_)
        refine x_const (np := 40) (x := 9223372043297226753) (a := 2147483649) (by decide +kernel) (by decide) (by decide) ?_
        refine x_iadd (np := 41) (x := 0) (v := (1 + (h 75 13))) (by decide +kernel) l635 (by decide) (by first | decide | omega) (by first | decide | omega) ?_
        refine x_putI (np := 44) (x := 717) (f := 13) (by decide +kernel) (by decide +kernel) (by first | decide | omega) (Or.inl (by decide)) ?_
        have j663 := jU (e := 13) (v := (1 + (h 75 13))) 0 j652 rg_75_13_0_1 (by first | decide | omega) (by first | decide | omega) (by first | decide | omega)
        have f665 := jF (e := 13) (v := (1 + (h 75 13))) 0 f654 rg_75_13_0_1 (by first | decide | omega) (by first | decide | omega) (by decide)
        generalize e664 : x_up h651 75 13 (1 + (h 75 13)) = h662 at j663 f665 ⊢
        refine x_retV (np := 45) (x := 0) (by decide +kernel) (by decide +kernel) ⟨rfl, ?_⟩
        have q666 : h662 75 13 = (1 + (h 75 13)) := by rw [← e664]; exact x_up_at
        refine x_const (np := 151) (x := 9223372043297226753) (a := 2147483649) (by decide +kernel) (by decide) (by decide) ?_
        have q667 : h662 75 13 = (1 + (h 75 13)) := by rw [← e664]; exact x_up_at
        have q668 : h662 75 7 = h651 75 7 := by rw [← e664]; exact x_up_i (by first | decide | omega)
        have q669 : h651 75 7 = h639 75 7 := by rw [← e653]; exact x_up_k (by decide)
        have q670 : h639 75 7 = h127 75 7 := by rw [← e641]; exact x_up_k (by decide)
        have q671 : h662 75 10 = h651 75 10 := by rw [← e664]; exact x_up_i (by first | decide | omega)
        have q672 : h651 75 10 = h639 75 10 := by rw [← e653]; exact x_up_k (by decide)
        have q673 : h639 75 10 = h127 75 10 := by rw [← e641]; exact x_up_k (by decide)
        have q674 : h127 75 10 = h39 75 10 := jK 0 f129 rg_75_10_0_1 (by first | decide | omega) (by first | decide | omega) (by decide)
        have q675 : h39 75 10 = h23 75 10 := jK 0 f41 rg_75_10_0_1 (by first | decide | omega) (by first | decide | omega) (by decide)
        have q676 : h23 75 10 = h7 75 10 := jK 0 f25 rg_75_10_0_1 (by first | decide | omega) (by first | decide | omega) (by decide)
        have q677 : h7 75 10 = h 75 10 := jK 0 f9 rg_75_10_0_1 (by first | decide | omega) (by first | decide | omega) (by decide)
        have q678 : h662 75 7 = h651 75 7 := by rw [← e664]; exact x_up_i (by first | decide | omega)
        have q679 : h651 75 7 = h639 75 7 := by rw [← e653]; exact x_up_k (by decide)
        have q680 : h639 75 7 = h127 75 7 := by rw [← e641]; exact x_up_k (by decide)
        have q681 : h662 75 13 = (1 + (h 75 13)) := by rw [← e664]; exact x_up_at
        have k688 : Kp h h7 (h 75 13 - 2147483648) := Kp.fr Kp.refl f9 (by first | decide | omega) (by decide)
        have k687 : Kp h h23 (h 75 13 - 2147483648) := Kp.fr k688 f25 (by first | decide | omega) (by decide)
        have k686 : Kp h h39 (h 75 13 - 2147483648) := Kp.fr k687 f41 (by first | decide | omega) (by decide)
        have k685 : Kp h h127 (h 75 13 - 2147483648) := Kp.fr k686 f129 (by first | decide | omega) (by decide)
        have k684 : Kp h h639 (h 75 13 - 2147483648) := by rw [← e641]; exact Kp.up k685 (by first | decide | omega) (fun i hi => by first | decide | omega)
        have k683 : Kp h h651 (h 75 13 - 2147483648) := by rw [← e653]; exact Kp.up k684 (by first | decide | omega) (fun i hi => by first | decide | omega)
        have k682 : Kp h h662 (h 75 13 - 2147483648) := by rw [← e664]; exact Kp.oth k683 (by decide)
        have q689 : h662 75 13 = (1 + (h 75 13)) := by rw [← e664]; exact x_up_at
        have q691 : h662 76 (1152 + 2 * u636) = h651 76 (1152 + 2 * u636) := by rw [← e664]; exact x_up_k (by decide)
        have q692 : h651 76 (1152 + 2 * u636) = h639 76 (1152 + 2 * u636) := by rw [← e653]; exact x_up_i (by first | decide | omega)
        have q693 : h639 76 (1152 + 2 * u636) = 2147483655 := by rw [← e641]; exact x_up_at
        have s690 : Seg (sg h662) u636 (u636 + 1) := Seg.push (show 2147483648 ≤ h662 76 (1152 + 2 * u636) by first | decide | omega) (show h662 76 (1152 + 2 * u636) ≤ 2147483656 by first | decide | omega)
        have s694 : Seg (sg h662) (h 75 13 - 2147483648) (h662 75 13 - 2147483648) := Seg.cast (Seg.kp s690 Kp.refl) (by first | decide | omega) (by first | decide | omega)
        obtain ⟨w695, e696⟩ := Tk.no c13 (by first | decide | omega)
        obtain ⟨w697, e698⟩ := Tk.no c29 (by first | decide | omega)
        obtain ⟨w699, e700⟩ := Tk.no c45 (by first | decide | omega)
        obtain ⟨w701, e702⟩ := Tk.yes c133 (by first | decide | omega)
        have q703 : h662 75 7 = h651 75 7 := by rw [← e664]; exact x_up_i (by first | decide | omega)
        have q704 : h651 75 7 = h639 75 7 := by rw [← e653]; exact x_up_k (by decide)
        have q705 : h639 75 7 = h127 75 7 := by rw [← e641]; exact x_up_k (by decide)
        refine x_retI (np := 152) (x := 0) (by decide +kernel) (by decide) (Or.inr ⟨by decide +kernel, by first | decide | omega, by first | decide | omega⟩) ⟨_, rfl, (by decide), ?_⟩
        exact ⟨j663, f665, (by first | decide | omega), (fun z => by first | decide | omega), (fun z => by first | decide | omega), (fun z => by first | decide | omega), (fun z => by first | decide | omega), k682, (fun _ => s694), (gA_mine w701 (Eq.trans e700 (Eq.trans e698 e696)) e702 (by first | decide | omega) (congrArg (sk tB tN) (show h127 75 7 = h662 75 7 by first | decide | omega))), (fun z => absurd z (by first | decide | omega))⟩
      have q629 : ¬ (v35 = 2147483648) := q629
      exfalso; omega
    have q34 : ¬ (v19 = 2147483648) := q34
    have b706 := c28 (by first | decide | omega)
    refine x_aload (np := 66) (x := 0) (by decide +kernel) rfl (x_nc_le (by decide)) ?_
    have q707 : h23 75 10 = h7 75 10 := jK 0 f25 rg_75_10_0_1 (by first | decide | omega) (by first | decide | omega) (by decide)
    have q708 : h7 75 10 = h 75 10 := jK 0 f9 rg_75_10_0_1 (by first | decide | omega) (by first | decide | omega) (by decide)
    refine x_getC (np := 69) (x := 714) (f := 10) (q := (h 75 10)) (by decide +kernel) (by decide) (by decide +kernel) (q707.trans q708) (fun l709 => ?_)
    refine x_const (np := 71) (x := 9223372064772063238) (a := 2147483654) (by decide +kernel) (by decide) (by decide) ?_
    refine x_icmp (k := 1) (tg := 76) (np := 74) (by decide +kernel) (by decide) l709 (by decide) (fun q710 => ?_) (fun q711 => ?_)
    · have q710 : (h 75 10) ≠ 2147483654 := q710
      exfalso; omega
    have q711 : ¬ ((h 75 10) ≠ 2147483654) := q711
    refine x_const (np := 75) (x := 9223372039002259456) (a := 2147483648) (by decide +kernel) (by decide) (by decide) ?_
    have q712 : h23 75 13 = h7 75 13 := jK 0 f25 rg_75_13_0_1 (by first | decide | omega) (by first | decide | omega) (by decide)
    have q713 : h7 75 13 = h 75 13 := jK 0 f9 rg_75_13_0_1 (by first | decide | omega) (by first | decide | omega) (by decide)
    have q714 : h23 75 10 = h7 75 10 := jK 0 f25 rg_75_10_0_1 (by first | decide | omega) (by first | decide | omega) (by decide)
    have q715 : h7 75 10 = h 75 10 := jK 0 f9 rg_75_10_0_1 (by first | decide | omega) (by first | decide | omega) (by decide)
    have q716 : h23 75 13 = h7 75 13 := jK 0 f25 rg_75_13_0_1 (by first | decide | omega) (by first | decide | omega) (by decide)
    have q717 : h7 75 13 = h 75 13 := jK 0 f9 rg_75_13_0_1 (by first | decide | omega) (by first | decide | omega) (by decide)
    have k719 : Kp h h7 (h 75 13 - 2147483648) := Kp.fr Kp.refl f9 (by first | decide | omega) (by decide)
    have k718 : Kp h h23 (h 75 13 - 2147483648) := Kp.fr k719 f25 (by first | decide | omega) (by decide)
    obtain ⟨w720, e721⟩ := Tk.no c13 (by first | decide | omega)
    obtain ⟨w722, e723⟩ := Tk.yes c29 (by first | decide | omega)
    obtain ⟨w724, e725⟩ := Tk.no c13 (by first | decide | omega)
    obtain ⟨w726, e727⟩ := Tk.yes c29 (by first | decide | omega)
    refine x_retI (np := 76) (x := 0) (by decide +kernel) (by decide) (Or.inr ⟨by decide +kernel, by first | decide | omega, by first | decide | omega⟩) ⟨_, rfl, (by decide), ?_⟩
    exact ⟨j24, f31, (by first | decide | omega), (fun z => by first | decide | omega), (fun z => by first | decide | omega), (fun z => by first | decide | omega), (fun z => by first | decide | omega), k718, (fun z => absurd z (by first | decide | omega)), (gA_not6 w722 e721 (by decide) (by first | decide | omega)), (fun _ => fA_not6 w726 e725 (by decide) c30)⟩
  have q18 : ¬ (v4 = 2147483648) := q18
  have b728 := c12 (by first | decide | omega)
  refine x_aload (np := 10) (x := 0) (by decide +kernel) rfl (x_nc_le (by decide)) ?_
  have q729 : h7 75 10 = h 75 10 := jK 0 f9 rg_75_10_0_1 (by first | decide | omega) (by first | decide | omega) (by decide)
  refine x_getC (np := 13) (x := 714) (f := 10) (q := (h 75 10)) (by decide +kernel) (by decide) (by decide +kernel) q729 (fun l730 => ?_)
  refine x_const (np := 15) (x := 9223372064772063238) (a := 2147483654) (by decide +kernel) (by decide) (by decide) ?_
  refine x_icmp (k := 1) (tg := 20) (np := 18) (by decide +kernel) (by decide) l730 (by decide) (fun q731 => ?_) (fun q732 => ?_)
  · have q731 : (h 75 10) ≠ 2147483654 := q731
    exfalso; omega
  have q732 : ¬ ((h 75 10) ≠ 2147483654) := q732
  refine x_const (np := 19) (x := 9223372039002259456) (a := 2147483648) (by decide +kernel) (by decide) (by decide) ?_
  have q733 : h7 75 13 = h 75 13 := jK 0 f9 rg_75_13_0_1 (by first | decide | omega) (by first | decide | omega) (by decide)
  have q734 : h7 75 10 = h 75 10 := jK 0 f9 rg_75_10_0_1 (by first | decide | omega) (by first | decide | omega) (by decide)
  have q735 : h7 75 13 = h 75 13 := jK 0 f9 rg_75_13_0_1 (by first | decide | omega) (by first | decide | omega) (by decide)
  have k736 : Kp h h7 (h 75 13 - 2147483648) := Kp.fr Kp.refl f9 (by first | decide | omega) (by decide)
  obtain ⟨w737, e738⟩ := Tk.yes c13 (by first | decide | omega)
  obtain ⟨w739, e740⟩ := Tk.yes c13 (by first | decide | omega)
  refine x_retI (np := 20) (x := 0) (by decide +kernel) (by decide) (Or.inr ⟨by decide +kernel, by first | decide | omega, by first | decide | omega⟩) ⟨_, rfl, (by decide), ?_⟩
  exact ⟨j8, f15, (by first | decide | omega), (fun z => by first | decide | omega), (fun z => by first | decide | omega), (fun z => by first | decide | omega), (fun z => by first | decide | omega), k736, (fun z => absurd z (by first | decide | omega)), (gA_par6 w737 rfl (by decide) (by first | decide | omega)), (fun _ => fA_par6 w739 rfl (by decide) c14)⟩
set_option maxHeartbeats 0 in
/-- LentNamesModel.readAllOf()Z -/
theorem c191_75_D6 {sc : Nat × Nat} {d  : Nat} {h : xh} {tB : Nat → Nat} {tN : Nat} (hJ : J h) (hr0 : (h 75 13) + 5 ≤ (h 75 7)) (hr1 : (h 75 10) = 2147483654) (hT : Tq tB tN h) : X sc 191 (d + 8) (xI fun r h' => J h' ∧ Fr 89128961 h h' ∧ (2147483648 ≤ r ∧ r ≤ 2147483649) ∧ (r = 2147483649 → h' 75 13 + h 75 7 ≤ h' 75 7 + h 75 13) ∧ (r = 2147483649 → h' 75 10 = h 75 10) ∧ (r = 2147483649 → h 75 7 + 0 ≤ h' 75 7) ∧ (r = 2147483649 → h 75 13 ≤ h' 75 13) ∧ Kp h h' (h 75 13 - 2147483648) ∧ (r = 2147483649 → Seg (sg h') (h 75 13 - 2147483648) (h' 75 13 - 2147483648)) ∧ G tB tN (Kd.seq 1) 6 (sk tB tN (h 75 7)) (rs r (sk tB tN (h' 75 7))) ∧ (r = 2147483648 → GF tB tN (Kd.seq 1) 6 (sk tB tN (h 75 7)) (h' 75 9))) 0 0 0 [x_r 75] [] h := by
  have hF := Fr.refl 89128961 h
  have b1 := jB (e := 13) 0 hJ rg_75_13_0_1 (by first | decide | omega) (by first | decide | omega)
  have b2 := jB (e := 7) 0 hJ rg_75_7_0_1 (by first | decide | omega) (by first | decide | omega)
  have b3 := jB (e := 10) 0 hJ rg_75_10_0_1 (by first | decide | omega) (by first | decide | omega)
  refine x_aload (np := 1) (x := 0) (by decide +kernel) rfl (x_nc_le (by decide)) ?_
  refine x_cI (t := 6) (mj := 190) (n := 1) (rc := 12) (ml := 3) (nr := 0) (np := 4) (as := [x_r 75]) (rest := []) (lo1 := [x_r 75, 147573952589676412928, 147573952589676412928]) (by decide +kernel) (by decide) (by decide +kernel) (x_rb_of (by decide +kernel)) rfl rfl (x_wr (by decide) x_wn) x_wn (by decide) rfl (c190_75_D6 hJ  (by first | decide | omega) (by first | decide | omega) hT) (fun v4 h7 l5 q6 => ?_)
  obtain ⟨j8, f9, b10, c11, c12, c13, c14, c15, c16, c17, c18⟩ := q6
  have f19 := Fr.trans hF f9 (by decide)
  have b20 := jB (e := 13) 0 j8 rg_75_13_0_1 (by first | decide | omega) (by first | decide | omega)
  have b21 := jB (e := 7) 0 j8 rg_75_7_0_1 (by first | decide | omega) (by first | decide | omega)
  have q22 : h7 75 10 = h 75 10 := jK 0 f9 rg_75_10_0_1 (by first | decide | omega) (by first | decide | omega) (by decide)
  refine x_ifz (k := 1) (tg := 9) (np := 7) (by decide +kernel) (by decide) l5 (fun q23 => ?_) (fun q24 => ?_)
  · have q23 : v4 ≠ 2147483648 := q23
    have b25 := c11 (by first | decide | omega)
    have b26 := c12 (by first | decide | omega)
    have b27 := c13 (by first | decide | omega)
    have b28 := c14 (by first | decide | omega)
    have s29 := c16 (by first | decide | omega)
    have p215 : ∀ (n : Nat) (h212 : xh), 4294967296 - h212 75 7 < n → h212 75 13 + h 75 7 ≤ h212 75 7 + h 75 13 → h212 75 10 = h 75 10 → h 75 7 ≤ h212 75 7 → h 75 13 ≤ h212 75 13 → J h212 → Fr 89128961 h7 h212 → Res tB tN (Kd.lp 1) 6 (sk tB tN (h212 75 7)) (Kd.seq 1) 6 (sk tB tN (h 75 7)) → ResF tB tN (Kd.lp 1) 6 (sk tB tN (h212 75 7)) (Kd.seq 1) 6 (sk tB tN (h 75 7)) → Kp h h212 (h 75 13 - 2147483648) → Seg (sg h212) (h 75 13 - 2147483648) (h212 75 13 - 2147483648) → X sc 191 (d + 8) (xI fun r h' => J h' ∧ Fr 89128961 h h' ∧ (2147483648 ≤ r ∧ r ≤ 2147483649) ∧ (r = 2147483649 → h' 75 13 + h 75 7 ≤ h' 75 7 + h 75 13) ∧ (r = 2147483649 → h' 75 10 = h 75 10) ∧ (r = 2147483649 → h 75 7 + 0 ≤ h' 75 7) ∧ (r = 2147483649 → h 75 13 ≤ h' 75 13) ∧ Kp h h' (h 75 13 - 2147483648) ∧ (r = 2147483649 → Seg (sg h') (h 75 13 - 2147483648) (h' 75 13 - 2147483648)) ∧ G tB tN (Kd.seq 1) 6 (sk tB tN (h 75 7)) (rs r (sk tB tN (h' 75 7))) ∧ (r = 2147483648 → GF tB tN (Kd.seq 1) 6 (sk tB tN (h 75 7)) (h' 75 9))) 0 0 9 [x_r 75] [] h212 := by
      intro n
      induction n with
      | zero => intro h212 q224; exact absurd q224 (Nat.not_lt_zero _)
      | succ n i225 =>
        intro h212 q224 b216 b217 b218 b219 j214 f213 m220 m221 m222 m223
        have f226 := Fr.trans f19 f213 (by decide)
        refine x_aload (np := 10) (x := 0) (by decide +kernel) rfl (x_nc_le (by decide)) ?_
        refine x_ldcwB (i := 31) (idx := 257) (tx := "and") (by rw [tb_y191]; exact List.mem_of_getElem? (i := 66) rfl) (by decide) (by rw [tb_b191]; decide +kernel) ?_
        have m231 := Tq.fr hT f9 (by decide) (by decide)
        have m230 := Tq.fr m231 f213 (by decide) (by decide)
        refine x_cI (t := 6) (mj := 171) (n := 2) (rc := 12) (ml := 2) (nr := 0) (np := 16) (as := [x_r 75, x_b (31 + 1)]) (rest := []) (lo1 := [x_r 75, x_b (31 + 1)]) (by decide +kernel) (by decide) (by decide +kernel) (x_rb_of (by decide +kernel)) rfl rfl (x_wr (by decide) (x_wB (by decide) x_wn)) x_wn (by decide) rfl (c171_75_S0 j214  (by decide) m230) (fun v227 h232 l228 q229 => ?_)
        obtain ⟨j233, f234, b235, c236, c237, c238, c239⟩ := q229
        have f240 := Fr.trans f226 f234 (by decide)
        have f241 := Fr.trans f213 f234 (by decide)
        have b242 := jB (e := 7) 0 j214 rg_75_7_0_1 (by first | decide | omega) (by first | decide | omega)
        have b243 := jB (e := 7) 0 j233 rg_75_7_0_1 (by first | decide | omega) (by first | decide | omega)
        refine x_ifz (k := 0) (tg := 38) (np := 19) (by decide +kernel) (by decide) l228 (fun q244 => ?_) (fun q245 => ?_)
        · have q244 : v227 = 2147483648 := q244
          refine x_const (np := 39) (x := 9223372043297226753) (a := 2147483649) (by decide +kernel) (by decide) (by decide) ?_
          have q246 : h232 75 13 = h212 75 13 := jK 0 f234 rg_75_13_0_1 (by first | decide | omega) (by first | decide | omega) (by decide)
          have b247 := jB (e := 13) 0 j214 rg_75_13_0_1 (by first | decide | omega) (by first | decide | omega)
          have q248 : h232 75 10 = h212 75 10 := jK 0 f234 rg_75_10_0_1 (by first | decide | omega) (by first | decide | omega) (by decide)
          have q249 : h212 75 10 = h7 75 10 := jK 0 f213 rg_75_10_0_1 (by first | decide | omega) (by first | decide | omega) (by decide)
          have q250 : h7 75 10 = h 75 10 := jK 0 f9 rg_75_10_0_1 (by first | decide | omega) (by first | decide | omega) (by decide)
          have q251 : h232 75 13 = h212 75 13 := jK 0 f234 rg_75_13_0_1 (by first | decide | omega) (by first | decide | omega) (by decide)
          have k253 : Kp h h212 (h 75 13 - 2147483648) := Kp.less m222 (by first | decide | omega)
          have k252 : Kp h h232 (h 75 13 - 2147483648) := Kp.fr k253 f234 (by first | decide | omega) (by decide)
          have q254 : h232 75 13 = h212 75 13 := jK 0 f234 rg_75_13_0_1 (by first | decide | omega) (by first | decide | omega) (by decide)
          have k255 : Kp h212 h232 (h212 75 13 - 2147483648) := Kp.fr Kp.refl f234 (by first | decide | omega) (by decide)
          have s256 : Seg (sg h232) (h 75 13 - 2147483648) (h232 75 13 - 2147483648) := Seg.cast (Seg.kp m223 k255) (by first | decide | omega) (by first | decide | omega)
          obtain ⟨w257, e258⟩ := Tk.no c238 (by first | decide | omega)
          refine x_retI (np := 40) (x := 0) (by decide +kernel) (by decide) (Or.inr ⟨by decide +kernel, by first | decide | omega, by first | decide | omega⟩) ⟨_, rfl, (by decide), ?_⟩
          exact ⟨j233, f240, (by first | decide | omega), (fun z => by first | decide | omega), (fun z => by first | decide | omega), (fun z => by first | decide | omega), (fun z => by first | decide | omega), k252, (fun _ => s256), (gQ_e (t := 1) m220 w257 rfl (by first | decide | omega) ((Eq.symm e258))), (fun z => absurd z (by first | decide | omega))⟩
        have q245 : ¬ (v227 = 2147483648) := q245
        have b259 := c237 (by first | decide | omega)
        refine x_aload (np := 20) (x := 0) (by decide +kernel) rfl (x_nc_le (by decide)) ?_
        have q260 : h232 75 10 = h212 75 10 := jK 0 f234 rg_75_10_0_1 (by first | decide | omega) (by first | decide | omega) (by decide)
        have q261 : h212 75 10 = h7 75 10 := jK 0 f213 rg_75_10_0_1 (by first | decide | omega) (by first | decide | omega) (by decide)
        have q262 : h7 75 10 = h 75 10 := jK 0 f9 rg_75_10_0_1 (by first | decide | omega) (by first | decide | omega) (by decide)
        have q263 : h232 75 13 = h212 75 13 := jK 0 f234 rg_75_13_0_1 (by first | decide | omega) (by first | decide | omega) (by decide)
        have b264 := jB (e := 13) 0 j214 rg_75_13_0_1 (by first | decide | omega) (by first | decide | omega)
        have q265 : h232 75 10 = h212 75 10 := jK 0 f234 rg_75_10_0_1 (by first | decide | omega) (by first | decide | omega) (by decide)
        have q266 : h212 75 10 = h7 75 10 := jK 0 f213 rg_75_10_0_1 (by first | decide | omega) (by first | decide | omega) (by decide)
        have q267 : h7 75 10 = h 75 10 := jK 0 f9 rg_75_10_0_1 (by first | decide | omega) (by first | decide | omega) (by decide)
        have m271 := Tq.fr m230 f234 (by decide) (by decide)
        refine x_cI (t := 6) (mj := 190) (n := 1) (rc := 12) (ml := 3) (nr := 0) (np := 23) (as := [x_r 75]) (rest := []) (lo1 := [x_r 75, 147573952589676412928, 147573952589676412928]) (by decide +kernel) (by decide) (by decide +kernel) (x_rb_of (by decide +kernel)) rfl rfl (x_wr (by decide) x_wn) x_wn (by decide) rfl (c190_75_D6 j233  (by first | decide | omega) (by first | decide | omega) m271) (fun v268 h272 l269 q270 => ?_)
        obtain ⟨j273, f274, b275, c276, c277, c278, c279, c280, c281, c282, c283⟩ := q270
        have f284 := Fr.trans f240 f274 (by decide)
        have f285 := Fr.trans f241 f274 (by decide)
        have q286 : h232 75 13 = h212 75 13 := jK 0 f234 rg_75_13_0_1 (by first | decide | omega) (by first | decide | omega) (by decide)
        have b287 := jB (e := 13) 0 j273 rg_75_13_0_1 (by first | decide | omega) (by first | decide | omega)
        have b288 := jB (e := 7) 0 j273 rg_75_7_0_1 (by first | decide | omega) (by first | decide | omega)
        have q289 : h232 75 10 = h212 75 10 := jK 0 f234 rg_75_10_0_1 (by first | decide | omega) (by first | decide | omega) (by decide)
        have q290 : h212 75 10 = h7 75 10 := jK 0 f213 rg_75_10_0_1 (by first | decide | omega) (by first | decide | omega) (by decide)
        have q291 : h7 75 10 = h 75 10 := jK 0 f9 rg_75_10_0_1 (by first | decide | omega) (by first | decide | omega) (by decide)
        have q292 : h272 75 10 = h232 75 10 := jK 0 f274 rg_75_10_0_1 (by first | decide | omega) (by first | decide | omega) (by decide)
        have q293 : h232 75 10 = h212 75 10 := jK 0 f234 rg_75_10_0_1 (by first | decide | omega) (by first | decide | omega) (by decide)
        have q294 : h212 75 10 = h7 75 10 := jK 0 f213 rg_75_10_0_1 (by first | decide | omega) (by first | decide | omega) (by decide)
        have q295 : h7 75 10 = h 75 10 := jK 0 f9 rg_75_10_0_1 (by first | decide | omega) (by first | decide | omega) (by decide)
        have q296 : h232 75 13 = h212 75 13 := jK 0 f234 rg_75_13_0_1 (by first | decide | omega) (by first | decide | omega) (by decide)
        refine x_ifz (k := 1) (tg := 28) (np := 26) (by decide +kernel) (by decide) l269 (fun q297 => ?_) (fun q298 => ?_)
        · have q297 : v268 ≠ 2147483648 := q297
          have b299 := c276 (by first | decide | omega)
          have b300 := c277 (by first | decide | omega)
          have b301 := c278 (by first | decide | omega)
          have b302 := c279 (by first | decide | omega)
          have s303 := c281 (by first | decide | omega)
          have q304 : h232 75 13 = h212 75 13 := jK 0 f234 rg_75_13_0_1 (by first | decide | omega) (by first | decide | omega) (by decide)
          refine x_aload (np := 29) (x := 0) (by decide +kernel) rfl (x_nc_le (by decide)) ?_
          refine x_const (np := 31) (x := 9223372094836834317) (a := 2147483661) (by decide +kernel) (by decide) (by decide) ?_
          refine x_const (np := 32) (x := 9223372039002259456) (a := 2147483648) (by decide +kernel) (by decide) (by decide) ?_
          refine x_nV (t := 6) (mj := 187) (n := 3) (rc := 12) (ml := 3) (nr := 0) (np := 35) (as := [x_r 75, iv_c 2147483661, iv_c 2147483648]) (rest := []) (lo1 := [x_r 75, iv_c 2147483661, iv_c 2147483648]) (by decide +kernel) (by decide) (by decide +kernel) (x_rb_of (by decide +kernel)) rfl rfl (x_wr (by decide) (x_wi (by decide) (x_wi (by decide) x_wn))) x_wn (by decide) rfl ?_
          refine x_aload (np := 1) (x := 0) (by decide +kernel) rfl (x_nc_le (by decide)) ?_
          have q305 : h272 75 1 = 76 := by have z := jB (e := 1) 0 j273 rg_75_1_0_1 (by decide) (by decide); omega
          refine x_getR (np := 4) (x := 705) (f := 1) (q := 76) (by decide +kernel) (by decide) (by decide +kernel) q305 ?_
          refine x_const (np := 7) (x := 9223376986804585600) (a := 2147484800) (by decide +kernel) (by decide) (by decide) ?_
          refine x_const (np := 8) (x := 9223372047592194050) (a := 2147483650) (by decide +kernel) (by decide) (by decide) ?_
          refine x_aload (np := 9) (x := 0) (by decide +kernel) rfl (x_nc_le (by decide)) ?_
          refine x_getC (np := 12) (x := 717) (f := 13) (q := (h272 75 13)) (by decide +kernel) (by decide) (by decide +kernel) rfl (fun l306 => ?_)
          obtain ⟨u307, q308⟩ : ∃ z, (h272 75 13) = 2147483648 + z := ⟨(h272 75 13) - 2147483648, by first | decide | omega⟩
          refine x_imul (np := 13) (x := 0) (i := 2) (j := u307) (v := (2147483648 + 2 * u307)) (by decide +kernel) (by first | decide | omega) (by first | decide | omega) (by first | decide | omega) (by first | decide | omega) (by decide) l306 ?_
          refine x_iadd (np := 14) (x := 0) (v := (2147484800 + 2 * u307)) (by decide +kernel) (by decide) (by first | decide | omega) (by first | decide | omega) (by first | decide | omega) ?_
          refine x_iload (np := 15) (x := 1) (by decide +kernel) rfl (by decide) ?_
          refine x_ast (np := 16) (x := 0) (kd := 1) (n := 1952) (i := (1152 + 2 * u307)) (by decide +kernel) (Or.inl rfl) (by decide +kernel) (by first | decide | omega) (by first | decide | omega) (by decide) (by decide) (fun z => absurd z (by decide)) ?_
          have j311 := jU (e := (1152 + 2 * u307)) (v := 2147483661) u307 j273 rg_76_1152_2_394 (by first | decide | omega) (by first | decide | omega) (by first | decide | omega)
          have f313 := jF (e := (1152 + 2 * u307)) (v := 2147483661) u307 f284 rg_76_1152_2_394 (by first | decide | omega) (by first | decide | omega) (by decide)
          have f314 := jF (e := (1152 + 2 * u307)) (v := 2147483661) u307 f285 rg_76_1152_2_394 (by first | decide | omega) (by first | decide | omega) (by decide)
          generalize e312 : x_up h272 76 (1152 + 2 * u307) 2147483661 = h310 at j311 f313 f314 ⊢
          refine x_aload (np := 17) (x := 0) (by decide +kernel) rfl (x_nc_le (by decide)) ?_
          have q315 : h310 75 1 = 76 := by have z := jB (e := 1) 0 j311 rg_75_1_0_1 (by decide) (by decide); omega
          refine x_getR (np := 20) (x := 705) (f := 1) (q := 76) (by decide +kernel) (by decide) (by decide +kernel) q315 ?_
          refine x_const (np := 23) (x := 9223376986804585600) (a := 2147484800) (by decide +kernel) (by decide) (by decide) ?_
          refine x_const (np := 24) (x := 9223372047592194050) (a := 2147483650) (by decide +kernel) (by decide) (by decide) ?_
          refine x_aload (np := 25) (x := 0) (by decide +kernel) rfl (x_nc_le (by decide)) ?_
          have q316 : h310 75 13 = h272 75 13 := by rw [← e312]; exact x_up_k (by decide)
          refine x_getC (np := 28) (x := 717) (f := 13) (q := (h272 75 13)) (by decide +kernel) (by decide) (by decide +kernel) q316 (fun l317 => ?_)
          refine x_imul (np := 29) (x := 0) (i := 2) (j := u307) (v := (2147483648 + 2 * u307)) (by decide +kernel) (by first | decide | omega) (by first | decide | omega) (by first | decide | omega) (by first | decide | omega) (by decide) l306 ?_
          refine x_iadd (np := 30) (x := 0) (v := (2147484800 + 2 * u307)) (by decide +kernel) (by decide) (by first | decide | omega) (by first | decide | omega) (by first | decide | omega) ?_
          refine x_const (np := 31) (x := 9223372043297226753) (a := 2147483649) (by decide +kernel) (by decide) (by decide) ?_
          refine x_iadd (np := 32) (x := 0) (v := (2147484801 + 2 * u307)) (by decide +kernel) (by first | decide | omega) (by decide) (by first | decide | omega) (by first | decide | omega) ?_
          refine x_iload (np := 33) (x := 2) (by decide +kernel) rfl (by decide) ?_
          refine x_ast (np := 34) (x := 0) (kd := 1) (n := 1952) (i := (1153 + 2 * u307)) (by decide +kernel) (Or.inl rfl) (by decide +kernel) (by first | decide | omega) (by first | decide | omega) (by decide) (by decide) (fun z => absurd z (by decide)) ?_
          have j320 := jU (e := (1153 + 2 * u307)) (v := 2147483648) u307 j311 rg_76_1153_2_394 (by first | decide | omega) (by first | decide | omega) (by first | decide | omega)
          have f322 := jF (e := (1153 + 2 * u307)) (v := 2147483648) u307 f313 rg_76_1153_2_394 (by first | decide | omega) (by first | decide | omega) (by decide)
          have f323 := jF (e := (1153 + 2 * u307)) (v := 2147483648) u307 f314 rg_76_1153_2_394 (by first | decide | omega) (by first | decide | omega) (by decide)
          generalize e321 : x_up h310 76 (1153 + 2 * u307) 2147483648 = h319 at j320 f322 f323 ⊢
          refine x_aload (np := 35) (x := 0) (by decide +kernel) rfl (x_nc_le (by decide)) ?_
          refine x_dup (np := 36) (x := 0) (by decide +kernel) (by have z := x_nc_le (k := 75) (by decide); unfold x_r; omega) ?_
          have q324 : h319 75 13 = h310 75 13 := by rw [← e321]; exact x_up_k (by decide)
          have q325 : h310 75 13 = h272 75 13 := by rw [← e312]; exact x_up_k (by decide)
          refine x_getC (np := 39) (x := 717) (f := 13) (q := (h272 75 13)) (by decide +kernel) (by decide) (by decide +kernel) (q324.trans q325) (fun l326 => ?_)
          refine x_const (np := 40) (x := 9223372043297226753) (a := 2147483649) (by decide +kernel) (by decide) (by decide) ?_
          refine x_iadd (np := 41) (x := 0) (v := (1 + (h272 75 13))) (by decide +kernel) l306 (by decide) (by first | decide | omega) (by first | decide | omega) ?_
          refine x_putI (np := 44) (x := 717) (f := 13) (by decide +kernel) (by decide +kernel) (by first | decide | omega) (Or.inl (by decide)) ?_
          have j328 := jU (e := 13) (v := (1 + (h272 75 13))) 0 j320 rg_75_13_0_1 (by first | decide | omega) (by first | decide | omega) (by first | decide | omega)
          have f330 := jF (e := 13) (v := (1 + (h272 75 13))) 0 f322 rg_75_13_0_1 (by first | decide | omega) (by first | decide | omega) (by decide)
          have f331 := jF (e := 13) (v := (1 + (h272 75 13))) 0 f323 rg_75_13_0_1 (by first | decide | omega) (by first | decide | omega) (by decide)
          generalize e329 : x_up h319 75 13 (1 + (h272 75 13)) = h327 at j328 f330 f331 ⊢
          refine x_retV (np := 45) (x := 0) (by decide +kernel) (by decide +kernel) ⟨rfl, ?_⟩
          have q332 : h327 75 13 = (1 + (h272 75 13)) := by rw [← e329]; exact x_up_at
          refine x_goto (np := 38) (x := 9) (by decide +kernel) ?_
          have q333 : h327 75 7 = h319 75 7 := by rw [← e329]; exact x_up_i (by first | decide | omega)
          have q334 : h319 75 7 = h310 75 7 := by rw [← e321]; exact x_up_k (by decide)
          have q335 : h310 75 7 = h272 75 7 := by rw [← e312]; exact x_up_k (by decide)
          have q336 : h327 75 7 = h319 75 7 := by rw [← e329]; exact x_up_i (by first | decide | omega)
          have q337 : h319 75 7 = h310 75 7 := by rw [← e321]; exact x_up_k (by decide)
          have q338 : h310 75 7 = h272 75 7 := by rw [← e312]; exact x_up_k (by decide)
          have q339 : h327 75 13 = (1 + (h272 75 13)) := by rw [← e329]; exact x_up_at
          have q340 : h327 75 10 = h319 75 10 := by rw [← e329]; exact x_up_i (by first | decide | omega)
          have q341 : h319 75 10 = h310 75 10 := by rw [← e321]; exact x_up_k (by decide)
          have q342 : h310 75 10 = h272 75 10 := by rw [← e312]; exact x_up_k (by decide)
          have q343 : h272 75 10 = h232 75 10 := jK 0 f274 rg_75_10_0_1 (by first | decide | omega) (by first | decide | omega) (by decide)
          have q344 : h232 75 10 = h212 75 10 := jK 0 f234 rg_75_10_0_1 (by first | decide | omega) (by first | decide | omega) (by decide)
          have q345 : h212 75 10 = h7 75 10 := jK 0 f213 rg_75_10_0_1 (by first | decide | omega) (by first | decide | omega) (by decide)
          have q346 : h7 75 10 = h 75 10 := jK 0 f9 rg_75_10_0_1 (by first | decide | omega) (by first | decide | omega) (by decide)
          obtain ⟨w347, e348⟩ := Tk.yes c238 (by first | decide | omega)
          have q349 : h327 75 7 = h319 75 7 := by rw [← e329]; exact x_up_i (by first | decide | omega)
          have q350 : h319 75 7 = h310 75 7 := by rw [← e321]; exact x_up_k (by decide)
          have q351 : h310 75 7 = h272 75 7 := by rw [← e312]; exact x_up_k (by decide)
          obtain ⟨w352, e353⟩ := Tk.yes c238 (by first | decide | omega)
          have q354 : h327 75 7 = h319 75 7 := by rw [← e329]; exact x_up_i (by first | decide | omega)
          have q355 : h319 75 7 = h310 75 7 := by rw [← e321]; exact x_up_k (by decide)
          have q356 : h310 75 7 = h272 75 7 := by rw [← e312]; exact x_up_k (by decide)
          have k362 : Kp h h212 (h 75 13 - 2147483648) := Kp.less m222 (by first | decide | omega)
          have k361 : Kp h h232 (h 75 13 - 2147483648) := Kp.fr k362 f234 (by first | decide | omega) (by decide)
          have q363 : h232 75 13 = h212 75 13 := jK 0 f234 rg_75_13_0_1 (by first | decide | omega) (by first | decide | omega) (by decide)
          have k360 : Kp h h272 (h 75 13 - 2147483648) := Kp.trans k361 c280 (by first | decide | omega)
          have k359 : Kp h h310 (h 75 13 - 2147483648) := by rw [← e312]; exact Kp.up k360 (by first | decide | omega) (fun i hi => by first | decide | omega)
          have k358 : Kp h h319 (h 75 13 - 2147483648) := by rw [← e321]; exact Kp.up k359 (by first | decide | omega) (fun i hi => by first | decide | omega)
          have k357 : Kp h h327 (h 75 13 - 2147483648) := by rw [← e329]; exact Kp.oth k358 (by decide)
          have q364 : h327 75 13 = (1 + (h272 75 13)) := by rw [← e329]; exact x_up_at
          have q366 : h327 76 (1152 + 2 * u307) = h319 76 (1152 + 2 * u307) := by rw [← e329]; exact x_up_k (by decide)
          have q367 : h319 76 (1152 + 2 * u307) = h310 76 (1152 + 2 * u307) := by rw [← e321]; exact x_up_i (by first | decide | omega)
          have q368 : h310 76 (1152 + 2 * u307) = 2147483661 := by rw [← e312]; exact x_up_at
          have k373 : Kp h212 h232 (h212 75 13 - 2147483648) := Kp.fr Kp.refl f234 (by first | decide | omega) (by decide)
          have q374 : h232 75 13 = h212 75 13 := jK 0 f234 rg_75_13_0_1 (by first | decide | omega) (by first | decide | omega) (by decide)
          have k372 : Kp h212 h272 (h212 75 13 - 2147483648) := Kp.trans k373 c280 (by first | decide | omega)
          have k371 : Kp h212 h310 (h212 75 13 - 2147483648) := by rw [← e312]; exact Kp.up k372 (by first | decide | omega) (fun i hi => by first | decide | omega)
          have k370 : Kp h212 h319 (h212 75 13 - 2147483648) := by rw [← e321]; exact Kp.up k371 (by first | decide | omega) (fun i hi => by first | decide | omega)
          have k369 : Kp h212 h327 (h212 75 13 - 2147483648) := by rw [← e329]; exact Kp.oth k370 (by decide)
          have k377 : Kp h272 h310 (h272 75 13 - 2147483648) := by rw [← e312]; exact Kp.up Kp.refl (by first | decide | omega) (fun i hi => by first | decide | omega)
          have k376 : Kp h272 h319 (h272 75 13 - 2147483648) := by rw [← e321]; exact Kp.up k377 (by first | decide | omega) (fun i hi => by first | decide | omega)
          have k375 : Kp h272 h327 (h272 75 13 - 2147483648) := by rw [← e329]; exact Kp.oth k376 (by decide)
          have s365 : Seg (sg h327) (h 75 13 - 2147483648) (u307 + 1) := Seg.bin (Seg.kp m223 k369) (Seg.cast (a' := (h212 75 13 - 2147483648)) (b' := u307) (Seg.kp s303 k375) (by first | decide | omega) (by first | decide | omega)) (show 2147483656 < h327 76 (1152 + 2 * u307) by first | decide | omega) (show h327 76 (1152 + 2 * u307) ≠ 2147483660 by first | decide | omega)
          have s378 : Seg (sg h327) (h 75 13 - 2147483648) (h327 75 13 - 2147483648) := Seg.cast (Seg.kp s365 Kp.refl) (by first | decide | omega) (by first | decide | omega)
          exact i225  h327 (by first | decide | omega) (by first | decide | omega) (by first | decide | omega) (by first | decide | omega) (by first | decide | omega) j328 f331 (gQ_st (t := 1) m220 w347 rfl e348 c282 rfl (by first | decide | omega) (congrArg (sk tB tN) (show h272 75 7 = h327 75 7 by first | decide | omega))) (fQ_st (t := 1) m221 w352 rfl e353 c282 rfl (by first | decide | omega) (congrArg (sk tB tN) (show h272 75 7 = h327 75 7 by first | decide | omega))) k357 s378
        have q298 : ¬ (v268 ≠ 2147483648) := q298
        refine x_const (np := 27) (x := 9223372039002259456) (a := 2147483648) (by decide +kernel) (by decide) (by decide) ?_
        have q379 : h272 75 10 = h232 75 10 := jK 0 f274 rg_75_10_0_1 (by first | decide | omega) (by first | decide | omega) (by decide)
        have q380 : h232 75 10 = h212 75 10 := jK 0 f234 rg_75_10_0_1 (by first | decide | omega) (by first | decide | omega) (by decide)
        have q381 : h212 75 10 = h7 75 10 := jK 0 f213 rg_75_10_0_1 (by first | decide | omega) (by first | decide | omega) (by decide)
        have q382 : h7 75 10 = h 75 10 := jK 0 f9 rg_75_10_0_1 (by first | decide | omega) (by first | decide | omega) (by decide)
        have k385 : Kp h h212 (h 75 13 - 2147483648) := Kp.less m222 (by first | decide | omega)
        have k384 : Kp h h232 (h 75 13 - 2147483648) := Kp.fr k385 f234 (by first | decide | omega) (by decide)
        have q386 : h232 75 13 = h212 75 13 := jK 0 f234 rg_75_13_0_1 (by first | decide | omega) (by first | decide | omega) (by decide)
        have k383 : Kp h h272 (h 75 13 - 2147483648) := Kp.trans k384 c280 (by first | decide | omega)
        obtain ⟨w387, e388⟩ := Tk.yes c238 (by first | decide | omega)
        obtain ⟨w389, e390⟩ := Tk.yes c238 (by first | decide | omega)
        refine x_retI (np := 28) (x := 0) (by decide +kernel) (by decide) (Or.inr ⟨by decide +kernel, by first | decide | omega, by first | decide | omega⟩) ⟨_, rfl, (by decide), ?_⟩
        exact ⟨j273, f284, (by first | decide | omega), (fun z => by first | decide | omega), (fun z => by first | decide | omega), (fun z => by first | decide | omega), (fun z => by first | decide | omega), k383, (fun z => absurd z (by first | decide | omega)), (gQ_f (t := 1) m220 w387 rfl e388 c282 rfl (by first | decide | omega) (by first | decide | omega)), (fun _ => fQ_f (t := 1) m221 w389 rfl e390 (c283 (by first | decide | omega)) rfl rfl)⟩
    have q391 : h7 75 10 = h 75 10 := jK 0 f9 rg_75_10_0_1 (by first | decide | omega) (by first | decide | omega) (by decide)
    have k392 : Kp h h7 (h 75 13 - 2147483648) := Kp.less c15 (by first | decide | omega)
    have s393 : Seg (sg h7) (h 75 13 - 2147483648) (h7 75 13 - 2147483648) := Seg.cast (Seg.kp s29 Kp.refl) (by first | decide | omega) (by first | decide | omega)
    exact p215 _  h7 (Nat.lt_succ_self _) (by first | decide | omega) (by first | decide | omega) (by first | decide | omega) (by first | decide | omega) j8 (Fr.refl _ _) (gQ_in (t := 1) c17 rfl (by first | decide | omega) rfl) (fQ_in (t := 1) c17 rfl (by first | decide | omega) rfl) k392 s393
  have q24 : ¬ (v4 ≠ 2147483648) := q24
  refine x_const (np := 8) (x := 9223372039002259456) (a := 2147483648) (by decide +kernel) (by decide) (by decide) ?_
  have q394 : h7 75 10 = h 75 10 := jK 0 f9 rg_75_10_0_1 (by first | decide | omega) (by first | decide | omega) (by decide)
  have k395 : Kp h h7 (h 75 13 - 2147483648) := Kp.less c15 (by first | decide | omega)
  refine x_retI (np := 9) (x := 0) (by decide +kernel) (by decide) (Or.inr ⟨by decide +kernel, by first | decide | omega, by first | decide | omega⟩) ⟨_, rfl, (by decide), ?_⟩
  exact ⟨j8, f19, (by first | decide | omega), (fun z => by first | decide | omega), (fun z => by first | decide | omega), (fun z => by first | decide | omega), (fun z => by first | decide | omega), k395, (fun z => absurd z (by first | decide | omega)), (gQ_no (t := 1) c17 rfl (by first | decide | omega) (by first | decide | omega)), (fun _ => fQ_no (t := 1) (c18 (by first | decide | omega)) rfl rfl)⟩
set_option maxHeartbeats 0 in
/-- LentNamesModel.readCond()Z -/
theorem c192_75_D6 {sc : Nat × Nat} {d  : Nat} {h : xh} {tB : Nat → Nat} {tN : Nat} (hJ : J h) (hr0 : (h 75 13) + 5 ≤ (h 75 7)) (hr1 : (h 75 10) = 2147483654) (hT : Tq tB tN h) : X sc 192 (d + 9) (xI fun r h' => J h' ∧ Fr 89128961 h h' ∧ (2147483648 ≤ r ∧ r ≤ 2147483649) ∧ (r = 2147483649 → h' 75 13 + h 75 7 ≤ h' 75 7 + h 75 13) ∧ (r = 2147483649 → h' 75 10 = h 75 10) ∧ (r = 2147483649 → h 75 7 + 0 ≤ h' 75 7) ∧ (r = 2147483649 → h 75 13 ≤ h' 75 13) ∧ Kp h h' (h 75 13 - 2147483648) ∧ (r = 2147483649 → Seg (sg h') (h 75 13 - 2147483648) (h' 75 13 - 2147483648)) ∧ G tB tN (Kd.seq 2) 6 (sk tB tN (h 75 7)) (rs r (sk tB tN (h' 75 7))) ∧ (r = 2147483648 → GF tB tN (Kd.seq 2) 6 (sk tB tN (h 75 7)) (h' 75 9))) 0 0 0 [x_r 75] [] h := by
  have hF := Fr.refl 89128961 h
  have b1 := jB (e := 13) 0 hJ rg_75_13_0_1 (by first | decide | omega) (by first | decide | omega)
  have b2 := jB (e := 7) 0 hJ rg_75_7_0_1 (by first | decide | omega) (by first | decide | omega)
  have b3 := jB (e := 10) 0 hJ rg_75_10_0_1 (by first | decide | omega) (by first | decide | omega)
  refine x_aload (np := 1) (x := 0) (by decide +kernel) rfl (x_nc_le (by decide)) ?_
  refine x_cI (t := 6) (mj := 191) (n := 1) (rc := 12) (ml := 1) (nr := 0) (np := 4) (as := [x_r 75]) (rest := []) (lo1 := [x_r 75]) (by decide +kernel) (by decide) (by decide +kernel) (x_rb_of (by decide +kernel)) rfl rfl (x_wr (by decide) x_wn) x_wn (by decide) rfl (c191_75_D6 hJ  (by first | decide | omega) (by first | decide | omega) hT) (fun v4 h7 l5 q6 => ?_)
  obtain ⟨j8, f9, b10, c11, c12, c13, c14, c15, c16, c17, c18⟩ := q6
  have f19 := Fr.trans hF f9 (by decide)
  have b20 := jB (e := 13) 0 j8 rg_75_13_0_1 (by first | decide | omega) (by first | decide | omega)
  have b21 := jB (e := 7) 0 j8 rg_75_7_0_1 (by first | decide | omega) (by first | decide | omega)
  have q22 : h7 75 10 = h 75 10 := jK 0 f9 rg_75_10_0_1 (by first | decide | omega) (by first | decide | omega) (by decide)
  refine x_ifz (k := 1) (tg := 9) (np := 7) (by decide +kernel) (by decide) l5 (fun q23 => ?_) (fun q24 => ?_)
  · have q23 : v4 ≠ 2147483648 := q23
    have b25 := c11 (by first | decide | omega)
    have b26 := c12 (by first | decide | omega)
    have b27 := c13 (by first | decide | omega)
    have b28 := c14 (by first | decide | omega)
    have s29 := c16 (by first | decide | omega)
    have p215 : ∀ (n : Nat) (h212 : xh), 4294967296 - h212 75 7 < n → h212 75 13 + h 75 7 ≤ h212 75 7 + h 75 13 → h212 75 10 = h 75 10 → h 75 7 ≤ h212 75 7 → h 75 13 ≤ h212 75 13 → J h212 → Fr 89128961 h7 h212 → Res tB tN (Kd.lp 2) 6 (sk tB tN (h212 75 7)) (Kd.seq 2) 6 (sk tB tN (h 75 7)) → ResF tB tN (Kd.lp 2) 6 (sk tB tN (h212 75 7)) (Kd.seq 2) 6 (sk tB tN (h 75 7)) → Kp h h212 (h 75 13 - 2147483648) → Seg (sg h212) (h 75 13 - 2147483648) (h212 75 13 - 2147483648) → X sc 192 (d + 9) (xI fun r h' => J h' ∧ Fr 89128961 h h' ∧ (2147483648 ≤ r ∧ r ≤ 2147483649) ∧ (r = 2147483649 → h' 75 13 + h 75 7 ≤ h' 75 7 + h 75 13) ∧ (r = 2147483649 → h' 75 10 = h 75 10) ∧ (r = 2147483649 → h 75 7 + 0 ≤ h' 75 7) ∧ (r = 2147483649 → h 75 13 ≤ h' 75 13) ∧ Kp h h' (h 75 13 - 2147483648) ∧ (r = 2147483649 → Seg (sg h') (h 75 13 - 2147483648) (h' 75 13 - 2147483648)) ∧ G tB tN (Kd.seq 2) 6 (sk tB tN (h 75 7)) (rs r (sk tB tN (h' 75 7))) ∧ (r = 2147483648 → GF tB tN (Kd.seq 2) 6 (sk tB tN (h 75 7)) (h' 75 9))) 0 0 9 [x_r 75] [] h212 := by
      intro n
      induction n with
      | zero => intro h212 q224; exact absurd q224 (Nat.not_lt_zero _)
      | succ n i225 =>
        intro h212 q224 b216 b217 b218 b219 j214 f213 m220 m221 m222 m223
        have f226 := Fr.trans f19 f213 (by decide)
        refine x_aload (np := 10) (x := 0) (by decide +kernel) rfl (x_nc_le (by decide)) ?_
        refine x_ldcB (i := 15) (idx := 179) (tx := "or") (by rw [tb_y192]; exact List.mem_of_getElem? (i := 54) rfl) (by decide) (by rw [tb_b192]; decide +kernel) ?_
        have m231 := Tq.fr hT f9 (by decide) (by decide)
        have m230 := Tq.fr m231 f213 (by decide) (by decide)
        refine x_cI (t := 6) (mj := 171) (n := 2) (rc := 12) (ml := 2) (nr := 0) (np := 15) (as := [x_r 75, x_b (15 + 1)]) (rest := []) (lo1 := [x_r 75, x_b (15 + 1)]) (by decide +kernel) (by decide) (by decide +kernel) (x_rb_of (by decide +kernel)) rfl rfl (x_wr (by decide) (x_wB (by decide) x_wn)) x_wn (by decide) rfl (c171_75_S0 j214  (by decide) m230) (fun v227 h232 l228 q229 => ?_)
        obtain ⟨j233, f234, b235, c236, c237, c238, c239⟩ := q229
        have f240 := Fr.trans f226 f234 (by decide)
        have f241 := Fr.trans f213 f234 (by decide)
        have b242 := jB (e := 7) 0 j214 rg_75_7_0_1 (by first | decide | omega) (by first | decide | omega)
        have b243 := jB (e := 7) 0 j233 rg_75_7_0_1 (by first | decide | omega) (by first | decide | omega)
        refine x_ifz (k := 0) (tg := 37) (np := 18) (by decide +kernel) (by decide) l228 (fun q244 => ?_) (fun q245 => ?_)
        · have q244 : v227 = 2147483648 := q244
          refine x_const (np := 38) (x := 9223372043297226753) (a := 2147483649) (by decide +kernel) (by decide) (by decide) ?_
          have q246 : h232 75 13 = h212 75 13 := jK 0 f234 rg_75_13_0_1 (by first | decide | omega) (by first | decide | omega) (by decide)
          have b247 := jB (e := 13) 0 j214 rg_75_13_0_1 (by first | decide | omega) (by first | decide | omega)
          have q248 : h232 75 10 = h212 75 10 := jK 0 f234 rg_75_10_0_1 (by first | decide | omega) (by first | decide | omega) (by decide)
          have q249 : h212 75 10 = h7 75 10 := jK 0 f213 rg_75_10_0_1 (by first | decide | omega) (by first | decide | omega) (by decide)
          have q250 : h7 75 10 = h 75 10 := jK 0 f9 rg_75_10_0_1 (by first | decide | omega) (by first | decide | omega) (by decide)
          have q251 : h232 75 13 = h212 75 13 := jK 0 f234 rg_75_13_0_1 (by first | decide | omega) (by first | decide | omega) (by decide)
          have k253 : Kp h h212 (h 75 13 - 2147483648) := Kp.less m222 (by first | decide | omega)
          have k252 : Kp h h232 (h 75 13 - 2147483648) := Kp.fr k253 f234 (by first | decide | omega) (by decide)
          have q254 : h232 75 13 = h212 75 13 := jK 0 f234 rg_75_13_0_1 (by first | decide | omega) (by first | decide | omega) (by decide)
          have k255 : Kp h212 h232 (h212 75 13 - 2147483648) := Kp.fr Kp.refl f234 (by first | decide | omega) (by decide)
          have s256 : Seg (sg h232) (h 75 13 - 2147483648) (h232 75 13 - 2147483648) := Seg.cast (Seg.kp m223 k255) (by first | decide | omega) (by first | decide | omega)
          obtain ⟨w257, e258⟩ := Tk.no c238 (by first | decide | omega)
          refine x_retI (np := 39) (x := 0) (by decide +kernel) (by decide) (Or.inr ⟨by decide +kernel, by first | decide | omega, by first | decide | omega⟩) ⟨_, rfl, (by decide), ?_⟩
          exact ⟨j233, f240, (by first | decide | omega), (fun z => by first | decide | omega), (fun z => by first | decide | omega), (fun z => by first | decide | omega), (fun z => by first | decide | omega), k252, (fun _ => s256), (gQ_e (t := 2) m220 w257 rfl (by first | decide | omega) ((Eq.symm e258))), (fun z => absurd z (by first | decide | omega))⟩
        have q245 : ¬ (v227 = 2147483648) := q245
        have b259 := c237 (by first | decide | omega)
        refine x_aload (np := 19) (x := 0) (by decide +kernel) rfl (x_nc_le (by decide)) ?_
        have q260 : h232 75 10 = h212 75 10 := jK 0 f234 rg_75_10_0_1 (by first | decide | omega) (by first | decide | omega) (by decide)
        have q261 : h212 75 10 = h7 75 10 := jK 0 f213 rg_75_10_0_1 (by first | decide | omega) (by first | decide | omega) (by decide)
        have q262 : h7 75 10 = h 75 10 := jK 0 f9 rg_75_10_0_1 (by first | decide | omega) (by first | decide | omega) (by decide)
        have q263 : h232 75 13 = h212 75 13 := jK 0 f234 rg_75_13_0_1 (by first | decide | omega) (by first | decide | omega) (by decide)
        have b264 := jB (e := 13) 0 j214 rg_75_13_0_1 (by first | decide | omega) (by first | decide | omega)
        have q265 : h232 75 10 = h212 75 10 := jK 0 f234 rg_75_10_0_1 (by first | decide | omega) (by first | decide | omega) (by decide)
        have q266 : h212 75 10 = h7 75 10 := jK 0 f213 rg_75_10_0_1 (by first | decide | omega) (by first | decide | omega) (by decide)
        have q267 : h7 75 10 = h 75 10 := jK 0 f9 rg_75_10_0_1 (by first | decide | omega) (by first | decide | omega) (by decide)
        have m271 := Tq.fr m230 f234 (by decide) (by decide)
        refine x_cI (t := 6) (mj := 191) (n := 1) (rc := 12) (ml := 1) (nr := 0) (np := 22) (as := [x_r 75]) (rest := []) (lo1 := [x_r 75]) (by decide +kernel) (by decide) (by decide +kernel) (x_rb_of (by decide +kernel)) rfl rfl (x_wr (by decide) x_wn) x_wn (by decide) rfl (c191_75_D6 j233  (by first | decide | omega) (by first | decide | omega) m271) (fun v268 h272 l269 q270 => ?_)
        obtain ⟨j273, f274, b275, c276, c277, c278, c279, c280, c281, c282, c283⟩ := q270
        have f284 := Fr.trans f240 f274 (by decide)
        have f285 := Fr.trans f241 f274 (by decide)
        have q286 : h232 75 13 = h212 75 13 := jK 0 f234 rg_75_13_0_1 (by first | decide | omega) (by first | decide | omega) (by decide)
        have b287 := jB (e := 13) 0 j273 rg_75_13_0_1 (by first | decide | omega) (by first | decide | omega)
        have b288 := jB (e := 7) 0 j273 rg_75_7_0_1 (by first | decide | omega) (by first | decide | omega)
        have q289 : h232 75 10 = h212 75 10 := jK 0 f234 rg_75_10_0_1 (by first | decide | omega) (by first | decide | omega) (by decide)
        have q290 : h212 75 10 = h7 75 10 := jK 0 f213 rg_75_10_0_1 (by first | decide | omega) (by first | decide | omega) (by decide)
        have q291 : h7 75 10 = h 75 10 := jK 0 f9 rg_75_10_0_1 (by first | decide | omega) (by first | decide | omega) (by decide)
        have q292 : h272 75 10 = h232 75 10 := jK 0 f274 rg_75_10_0_1 (by first | decide | omega) (by first | decide | omega) (by decide)
        have q293 : h232 75 10 = h212 75 10 := jK 0 f234 rg_75_10_0_1 (by first | decide | omega) (by first | decide | omega) (by decide)
        have q294 : h212 75 10 = h7 75 10 := jK 0 f213 rg_75_10_0_1 (by first | decide | omega) (by first | decide | omega) (by decide)
        have q295 : h7 75 10 = h 75 10 := jK 0 f9 rg_75_10_0_1 (by first | decide | omega) (by first | decide | omega) (by decide)
        have q296 : h232 75 13 = h212 75 13 := jK 0 f234 rg_75_13_0_1 (by first | decide | omega) (by first | decide | omega) (by decide)
        refine x_ifz (k := 1) (tg := 27) (np := 25) (by decide +kernel) (by decide) l269 (fun q297 => ?_) (fun q298 => ?_)
        · have q297 : v268 ≠ 2147483648 := q297
          have b299 := c276 (by first | decide | omega)
          have b300 := c277 (by first | decide | omega)
          have b301 := c278 (by first | decide | omega)
          have b302 := c279 (by first | decide | omega)
          have s303 := c281 (by first | decide | omega)
          have q304 : h232 75 13 = h212 75 13 := jK 0 f234 rg_75_13_0_1 (by first | decide | omega) (by first | decide | omega) (by decide)
          refine x_aload (np := 28) (x := 0) (by decide +kernel) rfl (x_nc_le (by decide)) ?_
          refine x_const (np := 30) (x := 9223372099131801614) (a := 2147483662) (by decide +kernel) (by decide) (by decide) ?_
          refine x_const (np := 31) (x := 9223372039002259456) (a := 2147483648) (by decide +kernel) (by decide) (by decide) ?_
          refine x_nV (t := 6) (mj := 187) (n := 3) (rc := 12) (ml := 3) (nr := 0) (np := 34) (as := [x_r 75, iv_c 2147483662, iv_c 2147483648]) (rest := []) (lo1 := [x_r 75, iv_c 2147483662, iv_c 2147483648]) (by decide +kernel) (by decide) (by decide +kernel) (x_rb_of (by decide +kernel)) rfl rfl (x_wr (by decide) (x_wi (by decide) (x_wi (by decide) x_wn))) x_wn (by decide) rfl ?_
          refine x_aload (np := 1) (x := 0) (by decide +kernel) rfl (x_nc_le (by decide)) ?_
          have q305 : h272 75 1 = 76 := by have z := jB (e := 1) 0 j273 rg_75_1_0_1 (by decide) (by decide); omega
          refine x_getR (np := 4) (x := 705) (f := 1) (q := 76) (by decide +kernel) (by decide) (by decide +kernel) q305 ?_
          refine x_const (np := 7) (x := 9223376986804585600) (a := 2147484800) (by decide +kernel) (by decide) (by decide) ?_
          refine x_const (np := 8) (x := 9223372047592194050) (a := 2147483650) (by decide +kernel) (by decide) (by decide) ?_
          refine x_aload (np := 9) (x := 0) (by decide +kernel) rfl (x_nc_le (by decide)) ?_
          refine x_getC (np := 12) (x := 717) (f := 13) (q := (h272 75 13)) (by decide +kernel) (by decide) (by decide +kernel) rfl (fun l306 => ?_)
          obtain ⟨u307, q308⟩ : ∃ z, (h272 75 13) = 2147483648 + z := ⟨(h272 75 13) - 2147483648, by first | decide | omega⟩
          refine x_imul (np := 13) (x := 0) (i := 2) (j := u307) (v := (2147483648 + 2 * u307)) (by decide +kernel) (by first | decide | omega) (by first | decide | omega) (by first | decide | omega) (by first | decide | omega) (by decide) l306 ?_
          refine x_iadd (np := 14) (x := 0) (v := (2147484800 + 2 * u307)) (by decide +kernel) (by decide) (by first | decide | omega) (by first | decide | omega) (by first | decide | omega) ?_
          refine x_iload (np := 15) (x := 1) (by decide +kernel) rfl (by decide) ?_
          refine x_ast (np := 16) (x := 0) (kd := 1) (n := 1952) (i := (1152 + 2 * u307)) (by decide +kernel) (Or.inl rfl) (by decide +kernel) (by first | decide | omega) (by first | decide | omega) (by decide) (by decide) (fun z => absurd z (by decide)) ?_
          have j311 := jU (e := (1152 + 2 * u307)) (v := 2147483662) u307 j273 rg_76_1152_2_394 (by first | decide | omega) (by first | decide | omega) (by first | decide | omega)
          have f313 := jF (e := (1152 + 2 * u307)) (v := 2147483662) u307 f284 rg_76_1152_2_394 (by first | decide | omega) (by first | decide | omega) (by decide)
          have f314 := jF (e := (1152 + 2 * u307)) (v := 2147483662) u307 f285 rg_76_1152_2_394 (by first | decide | omega) (by first | decide | omega) (by decide)
          generalize e312 : x_up h272 76 (1152 + 2 * u307) 2147483662 = h310 at j311 f313 f314 ⊢
          refine x_aload (np := 17) (x := 0) (by decide +kernel) rfl (x_nc_le (by decide)) ?_
          have q315 : h310 75 1 = 76 := by have z := jB (e := 1) 0 j311 rg_75_1_0_1 (by decide) (by decide); omega
          refine x_getR (np := 20) (x := 705) (f := 1) (q := 76) (by decide +kernel) (by decide) (by decide +kernel) q315 ?_
          refine x_const (np := 23) (x := 9223376986804585600) (a := 2147484800) (by decide +kernel) (by decide) (by decide) ?_
          refine x_const (np := 24) (x := 9223372047592194050) (a := 2147483650) (by decide +kernel) (by decide) (by decide) ?_
          refine x_aload (np := 25) (x := 0) (by decide +kernel) rfl (x_nc_le (by decide)) ?_
          have q316 : h310 75 13 = h272 75 13 := by rw [← e312]; exact x_up_k (by decide)
          refine x_getC (np := 28) (x := 717) (f := 13) (q := (h272 75 13)) (by decide +kernel) (by decide) (by decide +kernel) q316 (fun l317 => ?_)
          refine x_imul (np := 29) (x := 0) (i := 2) (j := u307) (v := (2147483648 + 2 * u307)) (by decide +kernel) (by first | decide | omega) (by first | decide | omega) (by first | decide | omega) (by first | decide | omega) (by decide) l306 ?_
          refine x_iadd (np := 30) (x := 0) (v := (2147484800 + 2 * u307)) (by decide +kernel) (by decide) (by first | decide | omega) (by first | decide | omega) (by first | decide | omega) ?_
          refine x_const (np := 31) (x := 9223372043297226753) (a := 2147483649) (by decide +kernel) (by decide) (by decide) ?_
          refine x_iadd (np := 32) (x := 0) (v := (2147484801 + 2 * u307)) (by decide +kernel) (by first | decide | omega) (by decide) (by first | decide | omega) (by first | decide | omega) ?_
          refine x_iload (np := 33) (x := 2) (by decide +kernel) rfl (by decide) ?_
          refine x_ast (np := 34) (x := 0) (kd := 1) (n := 1952) (i := (1153 + 2 * u307)) (by decide +kernel) (Or.inl rfl) (by decide +kernel) (by first | decide | omega) (by first | decide | omega) (by decide) (by decide) (fun z => absurd z (by decide)) ?_
          have j320 := jU (e := (1153 + 2 * u307)) (v := 2147483648) u307 j311 rg_76_1153_2_394 (by first | decide | omega) (by first | decide | omega) (by first | decide | omega)
          have f322 := jF (e := (1153 + 2 * u307)) (v := 2147483648) u307 f313 rg_76_1153_2_394 (by first | decide | omega) (by first | decide | omega) (by decide)
          have f323 := jF (e := (1153 + 2 * u307)) (v := 2147483648) u307 f314 rg_76_1153_2_394 (by first | decide | omega) (by first | decide | omega) (by decide)
          generalize e321 : x_up h310 76 (1153 + 2 * u307) 2147483648 = h319 at j320 f322 f323 ⊢
          refine x_aload (np := 35) (x := 0) (by decide +kernel) rfl (x_nc_le (by decide)) ?_
          refine x_dup (np := 36) (x := 0) (by decide +kernel) (by have z := x_nc_le (k := 75) (by decide); unfold x_r; omega) ?_
          have q324 : h319 75 13 = h310 75 13 := by rw [← e321]; exact x_up_k (by decide)
          have q325 : h310 75 13 = h272 75 13 := by rw [← e312]; exact x_up_k (by decide)
          refine x_getC (np := 39) (x := 717) (f := 13) (q := (h272 75 13)) (by decide +kernel) (by decide) (by decide +kernel) (q324.trans q325) (fun l326 => ?_)
          refine x_const (np := 40) (x := 9223372043297226753) (a := 2147483649) (by decide +kernel) (by decide) (by decide) ?_
          refine x_iadd (np := 41) (x := 0) (v := (1 + (h272 75 13))) (by decide +kernel) l306 (by decide) (by first | decide | omega) (by first | decide | omega) ?_
          refine x_putI (np := 44) (x := 717) (f := 13) (by decide +kernel) (by decide +kernel) (by first | decide | omega) (Or.inl (by decide)) ?_
          have j328 := jU (e := 13) (v := (1 + (h272 75 13))) 0 j320 rg_75_13_0_1 (by first | decide | omega) (by first | decide | omega) (by first | decide | omega)
          have f330 := jF (e := 13) (v := (1 + (h272 75 13))) 0 f322 rg_75_13_0_1 (by first | decide | omega) (by first | decide | omega) (by decide)
          have f331 := jF (e := 13) (v := (1 + (h272 75 13))) 0 f323 rg_75_13_0_1 (by first | decide | omega) (by first | decide | omega) (by decide)
          generalize e329 : x_up h319 75 13 (1 + (h272 75 13)) = h327 at j328 f330 f331 ⊢
          refine x_retV (np := 45) (x := 0) (by decide +kernel) (by decide +kernel) ⟨rfl, ?_⟩
          have q332 : h327 75 13 = (1 + (h272 75 13)) := by rw [← e329]; exact x_up_at
          refine x_goto (np := 37) (x := 9) (by decide +kernel) ?_
          have q333 : h327 75 7 = h319 75 7 := by rw [← e329]; exact x_up_i (by first | decide | omega)
          have q334 : h319 75 7 = h310 75 7 := by rw [← e321]; exact x_up_k (by decide)
          have q335 : h310 75 7 = h272 75 7 := by rw [← e312]; exact x_up_k (by decide)
          have q336 : h327 75 7 = h319 75 7 := by rw [← e329]; exact x_up_i (by first | decide | omega)
          have q337 : h319 75 7 = h310 75 7 := by rw [← e321]; exact x_up_k (by decide)
          have q338 : h310 75 7 = h272 75 7 := by rw [← e312]; exact x_up_k (by decide)
          have q339 : h327 75 13 = (1 + (h272 75 13)) := by rw [← e329]; exact x_up_at
          have q340 : h327 75 10 = h319 75 10 := by rw [← e329]; exact x_up_i (by first | decide | omega)
          have q341 : h319 75 10 = h310 75 10 := by rw [← e321]; exact x_up_k (by decide)
          have q342 : h310 75 10 = h272 75 10 := by rw [← e312]; exact x_up_k (by decide)
          have q343 : h272 75 10 = h232 75 10 := jK 0 f274 rg_75_10_0_1 (by first | decide | omega) (by first | decide | omega) (by decide)
          have q344 : h232 75 10 = h212 75 10 := jK 0 f234 rg_75_10_0_1 (by first | decide | omega) (by first | decide | omega) (by decide)
          have q345 : h212 75 10 = h7 75 10 := jK 0 f213 rg_75_10_0_1 (by first | decide | omega) (by first | decide | omega) (by decide)
          have q346 : h7 75 10 = h 75 10 := jK 0 f9 rg_75_10_0_1 (by first | decide | omega) (by first | decide | omega) (by decide)
          obtain ⟨w347, e348⟩ := Tk.yes c238 (by first | decide | omega)
          have q349 : h327 75 7 = h319 75 7 := by rw [← e329]; exact x_up_i (by first | decide | omega)
          have q350 : h319 75 7 = h310 75 7 := by rw [← e321]; exact x_up_k (by decide)
          have q351 : h310 75 7 = h272 75 7 := by rw [← e312]; exact x_up_k (by decide)
          obtain ⟨w352, e353⟩ := Tk.yes c238 (by first | decide | omega)
          have q354 : h327 75 7 = h319 75 7 := by rw [← e329]; exact x_up_i (by first | decide | omega)
          have q355 : h319 75 7 = h310 75 7 := by rw [← e321]; exact x_up_k (by decide)
          have q356 : h310 75 7 = h272 75 7 := by rw [← e312]; exact x_up_k (by decide)
          have k362 : Kp h h212 (h 75 13 - 2147483648) := Kp.less m222 (by first | decide | omega)
          have k361 : Kp h h232 (h 75 13 - 2147483648) := Kp.fr k362 f234 (by first | decide | omega) (by decide)
          have q363 : h232 75 13 = h212 75 13 := jK 0 f234 rg_75_13_0_1 (by first | decide | omega) (by first | decide | omega) (by decide)
          have k360 : Kp h h272 (h 75 13 - 2147483648) := Kp.trans k361 c280 (by first | decide | omega)
          have k359 : Kp h h310 (h 75 13 - 2147483648) := by rw [← e312]; exact Kp.up k360 (by first | decide | omega) (fun i hi => by first | decide | omega)
          have k358 : Kp h h319 (h 75 13 - 2147483648) := by rw [← e321]; exact Kp.up k359 (by first | decide | omega) (fun i hi => by first | decide | omega)
          have k357 : Kp h h327 (h 75 13 - 2147483648) := by rw [← e329]; exact Kp.oth k358 (by decide)
          have q364 : h327 75 13 = (1 + (h272 75 13)) := by rw [← e329]; exact x_up_at
          have q366 : h327 76 (1152 + 2 * u307) = h319 76 (1152 + 2 * u307) := by rw [← e329]; exact x_up_k (by decide)
          have q367 : h319 76 (1152 + 2 * u307) = h310 76 (1152 + 2 * u307) := by rw [← e321]; exact x_up_i (by first | decide | omega)
          have q368 : h310 76 (1152 + 2 * u307) = 2147483662 := by rw [← e312]; exact x_up_at
          have k373 : Kp h212 h232 (h212 75 13 - 2147483648) := Kp.fr Kp.refl f234 (by first | decide | omega) (by decide)
          have q374 : h232 75 13 = h212 75 13 := jK 0 f234 rg_75_13_0_1 (by first | decide | omega) (by first | decide | omega) (by decide)
          have k372 : Kp h212 h272 (h212 75 13 - 2147483648) := Kp.trans k373 c280 (by first | decide | omega)
          have k371 : Kp h212 h310 (h212 75 13 - 2147483648) := by rw [← e312]; exact Kp.up k372 (by first | decide | omega) (fun i hi => by first | decide | omega)
          have k370 : Kp h212 h319 (h212 75 13 - 2147483648) := by rw [← e321]; exact Kp.up k371 (by first | decide | omega) (fun i hi => by first | decide | omega)
          have k369 : Kp h212 h327 (h212 75 13 - 2147483648) := by rw [← e329]; exact Kp.oth k370 (by decide)
          have k377 : Kp h272 h310 (h272 75 13 - 2147483648) := by rw [← e312]; exact Kp.up Kp.refl (by first | decide | omega) (fun i hi => by first | decide | omega)
          have k376 : Kp h272 h319 (h272 75 13 - 2147483648) := by rw [← e321]; exact Kp.up k377 (by first | decide | omega) (fun i hi => by first | decide | omega)
          have k375 : Kp h272 h327 (h272 75 13 - 2147483648) := by rw [← e329]; exact Kp.oth k376 (by decide)
          have s365 : Seg (sg h327) (h 75 13 - 2147483648) (u307 + 1) := Seg.bin (Seg.kp m223 k369) (Seg.cast (a' := (h212 75 13 - 2147483648)) (b' := u307) (Seg.kp s303 k375) (by first | decide | omega) (by first | decide | omega)) (show 2147483656 < h327 76 (1152 + 2 * u307) by first | decide | omega) (show h327 76 (1152 + 2 * u307) ≠ 2147483660 by first | decide | omega)
          have s378 : Seg (sg h327) (h 75 13 - 2147483648) (h327 75 13 - 2147483648) := Seg.cast (Seg.kp s365 Kp.refl) (by first | decide | omega) (by first | decide | omega)
          exact i225  h327 (by first | decide | omega) (by first | decide | omega) (by first | decide | omega) (by first | decide | omega) (by first | decide | omega) j328 f331 (gQ_st (t := 2) m220 w347 rfl e348 c282 rfl (by first | decide | omega) (congrArg (sk tB tN) (show h272 75 7 = h327 75 7 by first | decide | omega))) (fQ_st (t := 2) m221 w352 rfl e353 c282 rfl (by first | decide | omega) (congrArg (sk tB tN) (show h272 75 7 = h327 75 7 by first | decide | omega))) k357 s378
        have q298 : ¬ (v268 ≠ 2147483648) := q298
        refine x_const (np := 26) (x := 9223372039002259456) (a := 2147483648) (by decide +kernel) (by decide) (by decide) ?_
        have q379 : h272 75 10 = h232 75 10 := jK 0 f274 rg_75_10_0_1 (by first | decide | omega) (by first | decide | omega) (by decide)
        have q380 : h232 75 10 = h212 75 10 := jK 0 f234 rg_75_10_0_1 (by first | decide | omega) (by first | decide | omega) (by decide)
        have q381 : h212 75 10 = h7 75 10 := jK 0 f213 rg_75_10_0_1 (by first | decide | omega) (by first | decide | omega) (by decide)
        have q382 : h7 75 10 = h 75 10 := jK 0 f9 rg_75_10_0_1 (by first | decide | omega) (by first | decide | omega) (by decide)
        have k385 : Kp h h212 (h 75 13 - 2147483648) := Kp.less m222 (by first | decide | omega)
        have k384 : Kp h h232 (h 75 13 - 2147483648) := Kp.fr k385 f234 (by first | decide | omega) (by decide)
        have q386 : h232 75 13 = h212 75 13 := jK 0 f234 rg_75_13_0_1 (by first | decide | omega) (by first | decide | omega) (by decide)
        have k383 : Kp h h272 (h 75 13 - 2147483648) := Kp.trans k384 c280 (by first | decide | omega)
        obtain ⟨w387, e388⟩ := Tk.yes c238 (by first | decide | omega)
        obtain ⟨w389, e390⟩ := Tk.yes c238 (by first | decide | omega)
        refine x_retI (np := 27) (x := 0) (by decide +kernel) (by decide) (Or.inr ⟨by decide +kernel, by first | decide | omega, by first | decide | omega⟩) ⟨_, rfl, (by decide), ?_⟩
        exact ⟨j273, f284, (by first | decide | omega), (fun z => by first | decide | omega), (fun z => by first | decide | omega), (fun z => by first | decide | omega), (fun z => by first | decide | omega), k383, (fun z => absurd z (by first | decide | omega)), (gQ_f (t := 2) m220 w387 rfl e388 c282 rfl (by first | decide | omega) (by first | decide | omega)), (fun _ => fQ_f (t := 2) m221 w389 rfl e390 (c283 (by first | decide | omega)) rfl rfl)⟩
    have q391 : h7 75 10 = h 75 10 := jK 0 f9 rg_75_10_0_1 (by first | decide | omega) (by first | decide | omega) (by decide)
    have k392 : Kp h h7 (h 75 13 - 2147483648) := Kp.less c15 (by first | decide | omega)
    have s393 : Seg (sg h7) (h 75 13 - 2147483648) (h7 75 13 - 2147483648) := Seg.cast (Seg.kp s29 Kp.refl) (by first | decide | omega) (by first | decide | omega)
    exact p215 _  h7 (Nat.lt_succ_self _) (by first | decide | omega) (by first | decide | omega) (by first | decide | omega) (by first | decide | omega) j8 (Fr.refl _ _) (gQ_in (t := 2) c17 rfl (by first | decide | omega) rfl) (fQ_in (t := 2) c17 rfl (by first | decide | omega) rfl) k392 s393
  have q24 : ¬ (v4 ≠ 2147483648) := q24
  refine x_const (np := 8) (x := 9223372039002259456) (a := 2147483648) (by decide +kernel) (by decide) (by decide) ?_
  have q394 : h7 75 10 = h 75 10 := jK 0 f9 rg_75_10_0_1 (by first | decide | omega) (by first | decide | omega) (by decide)
  have k395 : Kp h h7 (h 75 13 - 2147483648) := Kp.less c15 (by first | decide | omega)
  refine x_retI (np := 9) (x := 0) (by decide +kernel) (by decide) (Or.inr ⟨by decide +kernel, by first | decide | omega, by first | decide | omega⟩) ⟨_, rfl, (by decide), ?_⟩
  exact ⟨j8, f19, (by first | decide | omega), (fun z => by first | decide | omega), (fun z => by first | decide | omega), (fun z => by first | decide | omega), (fun z => by first | decide | omega), k395, (fun z => absurd z (by first | decide | omega)), (gQ_no (t := 2) c17 rfl (by first | decide | omega) (by first | decide | omega)), (fun _ => fQ_no (t := 2) (c18 (by first | decide | omega)) rfl rfl)⟩
set_option maxHeartbeats 0 in
/-- LentNamesModel.readAtom()Z -/
theorem c190_75_D5 {sc : Nat × Nat} {d  : Nat} {h : xh} {tB : Nat → Nat} {tN : Nat} (hJ : J h) (hr0 : (h 75 13) + 5 ≤ (h 75 7)) (hr1 : (h 75 10) = 2147483653) (hT : Tq tB tN h) : X sc 190 (d + 10) (xI fun r h' => J h' ∧ Fr 97517569 h h' ∧ (2147483648 ≤ r ∧ r ≤ 2147483649) ∧ (r = 2147483649 → h' 75 13 + h 75 7 ≤ h' 75 7 + h 75 13) ∧ (r = 2147483649 → h' 75 10 = h 75 10) ∧ (r = 2147483649 → h 75 7 + 0 ≤ h' 75 7) ∧ (r = 2147483649 → h 75 13 ≤ h' 75 13) ∧ Kp h h' (h 75 13 - 2147483648) ∧ (r = 2147483649 → Seg (sg h') (h 75 13 - 2147483648) (h' 75 13 - 2147483648)) ∧ G tB tN Kd.atom 5 (sk tB tN (h 75 7)) (rs r (sk tB tN (h' 75 7))) ∧ (r = 2147483648 → GF tB tN Kd.atom 5 (sk tB tN (h 75 7)) (h' 75 9))) 0 0 0 [x_r 75, 147573952589676412928, 147573952589676412928] [] h := by
  have hF := Fr.refl 97517569 h
  have b1 := jB (e := 13) 0 hJ rg_75_13_0_1 (by first | decide | omega) (by first | decide | omega)
  have b2 := jB (e := 7) 0 hJ rg_75_7_0_1 (by first | decide | omega) (by first | decide | omega)
  have b3 := jB (e := 10) 0 hJ rg_75_10_0_1 (by first | decide | omega) (by first | decide | omega)
  refine x_aload (np := 1) (x := 0) (by decide +kernel) rfl (x_nc_le (by decide)) ?_
  refine x_const (np := 3) (x := 9223372210800951336) (a := 2147483688) (by decide +kernel) (by decide) (by decide) ?_
  refine x_cI (t := 6) (mj := 173) (n := 2) (rc := 12) (ml := 2) (nr := 0) (np := 6) (as := [x_r 75, iv_c 2147483688]) (rest := []) (lo1 := [x_r 75, iv_c 2147483688]) (by decide +kernel) (by decide) (by decide +kernel) (x_rb_of (by decide +kernel)) rfl rfl (x_wr (by decide) (x_wi (by decide) x_wn)) x_wn (by decide) rfl (c173_75 hJ  (by first | decide | omega) hT) (fun v4 h7 l5 q6 => ?_)
  obtain ⟨j8, f9, b10, c11, c12, c13, c14⟩ := q6
  have f15 := Fr.trans hF f9 (by decide)
  have b16 := jB (e := 7) 0 j8 rg_75_7_0_1 (by first | decide | omega) (by first | decide | omega)
  refine x_ifz (k := 0) (tg := 56) (np := 9) (by decide +kernel) (by decide) l5 (fun q17 => ?_) (fun q18 => ?_)
  · have q17 : v4 = 2147483648 := q17
    refine x_aload (np := 57) (x := 0) (by decide +kernel) rfl (x_nc_le (by decide)) ?_
    refine x_ldcB (i := 24) (idx := 245) (tx := "not") (by rw [tb_y190]; exact List.mem_of_getElem? (i := 59) rfl) (by decide) (by rw [tb_b190]; decide +kernel) ?_
    have m22 := Tq.fr hT f9 (by decide) (by decide)
    refine x_cI (t := 6) (mj := 171) (n := 2) (rc := 12) (ml := 2) (nr := 0) (np := 62) (as := [x_r 75, x_b (24 + 1)]) (rest := []) (lo1 := [x_r 75, x_b (24 + 1)]) (by decide +kernel) (by decide) (by decide +kernel) (x_rb_of (by decide +kernel)) rfl rfl (x_wr (by decide) (x_wB (by decide) x_wn)) x_wn (by decide) rfl (c171_75_S0 j8  (by decide) m22) (fun v19 h23 l20 q21 => ?_)
    obtain ⟨j24, f25, b26, c27, c28, c29, c30⟩ := q21
    have f31 := Fr.trans f15 f25 (by decide)
    have b32 := jB (e := 7) 0 j24 rg_75_7_0_1 (by first | decide | omega) (by first | decide | omega)
    refine x_ifz (k := 0) (tg := 114) (np := 65) (by decide +kernel) (by decide) l20 (fun q33 => ?_) (fun q34 => ?_)
    · have q33 : v19 = 2147483648 := q33
      refine x_aload (np := 115) (x := 0) (by decide +kernel) rfl (x_nc_le (by decide)) ?_
      refine x_ldcB (i := 25) (idx := 250) (tx := "own") (by rw [tb_y190]; exact List.mem_of_getElem? (i := 60) rfl) (by decide) (by rw [tb_b190]; decide +kernel) ?_
      have m38 := Tq.fr m22 f25 (by decide) (by decide)
      refine x_cI (t := 6) (mj := 171) (n := 2) (rc := 12) (ml := 2) (nr := 0) (np := 120) (as := [x_r 75, x_b (25 + 1)]) (rest := []) (lo1 := [x_r 75, x_b (25 + 1)]) (by decide +kernel) (by decide) (by decide +kernel) (x_rb_of (by decide +kernel)) rfl rfl (x_wr (by decide) (x_wB (by decide) x_wn)) x_wn (by decide) rfl (c171_75_S0 j24  (by decide) m38) (fun v35 h39 l36 q37 => ?_)
      obtain ⟨j40, f41, b42, c43, c44, c45, c46⟩ := q37
      have f47 := Fr.trans f31 f41 (by decide)
      have b48 := jB (e := 7) 0 j40 rg_75_7_0_1 (by first | decide | omega) (by first | decide | omega)
      refine x_istore (np := 121) (x := 1) (lo' := [x_r 75, iv_c v35, 147573952589676412928]) (by decide +kernel) l36 (Nat.le_of_ble_eq_true rfl) rfl ?_
      refine x_iload (np := 122) (x := 1) (by decide +kernel) rfl l36 ?_
      refine x_ifz (k := 1) (tg := 134) (np := 125) (by decide +kernel) (by decide) l36 (fun q49 => ?_) (fun q50 => ?_)
      · have q49 : v35 ≠ 2147483648 := q49
        have b51 := c44 (by first | decide | omega)
        refine x_aload (np := 135) (x := 0) (by decide +kernel) rfl (x_nc_le (by decide)) ?_
        refine x_iload (np := 136) (x := 1) (by decide +kernel) rfl l36 ?_
        refine x_ifz (k := 0) (tg := 144) (np := 139) (by decide +kernel) (by decide) l36 (fun q52 => ?_) (fun q53 => ?_)
        · have q52 : v35 = 2147483648 := q52
          exfalso; omega
        have q53 : ¬ (v35 = 2147483648) := q53
        refine x_const (np := 141) (x := 9223372064772063238) (a := 2147483654) (by decide +kernel) (by decide) (by decide) ?_
        refine x_goto (np := 144) (x := 146) (by decide +kernel) ?_
        refine x_const (np := 147) (x := 9223372039002259456) (a := 2147483648) (by decide +kernel) (by decide) (by decide) ?_
        refine x_nV (t := 6) (mj := 187) (n := 3) (rc := 12) (ml := 3) (nr := 0) (np := 150) (as := [x_r 75, iv_c 2147483654, iv_c 2147483648]) (rest := []) (lo1 := [x_r 75, iv_c 2147483654, iv_c 2147483648]) (by decide +kernel) (by decide) (by decide +kernel) (x_rb_of (by decide +kernel)) rfl rfl (x_wr (by decide) (x_wi (by decide) (x_wi (by decide) x_wn))) x_wn (by decide) rfl ?_
        refine x_aload (np := 1) (x := 0) (by decide +kernel) rfl (x_nc_le (by decide)) ?_
        have q54 : h39 75 1 = 76 := by have z := jB (e := 1) 0 j40 rg_75_1_0_1 (by decide) (by decide); omega
        refine x_getR (np := 4) (x := 705) (f := 1) (q := 76) (by decide +kernel) (by decide) (by decide +kernel) q54 ?_
        refine x_const (np := 7) (x := 9223376986804585600) (a := 2147484800) (by decide +kernel) (by decide) (by decide) ?_
        refine x_const (np := 8) (x := 9223372047592194050) (a := 2147483650) (by decide +kernel) (by decide) (by decide) ?_
        refine x_aload (np := 9) (x := 0) (by decide +kernel) rfl (x_nc_le (by decide)) ?_
        have q55 : h39 75 13 = h23 75 13 := jK 0 f41 rg_75_13_0_1 (by first | decide | omega) (by first | decide | omega) (by decide)
        have q56 : h23 75 13 = h7 75 13 := jK 0 f25 rg_75_13_0_1 (by first | decide | omega) (by first | decide | omega) (by decide)
        have q57 : h7 75 13 = h 75 13 := jK 0 f9 rg_75_13_0_1 (by first | decide | omega) (by first | decide | omega) (by decide)
        refine x_getC (np := 12) (x := 717) (f := 13) (q := (h 75 13)) (by decide +kernel) (by decide) (by decide +kernel) ((q55.trans q56).trans q57) (fun l58 => ?_)
        obtain ⟨u59, q60⟩ : ∃ z, (h 75 13) = 2147483648 + z := ⟨(h 75 13) - 2147483648, by first | decide | omega⟩
        refine x_imul (np := 13) (x := 0) (i := 2) (j := u59) (v := (2147483648 + 2 * u59)) (by decide +kernel) (by first | decide | omega) (by first | decide | omega) (by first | decide | omega) (by first | decide | omega) (by decide) l58 ?_
        refine x_iadd (np := 14) (x := 0) (v := (2147484800 + 2 * u59)) (by decide +kernel) (by decide) (by first | decide | omega) (by first | decide | omega) (by first | decide | omega) ?_
        refine x_iload (np := 15) (x := 1) (by decide +kernel) rfl (by decide) ?_
        refine x_ast (np := 16) (x := 0) (kd := 1) (n := 1952) (i := (1152 + 2 * u59)) (by decide +kernel) (Or.inl rfl) (by decide +kernel) (by first | decide | omega) (by first | decide | omega) (by decide) (by decide) (fun z => absurd z (by decide)) ?_
        have j63 := jU (e := (1152 + 2 * u59)) (v := 2147483654) u59 j40 rg_76_1152_2_394 (by first | decide | omega) (by first | decide | omega) (by first | decide | omega)
        have f65 := jF (e := (1152 + 2 * u59)) (v := 2147483654) u59 f47 rg_76_1152_2_394 (by first | decide | omega) (by first | decide | omega) (by decide)
        generalize e64 : x_up h39 76 (1152 + 2 * u59) 2147483654 = h62 at j63 f65 ⊢
        refine x_aload (np := 17) (x := 0) (by decide +kernel) rfl (x_nc_le (by decide)) ?_
        have q66 : h62 75 1 = 76 := by have z := jB (e := 1) 0 j63 rg_75_1_0_1 (by decide) (by decide); omega
        refine x_getR (np := 20) (x := 705) (f := 1) (q := 76) (by decide +kernel) (by decide) (by decide +kernel) q66 ?_
        refine x_const (np := 23) (x := 9223376986804585600) (a := 2147484800) (by decide +kernel) (by decide) (by decide) ?_
        refine x_const (np := 24) (x := 9223372047592194050) (a := 2147483650) (by decide +kernel) (by decide) (by decide) ?_
        refine x_aload (np := 25) (x := 0) (by decide +kernel) rfl (x_nc_le (by decide)) ?_
        have q67 : h62 75 13 = h39 75 13 := by rw [← e64]; exact x_up_k (by decide)
        have q68 : h39 75 13 = h23 75 13 := jK 0 f41 rg_75_13_0_1 (by first | decide | omega) (by first | decide | omega) (by decide)
        have q69 : h23 75 13 = h7 75 13 := jK 0 f25 rg_75_13_0_1 (by first | decide | omega) (by first | decide | omega) (by decide)
        have q70 : h7 75 13 = h 75 13 := jK 0 f9 rg_75_13_0_1 (by first | decide | omega) (by first | decide | omega) (by decide)
        refine x_getC (np := 28) (x := 717) (f := 13) (q := (h 75 13)) (by decide +kernel) (by decide) (by decide +kernel) (((q67.trans q68).trans q69).trans q70) (fun l71 => ?_)
        refine x_imul (np := 29) (x := 0) (i := 2) (j := u59) (v := (2147483648 + 2 * u59)) (by decide +kernel) (by first | decide | omega) (by first | decide | omega) (by first | decide | omega) (by first | decide | omega) (by decide) l58 ?_
        refine x_iadd (np := 30) (x := 0) (v := (2147484800 + 2 * u59)) (by decide +kernel) (by decide) (by first | decide | omega) (by first | decide | omega) (by first | decide | omega) ?_
        refine x_const (np := 31) (x := 9223372043297226753) (a := 2147483649) (by decide +kernel) (by decide) (by decide) ?_
        refine x_iadd (np := 32) (x := 0) (v := (2147484801 + 2 * u59)) (by decide +kernel) (by first | decide | omega) (by decide) (by first | decide | omega) (by first | decide | omega) ?_
        refine x_iload (np := 33) (x := 2) (by decide +kernel) rfl (by decide) ?_
        refine x_ast (np := 34) (x := 0) (kd := 1) (n := 1952) (i := (1153 + 2 * u59)) (by decide +kernel) (Or.inl rfl) (by decide +kernel) (by first | decide | omega) (by first | decide | omega) (by decide) (by decide) (fun z => absurd z (by decide)) ?_
        have j74 := jU (e := (1153 + 2 * u59)) (v := 2147483648) u59 j63 rg_76_1153_2_394 (by first | decide | omega) (by first | decide | omega) (by first | decide | omega)
        have f76 := jF (e := (1153 + 2 * u59)) (v := 2147483648) u59 f65 rg_76_1153_2_394 (by first | decide | omega) (by first | decide | omega) (by decide)
        generalize e75 : x_up h62 76 (1153 + 2 * u59) 2147483648 = h73 at j74 f76 ⊢
        refine x_aload (np := 35) (x := 0) (by decide +kernel) rfl (x_nc_le (by decide)) ?_
        refine x_dup (np := 36) (x := 0) (by decide +kernel) (by have z := x_nc_le (k := 75) (by decide); unfold x_r; omega) ?_
        have q77 : h73 75 13 = h62 75 13 := by rw [← e75]; exact x_up_k (by decide)
        have q78 : h62 75 13 = h39 75 13 := by rw [← e64]; exact x_up_k (by decide)
        have q79 : h39 75 13 = h23 75 13 := jK 0 f41 rg_75_13_0_1 (by first | decide | omega) (by first | decide | omega) (by decide)
        have q80 : h23 75 13 = h7 75 13 := jK 0 f25 rg_75_13_0_1 (by first | decide | omega) (by first | decide | omega) (by decide)
        have q81 : h7 75 13 = h 75 13 := jK 0 f9 rg_75_13_0_1 (by first | decide | omega) (by first | decide | omega) (by decide)
        refine x_getC (np := 39) (x := 717) (f := 13) (q := (h 75 13)) (by decide +kernel) (by decide) (by decide +kernel) ((((q77.trans q78).trans q79).trans q80).trans q81) (fun l82 => ?_)
        refine x_const (np := 40) (x := 9223372043297226753) (a := 2147483649) (by decide +kernel) (by decide) (by decide) ?_
        refine x_iadd (np := 41) (x := 0) (v := (1 + (h 75 13))) (by decide +kernel) l58 (by decide) (by first | decide | omega) (by first | decide | omega) ?_
        refine x_putI (np := 44) (x := 717) (f := 13) (by decide +kernel) (by decide +kernel) (by first | decide | omega) (Or.inl (by decide)) ?_
        have j84 := jU (e := 13) (v := (1 + (h 75 13))) 0 j74 rg_75_13_0_1 (by first | decide | omega) (by first | decide | omega) (by first | decide | omega)
        have f86 := jF (e := 13) (v := (1 + (h 75 13))) 0 f76 rg_75_13_0_1 (by first | decide | omega) (by first | decide | omega) (by decide)
        generalize e85 : x_up h73 75 13 (1 + (h 75 13)) = h83 at j84 f86 ⊢
        refine x_retV (np := 45) (x := 0) (by decide +kernel) (by decide +kernel) ⟨rfl, ?_⟩
        have q87 : h83 75 13 = (1 + (h 75 13)) := by rw [← e85]; exact x_up_at
        refine x_const (np := 151) (x := 9223372043297226753) (a := 2147483649) (by decide +kernel) (by decide) (by decide) ?_
        have q88 : h83 75 13 = (1 + (h 75 13)) := by rw [← e85]; exact x_up_at
        have q89 : h83 75 7 = h73 75 7 := by rw [← e85]; exact x_up_i (by first | decide | omega)
        have q90 : h73 75 7 = h62 75 7 := by rw [← e75]; exact x_up_k (by decide)
        have q91 : h62 75 7 = h39 75 7 := by rw [← e64]; exact x_up_k (by decide)
        have q92 : h83 75 10 = h73 75 10 := by rw [← e85]; exact x_up_i (by first | decide | omega)
        have q93 : h73 75 10 = h62 75 10 := by rw [← e75]; exact x_up_k (by decide)
        have q94 : h62 75 10 = h39 75 10 := by rw [← e64]; exact x_up_k (by decide)
        have q95 : h39 75 10 = h23 75 10 := jK 0 f41 rg_75_10_0_1 (by first | decide | omega) (by first | decide | omega) (by decide)
        have q96 : h23 75 10 = h7 75 10 := jK 0 f25 rg_75_10_0_1 (by first | decide | omega) (by first | decide | omega) (by decide)
        have q97 : h7 75 10 = h 75 10 := jK 0 f9 rg_75_10_0_1 (by first | decide | omega) (by first | decide | omega) (by decide)
        have q98 : h83 75 7 = h73 75 7 := by rw [← e85]; exact x_up_i (by first | decide | omega)
        have q99 : h73 75 7 = h62 75 7 := by rw [← e75]; exact x_up_k (by decide)
        have q100 : h62 75 7 = h39 75 7 := by rw [← e64]; exact x_up_k (by decide)
        have q101 : h83 75 13 = (1 + (h 75 13)) := by rw [← e85]; exact x_up_at
        have k107 : Kp h h7 (h 75 13 - 2147483648) := Kp.fr Kp.refl f9 (by first | decide | omega) (by decide)
        have k106 : Kp h h23 (h 75 13 - 2147483648) := Kp.fr k107 f25 (by first | decide | omega) (by decide)
        have k105 : Kp h h39 (h 75 13 - 2147483648) := Kp.fr k106 f41 (by first | decide | omega) (by decide)
        have k104 : Kp h h62 (h 75 13 - 2147483648) := by rw [← e64]; exact Kp.up k105 (by first | decide | omega) (fun i hi => by first | decide | omega)
        have k103 : Kp h h73 (h 75 13 - 2147483648) := by rw [← e75]; exact Kp.up k104 (by first | decide | omega) (fun i hi => by first | decide | omega)
        have k102 : Kp h h83 (h 75 13 - 2147483648) := by rw [← e85]; exact Kp.oth k103 (by decide)
        have q108 : h83 75 13 = (1 + (h 75 13)) := by rw [← e85]; exact x_up_at
        have q110 : h83 76 (1152 + 2 * u59) = h73 76 (1152 + 2 * u59) := by rw [← e85]; exact x_up_k (by decide)
        have q111 : h73 76 (1152 + 2 * u59) = h62 76 (1152 + 2 * u59) := by rw [← e75]; exact x_up_i (by first | decide | omega)
        have q112 : h62 76 (1152 + 2 * u59) = 2147483654 := by rw [← e64]; exact x_up_at
        have s109 : Seg (sg h83) u59 (u59 + 1) := Seg.push (show 2147483648 ≤ h83 76 (1152 + 2 * u59) by first | decide | omega) (show h83 76 (1152 + 2 * u59) ≤ 2147483656 by first | decide | omega)
        have s113 : Seg (sg h83) (h 75 13 - 2147483648) (h83 75 13 - 2147483648) := Seg.cast (Seg.kp s109 Kp.refl) (by first | decide | omega) (by first | decide | omega)
        obtain ⟨w114, e115⟩ := Tk.no c13 (by first | decide | omega)
        obtain ⟨w116, e117⟩ := Tk.no c29 (by first | decide | omega)
        obtain ⟨w118, e119⟩ := Tk.yes c45 (by first | decide | omega)
        have q120 : h83 75 7 = h73 75 7 := by rw [← e85]; exact x_up_i (by first | decide | omega)
        have q121 : h73 75 7 = h62 75 7 := by rw [← e75]; exact x_up_k (by decide)
        have q122 : h62 75 7 = h39 75 7 := by rw [← e64]; exact x_up_k (by decide)
        refine x_retI (np := 152) (x := 0) (by decide +kernel) (by decide) (Or.inr ⟨by decide +kernel, by first | decide | omega, by first | decide | omega⟩) ⟨_, rfl, (by decide), ?_⟩
        exact ⟨j84, f86, (by first | decide | omega), (fun z => by first | decide | omega), (fun z => by first | decide | omega), (fun z => by first | decide | omega), (fun z => by first | decide | omega), k102, (fun _ => s113), (gA_own w118 (Eq.trans e117 e115) e119 (by first | decide | omega) (congrArg (sk tB tN) (show h39 75 7 = h83 75 7 by first | decide | omega))), (fun z => absurd z (by first | decide | omega))⟩
      have q50 : ¬ (v35 ≠ 2147483648) := q50
      refine x_aload (np := 126) (x := 0) (by decide +kernel) rfl (x_nc_le (by decide)) ?_
      refine x_ldcB (i := 26) (idx := 252) (tx := "mine") (by rw [tb_y190]; exact List.mem_of_getElem? (i := 61) rfl) (by decide) (by rw [tb_b190]; decide +kernel) ?_
      have m126 := Tq.fr m38 f41 (by decide) (by decide)
      refine x_cI (t := 6) (mj := 171) (n := 2) (rc := 12) (ml := 2) (nr := 0) (np := 131) (as := [x_r 75, x_b (26 + 1)]) (rest := []) (lo1 := [x_r 75, x_b (26 + 1)]) (by decide +kernel) (by decide) (by decide +kernel) (x_rb_of (by decide +kernel)) rfl rfl (x_wr (by decide) (x_wB (by decide) x_wn)) x_wn (by decide) rfl (c171_75_S0 j40  (by decide) m126) (fun v123 h127 l124 q125 => ?_)
      obtain ⟨j128, f129, b130, c131, c132, c133, c134⟩ := q125
      have f135 := Fr.trans f47 f129 (by decide)
      have b136 := jB (e := 7) 0 j128 rg_75_7_0_1 (by first | decide | omega) (by first | decide | omega)
      refine x_ifz (k := 0) (tg := 152) (np := 134) (by decide +kernel) (by decide) l124 (fun q137 => ?_) (fun q138 => ?_)
      · have q137 : v123 = 2147483648 := q137
        refine x_aload (np := 153) (x := 0) (by decide +kernel) rfl (x_nc_le (by decide)) ?_
        have q139 : h127 75 13 = h39 75 13 := jK 0 f129 rg_75_13_0_1 (by first | decide | omega) (by first | decide | omega) (by decide)
        have q140 : h39 75 13 = h23 75 13 := jK 0 f41 rg_75_13_0_1 (by first | decide | omega) (by first | decide | omega) (by decide)
        have q141 : h23 75 13 = h7 75 13 := jK 0 f25 rg_75_13_0_1 (by first | decide | omega) (by first | decide | omega) (by decide)
        have q142 : h7 75 13 = h 75 13 := jK 0 f9 rg_75_13_0_1 (by first | decide | omega) (by first | decide | omega) (by decide)
        have m146 := Tq.fr m126 f129 (by decide) (by decide)
        refine x_cI (t := 6) (mj := 189) (n := 1) (rc := 12) (ml := 1) (nr := 0) (np := 156) (as := [x_r 75]) (rest := []) (lo1 := [x_r 75]) (by decide +kernel) (by decide) (by decide +kernel) (x_rb_of (by decide +kernel)) rfl rfl (x_wr (by decide) x_wn) x_wn (by decide) rfl (c189_75 j128  (by first | decide | omega) m146) (fun v143 h147 l144 q145 => ?_)
        obtain ⟨j148, f149, b150, c151, c152, c153, c154, c155, c156, c157⟩ := q145
        have f158 := Fr.trans f135 f149 (by decide)
        have q159 : h127 75 13 = h39 75 13 := jK 0 f129 rg_75_13_0_1 (by first | decide | omega) (by first | decide | omega) (by decide)
        have q160 : h39 75 13 = h23 75 13 := jK 0 f41 rg_75_13_0_1 (by first | decide | omega) (by first | decide | omega) (by decide)
        have q161 : h23 75 13 = h7 75 13 := jK 0 f25 rg_75_13_0_1 (by first | decide | omega) (by first | decide | omega) (by decide)
        have q162 : h7 75 13 = h 75 13 := jK 0 f9 rg_75_13_0_1 (by first | decide | omega) (by first | decide | omega) (by decide)
        have b163 := jB (e := 13) 0 j148 rg_75_13_0_1 (by first | decide | omega) (by first | decide | omega)
        have b164 := jB (e := 7) 0 j148 rg_75_7_0_1 (by first | decide | omega) (by first | decide | omega)
        have q165 : h127 75 13 = h39 75 13 := jK 0 f129 rg_75_13_0_1 (by first | decide | omega) (by first | decide | omega) (by decide)
        have q166 : h39 75 13 = h23 75 13 := jK 0 f41 rg_75_13_0_1 (by first | decide | omega) (by first | decide | omega) (by decide)
        have q167 : h23 75 13 = h7 75 13 := jK 0 f25 rg_75_13_0_1 (by first | decide | omega) (by first | decide | omega) (by decide)
        have q168 : h7 75 13 = h 75 13 := jK 0 f9 rg_75_13_0_1 (by first | decide | omega) (by first | decide | omega) (by decide)
        refine x_ifz (k := 1) (tg := 161) (np := 159) (by decide +kernel) (by decide) l144 (fun q169 => ?_) (fun q170 => ?_)
        · have q169 : v143 ≠ 2147483648 := q169
          have b171 := c151 (by first | decide | omega)
          have b172 := c152 (by first | decide | omega)
          have b173 := c153 (by first | decide | omega)
          have s174 := c155 (by first | decide | omega)
          have q175 : h127 75 13 = h39 75 13 := jK 0 f129 rg_75_13_0_1 (by first | decide | omega) (by first | decide | omega) (by decide)
          have q176 : h39 75 13 = h23 75 13 := jK 0 f41 rg_75_13_0_1 (by first | decide | omega) (by first | decide | omega) (by decide)
          have q177 : h23 75 13 = h7 75 13 := jK 0 f25 rg_75_13_0_1 (by first | decide | omega) (by first | decide | omega) (by decide)
          have q178 : h7 75 13 = h 75 13 := jK 0 f9 rg_75_13_0_1 (by first | decide | omega) (by first | decide | omega) (by decide)
          refine x_aload (np := 162) (x := 0) (by decide +kernel) rfl (x_nc_le (by decide)) ?_
          refine x_const (np := 164) (x := 9223372296700297276) (a := 2147483708) (by decide +kernel) (by decide) (by decide) ?_
          have m182 := Tq.fr m146 f149 (by decide) (by decide)
          refine x_cI (t := 6) (mj := 173) (n := 2) (rc := 12) (ml := 2) (nr := 0) (np := 167) (as := [x_r 75, iv_c 2147483708]) (rest := []) (lo1 := [x_r 75, iv_c 2147483708]) (by decide +kernel) (by decide) (by decide +kernel) (x_rb_of (by decide +kernel)) rfl rfl (x_wr (by decide) (x_wi (by decide) x_wn)) x_wn (by decide) rfl (c173_75 j148  (by first | decide | omega) m182) (fun v179 h183 l180 q181 => ?_)
          obtain ⟨j184, f185, b186, c187, c188, c189, c190⟩ := q181
          have f191 := Fr.trans f158 f185 (by decide)
          have b192 := jB (e := 7) 0 j184 rg_75_7_0_1 (by first | decide | omega) (by first | decide | omega)
          refine x_istore (np := 168) (x := 2) (lo' := [x_r 75, iv_c v35, iv_c v179]) (by decide +kernel) l180 (Nat.le_of_ble_eq_true rfl) rfl ?_
          refine x_iload (np := 169) (x := 2) (by decide +kernel) rfl l180 ?_
          refine x_ifz (k := 1) (tg := 181) (np := 172) (by decide +kernel) (by decide) l180 (fun q193 => ?_) (fun q194 => ?_)
          · have q193 : v179 ≠ 2147483648 := q193
            have b195 := c188 (by first | decide | omega)
            refine x_aload (np := 182) (x := 0) (by decide +kernel) rfl (x_nc_le (by decide)) ?_
            have q196 : h183 75 13 = h147 75 13 := jK 0 f185 rg_75_13_0_1 (by first | decide | omega) (by first | decide | omega) (by decide)
            have m200 := Tq.fr m182 f185 (by decide) (by decide)
            refine x_cI (t := 6) (mj := 189) (n := 1) (rc := 12) (ml := 1) (nr := 0) (np := 185) (as := [x_r 75]) (rest := []) (lo1 := [x_r 75]) (by decide +kernel) (by decide) (by decide +kernel) (x_rb_of (by decide +kernel)) rfl rfl (x_wr (by decide) x_wn) x_wn (by decide) rfl (c189_75 j184  (by first | decide | omega) m200) (fun v197 h201 l198 q199 => ?_)
            obtain ⟨j202, f203, b204, c205, c206, c207, c208, c209, c210, c211⟩ := q199
            have f212 := Fr.trans f191 f203 (by decide)
            have q213 : h183 75 13 = h147 75 13 := jK 0 f185 rg_75_13_0_1 (by first | decide | omega) (by first | decide | omega) (by decide)
            have b214 := jB (e := 13) 0 j202 rg_75_13_0_1 (by first | decide | omega) (by first | decide | omega)
            have b215 := jB (e := 7) 0 j202 rg_75_7_0_1 (by first | decide | omega) (by first | decide | omega)
            have q216 : h183 75 13 = h147 75 13 := jK 0 f185 rg_75_13_0_1 (by first | decide | omega) (by first | decide | omega) (by decide)
            refine x_ifz (k := 1) (tg := 190) (np := 188) (by decide +kernel) (by decide) l198 (fun q217 => ?_) (fun q218 => ?_)
            · have q217 : v197 ≠ 2147483648 := q217
              have b219 := c205 (by first | decide | omega)
              have b220 := c206 (by first | decide | omega)
              have b221 := c207 (by first | decide | omega)
              have s222 := c209 (by first | decide | omega)
              have q223 : h183 75 13 = h147 75 13 := jK 0 f185 rg_75_13_0_1 (by first | decide | omega) (by first | decide | omega) (by decide)
              refine x_aload (np := 191) (x := 0) (by decide +kernel) rfl (x_nc_le (by decide)) ?_
              refine x_iload (np := 192) (x := 2) (by decide +kernel) rfl l180 ?_
              refine x_ifz (k := 0) (tg := 200) (np := 195) (by decide +kernel) (by decide) l180 (fun q224 => ?_) (fun q225 => ?_)
              · have q224 : v179 = 2147483648 := q224
                exfalso; omega
              have q225 : ¬ (v179 = 2147483648) := q225
              refine x_const (np := 197) (x := 9223372081951932426) (a := 2147483658) (by decide +kernel) (by decide) (by decide) ?_
              refine x_goto (np := 200) (x := 202) (by decide +kernel) ?_
              refine x_const (np := 203) (x := 9223372039002259456) (a := 2147483648) (by decide +kernel) (by decide) (by decide) ?_
              refine x_nV (t := 6) (mj := 187) (n := 3) (rc := 12) (ml := 3) (nr := 0) (np := 206) (as := [x_r 75, iv_c 2147483658, iv_c 2147483648]) (rest := []) (lo1 := [x_r 75, iv_c 2147483658, iv_c 2147483648]) (by decide +kernel) (by decide) (by decide +kernel) (x_rb_of (by decide +kernel)) rfl rfl (x_wr (by decide) (x_wi (by decide) (x_wi (by decide) x_wn))) x_wn (by decide) rfl ?_
              refine x_aload (np := 1) (x := 0) (by decide +kernel) rfl (x_nc_le (by decide)) ?_
              have q226 : h201 75 1 = 76 := by have z := jB (e := 1) 0 j202 rg_75_1_0_1 (by decide) (by decide); omega
              refine x_getR (np := 4) (x := 705) (f := 1) (q := 76) (by decide +kernel) (by decide) (by decide +kernel) q226 ?_
              refine x_const (np := 7) (x := 9223376986804585600) (a := 2147484800) (by decide +kernel) (by decide) (by decide) ?_
              refine x_const (np := 8) (x := 9223372047592194050) (a := 2147483650) (by decide +kernel) (by decide) (by decide) ?_
              refine x_aload (np := 9) (x := 0) (by decide +kernel) rfl (x_nc_le (by decide)) ?_
              refine x_getC (np := 12) (x := 717) (f := 13) (q := (h201 75 13)) (by decide +kernel) (by decide) (by decide +kernel) rfl (fun l227 => ?_)
              obtain ⟨u228, q229⟩ : ∃ z, (h201 75 13) = 2147483648 + z := ⟨(h201 75 13) - 2147483648, by first | decide | omega⟩
              refine x_imul (np := 13) (x := 0) (i := 2) (j := u228) (v := (2147483648 + 2 * u228)) (by decide +kernel) (by first | decide | omega) (by first | decide | omega) (by first | decide | omega) (by first | decide | omega) (by decide) l227 ?_
              refine x_iadd (np := 14) (x := 0) (v := (2147484800 + 2 * u228)) (by decide +kernel) (by decide) (by first | decide | omega) (by first | decide | omega) (by first | decide | omega) ?_
              refine x_iload (np := 15) (x := 1) (by decide +kernel) rfl (by decide) ?_
              refine x_ast (np := 16) (x := 0) (kd := 1) (n := 1952) (i := (1152 + 2 * u228)) (by decide +kernel) (Or.inl rfl) (by decide +kernel) (by first | decide | omega) (by first | decide | omega) (by decide) (by decide) (fun z => absurd z (by decide)) ?_
              have j232 := jU (e := (1152 + 2 * u228)) (v := 2147483658) u228 j202 rg_76_1152_2_395 (by first | decide | omega) (by first | decide | omega) (by first | decide | omega)
              have f234 := jF (e := (1152 + 2 * u228)) (v := 2147483658) u228 f212 rg_76_1152_2_395 (by first | decide | omega) (by first | decide | omega) (by decide)
              generalize e233 : x_up h201 76 (1152 + 2 * u228) 2147483658 = h231 at j232 f234 ⊢
              refine x_aload (np := 17) (x := 0) (by decide +kernel) rfl (x_nc_le (by decide)) ?_
              have q235 : h231 75 1 = 76 := by have z := jB (e := 1) 0 j232 rg_75_1_0_1 (by decide) (by decide); omega
              refine x_getR (np := 20) (x := 705) (f := 1) (q := 76) (by decide +kernel) (by decide) (by decide +kernel) q235 ?_
              refine x_const (np := 23) (x := 9223376986804585600) (a := 2147484800) (by decide +kernel) (by decide) (by decide) ?_
              refine x_const (np := 24) (x := 9223372047592194050) (a := 2147483650) (by decide +kernel) (by decide) (by decide) ?_
              refine x_aload (np := 25) (x := 0) (by decide +kernel) rfl (x_nc_le (by decide)) ?_
              have q236 : h231 75 13 = h201 75 13 := by rw [← e233]; exact x_up_k (by decide)
              refine x_getC (np := 28) (x := 717) (f := 13) (q := (h201 75 13)) (by decide +kernel) (by decide) (by decide +kernel) q236 (fun l237 => ?_)
              refine x_imul (np := 29) (x := 0) (i := 2) (j := u228) (v := (2147483648 + 2 * u228)) (by decide +kernel) (by first | decide | omega) (by first | decide | omega) (by first | decide | omega) (by first | decide | omega) (by decide) l227 ?_
              refine x_iadd (np := 30) (x := 0) (v := (2147484800 + 2 * u228)) (by decide +kernel) (by decide) (by first | decide | omega) (by first | decide | omega) (by first | decide | omega) ?_
              refine x_const (np := 31) (x := 9223372043297226753) (a := 2147483649) (by decide +kernel) (by decide) (by decide) ?_
              refine x_iadd (np := 32) (x := 0) (v := (2147484801 + 2 * u228)) (by decide +kernel) (by first | decide | omega) (by decide) (by first | decide | omega) (by first | decide | omega) ?_
              refine x_iload (np := 33) (x := 2) (by decide +kernel) rfl (by decide) ?_
              refine x_ast (np := 34) (x := 0) (kd := 1) (n := 1952) (i := (1153 + 2 * u228)) (by decide +kernel) (Or.inl rfl) (by decide +kernel) (by first | decide | omega) (by first | decide | omega) (by decide) (by decide) (fun z => absurd z (by decide)) ?_
              have j240 := jU (e := (1153 + 2 * u228)) (v := 2147483648) u228 j232 rg_76_1153_2_395 (by first | decide | omega) (by first | decide | omega) (by first | decide | omega)
              have f242 := jF (e := (1153 + 2 * u228)) (v := 2147483648) u228 f234 rg_76_1153_2_395 (by first | decide | omega) (by first | decide | omega) (by decide)
              generalize e241 : x_up h231 76 (1153 + 2 * u228) 2147483648 = h239 at j240 f242 ⊢
              refine x_aload (np := 35) (x := 0) (by decide +kernel) rfl (x_nc_le (by decide)) ?_
              refine x_dup (np := 36) (x := 0) (by decide +kernel) (by have z := x_nc_le (k := 75) (by decide); unfold x_r; omega) ?_
              have q243 : h239 75 13 = h231 75 13 := by rw [← e241]; exact x_up_k (by decide)
              have q244 : h231 75 13 = h201 75 13 := by rw [← e233]; exact x_up_k (by decide)
              refine x_getC (np := 39) (x := 717) (f := 13) (q := (h201 75 13)) (by decide +kernel) (by decide) (by decide +kernel) (q243.trans q244) (fun l245 => ?_)
              refine x_const (np := 40) (x := 9223372043297226753) (a := 2147483649) (by decide +kernel) (by decide) (by decide) ?_
              refine x_iadd (np := 41) (x := 0) (v := (1 + (h201 75 13))) (by decide +kernel) l227 (by decide) (by first | decide | omega) (by first | decide | omega) ?_
              refine x_putI (np := 44) (x := 717) (f := 13) (by decide +kernel) (by decide +kernel) (by first | decide | omega) (Or.inl (by decide)) ?_
              have j247 := jU (e := 13) (v := (1 + (h201 75 13))) 0 j240 rg_75_13_0_1 (by first | decide | omega) (by first | decide | omega) (by first | decide | omega)
              have f249 := jF (e := 13) (v := (1 + (h201 75 13))) 0 f242 rg_75_13_0_1 (by first | decide | omega) (by first | decide | omega) (by decide)
              generalize e248 : x_up h239 75 13 (1 + (h201 75 13)) = h246 at j247 f249 ⊢
              refine x_retV (np := 45) (x := 0) (by decide +kernel) (by decide +kernel) ⟨rfl, ?_⟩
              have q250 : h246 75 13 = (1 + (h201 75 13)) := by rw [← e248]; exact x_up_at
              refine x_const (np := 207) (x := 9223372043297226753) (a := 2147483649) (by decide +kernel) (by decide) (by decide) ?_
              have q251 : h246 75 13 = (1 + (h201 75 13)) := by rw [← e248]; exact x_up_at
              have q252 : h246 75 7 = h239 75 7 := by rw [← e248]; exact x_up_i (by first | decide | omega)
              have q253 : h239 75 7 = h231 75 7 := by rw [← e241]; exact x_up_k (by decide)
              have q254 : h231 75 7 = h201 75 7 := by rw [← e233]; exact x_up_k (by decide)
              have q255 : h246 75 10 = h239 75 10 := by rw [← e248]; exact x_up_i (by first | decide | omega)
              have q256 : h239 75 10 = h231 75 10 := by rw [← e241]; exact x_up_k (by decide)
              have q257 : h231 75 10 = h201 75 10 := by rw [← e233]; exact x_up_k (by decide)
              have q258 : h201 75 10 = h183 75 10 := jK 0 f203 rg_75_10_0_1 (by first | decide | omega) (by first | decide | omega) (by decide)
              have q259 : h183 75 10 = h147 75 10 := jK 0 f185 rg_75_10_0_1 (by first | decide | omega) (by first | decide | omega) (by decide)
              have q260 : h147 75 10 = h127 75 10 := jK 0 f149 rg_75_10_0_1 (by first | decide | omega) (by first | decide | omega) (by decide)
              have q261 : h127 75 10 = h39 75 10 := jK 0 f129 rg_75_10_0_1 (by first | decide | omega) (by first | decide | omega) (by decide)
              have q262 : h39 75 10 = h23 75 10 := jK 0 f41 rg_75_10_0_1 (by first | decide | omega) (by first | decide | omega) (by decide)
              have q263 : h23 75 10 = h7 75 10 := jK 0 f25 rg_75_10_0_1 (by first | decide | omega) (by first | decide | omega) (by decide)
              have q264 : h7 75 10 = h 75 10 := jK 0 f9 rg_75_10_0_1 (by first | decide | omega) (by first | decide | omega) (by decide)
              have q265 : h246 75 7 = h239 75 7 := by rw [← e248]; exact x_up_i (by first | decide | omega)
              have q266 : h239 75 7 = h231 75 7 := by rw [← e241]; exact x_up_k (by decide)
              have q267 : h231 75 7 = h201 75 7 := by rw [← e233]; exact x_up_k (by decide)
              have q268 : h246 75 13 = (1 + (h201 75 13)) := by rw [← e248]; exact x_up_at
              have k278 : Kp h h7 (h 75 13 - 2147483648) := Kp.fr Kp.refl f9 (by first | decide | omega) (by decide)
              have k277 : Kp h h23 (h 75 13 - 2147483648) := Kp.fr k278 f25 (by first | decide | omega) (by decide)
              have k276 : Kp h h39 (h 75 13 - 2147483648) := Kp.fr k277 f41 (by first | decide | omega) (by decide)
              have k275 : Kp h h127 (h 75 13 - 2147483648) := Kp.fr k276 f129 (by first | decide | omega) (by decide)
              have q279 : h127 75 13 = h39 75 13 := jK 0 f129 rg_75_13_0_1 (by first | decide | omega) (by first | decide | omega) (by decide)
              have q280 : h39 75 13 = h23 75 13 := jK 0 f41 rg_75_13_0_1 (by first | decide | omega) (by first | decide | omega) (by decide)
              have q281 : h23 75 13 = h7 75 13 := jK 0 f25 rg_75_13_0_1 (by first | decide | omega) (by first | decide | omega) (by decide)
              have q282 : h7 75 13 = h 75 13 := jK 0 f9 rg_75_13_0_1 (by first | decide | omega) (by first | decide | omega) (by decide)
              have k274 : Kp h h147 (h 75 13 - 2147483648) := Kp.trans k275 c154 (by first | decide | omega)
              have k273 : Kp h h183 (h 75 13 - 2147483648) := Kp.fr k274 f185 (by first | decide | omega) (by decide)
              have q283 : h183 75 13 = h147 75 13 := jK 0 f185 rg_75_13_0_1 (by first | decide | omega) (by first | decide | omega) (by decide)
              have k272 : Kp h h201 (h 75 13 - 2147483648) := Kp.trans k273 c208 (by first | decide | omega)
              have k271 : Kp h h231 (h 75 13 - 2147483648) := by rw [← e233]; exact Kp.up k272 (by first | decide | omega) (fun i hi => by first | decide | omega)
              have k270 : Kp h h239 (h 75 13 - 2147483648) := by rw [← e241]; exact Kp.up k271 (by first | decide | omega) (fun i hi => by first | decide | omega)
              have k269 : Kp h h246 (h 75 13 - 2147483648) := by rw [← e248]; exact Kp.oth k270 (by decide)
              have q284 : h246 75 13 = (1 + (h201 75 13)) := by rw [← e248]; exact x_up_at
              have q286 : h246 76 (1152 + 2 * u228) = h239 76 (1152 + 2 * u228) := by rw [← e248]; exact x_up_k (by decide)
              have q287 : h239 76 (1152 + 2 * u228) = h231 76 (1152 + 2 * u228) := by rw [← e241]; exact x_up_i (by first | decide | omega)
              have q288 : h231 76 (1152 + 2 * u228) = 2147483658 := by rw [← e233]; exact x_up_at
              have k293 : Kp h147 h183 (h147 75 13 - 2147483648) := Kp.fr Kp.refl f185 (by first | decide | omega) (by decide)
              have q294 : h183 75 13 = h147 75 13 := jK 0 f185 rg_75_13_0_1 (by first | decide | omega) (by first | decide | omega) (by decide)
              have k292 : Kp h147 h201 (h147 75 13 - 2147483648) := Kp.trans k293 c208 (by first | decide | omega)
              have k291 : Kp h147 h231 (h147 75 13 - 2147483648) := by rw [← e233]; exact Kp.up k292 (by first | decide | omega) (fun i hi => by first | decide | omega)
              have k290 : Kp h147 h239 (h147 75 13 - 2147483648) := by rw [← e241]; exact Kp.up k291 (by first | decide | omega) (fun i hi => by first | decide | omega)
              have k289 : Kp h147 h246 (h147 75 13 - 2147483648) := by rw [← e248]; exact Kp.oth k290 (by decide)
              have k297 : Kp h201 h231 (h201 75 13 - 2147483648) := by rw [← e233]; exact Kp.up Kp.refl (by first | decide | omega) (fun i hi => by first | decide | omega)
              have k296 : Kp h201 h239 (h201 75 13 - 2147483648) := by rw [← e241]; exact Kp.up k297 (by first | decide | omega) (fun i hi => by first | decide | omega)
              have k295 : Kp h201 h246 (h201 75 13 - 2147483648) := by rw [← e248]; exact Kp.oth k296 (by decide)
              have s285 : Seg (sg h246) (h127 75 13 - 2147483648) (u228 + 1) := Seg.bin (Seg.kp s174 k289) (Seg.cast (a' := (h147 75 13 - 2147483648)) (b' := u228) (Seg.kp s222 k295) (by first | decide | omega) (by first | decide | omega)) (show 2147483656 < h246 76 (1152 + 2 * u228) by first | decide | omega) (show h246 76 (1152 + 2 * u228) ≠ 2147483660 by first | decide | omega)
              have s298 : Seg (sg h246) (h 75 13 - 2147483648) (h246 75 13 - 2147483648) := Seg.cast (Seg.kp s285 Kp.refl) (by first | decide | omega) (by first | decide | omega)
              obtain ⟨w299, e300⟩ := Tk.no c13 (by first | decide | omega)
              obtain ⟨w301, e302⟩ := Tk.no c29 (by first | decide | omega)
              obtain ⟨w303, e304⟩ := Tk.no c45 (by first | decide | omega)
              obtain ⟨w305, e306⟩ := Tk.no c133 (by first | decide | omega)
              have w307 : An tB tN (sk tB tN (h 75 7)) := gA_an w301 e300 w299 rfl w303 (Eq.trans e302 e300) w305 (Eq.trans e304 (Eq.trans e302 e300))
              obtain ⟨w308, e309⟩ := Tk.yes c189 (by first | decide | omega)
              have q310 : h246 75 7 = h239 75 7 := by rw [← e248]; exact x_up_i (by first | decide | omega)
              have q311 : h239 75 7 = h231 75 7 := by rw [← e241]; exact x_up_k (by decide)
              have q312 : h231 75 7 = h201 75 7 := by rw [← e233]; exact x_up_k (by decide)
              refine x_retI (np := 208) (x := 0) (by decide +kernel) (by decide) (Or.inr ⟨by decide +kernel, by first | decide | omega, by first | decide | omega⟩) ⟨_, rfl, (by decide), ?_⟩
              exact ⟨j247, f249, (by first | decide | omega), (fun z => by first | decide | omega), (fun z => by first | decide | omega), (fun z => by first | decide | omega), (fun z => by first | decide | omega), k269, (fun _ => s298), (gA_c2 w307 (c156 5) (Eq.trans e306 (Eq.trans e304 (Eq.trans e302 e300))) (by first | decide | omega) (Or.inl w308) rfl e309 (c210 5) rfl (by first | decide | omega) (fun z => (congrArg (sk tB tN) (show h201 75 7 = h246 75 7 by first | decide | omega)))), (fun z => absurd z (by first | decide | omega))⟩
            have q218 : ¬ (v197 ≠ 2147483648) := q218
            refine x_const (np := 189) (x := 9223372039002259456) (a := 2147483648) (by decide +kernel) (by decide) (by decide) ?_
            have q313 : h201 75 10 = h183 75 10 := jK 0 f203 rg_75_10_0_1 (by first | decide | omega) (by first | decide | omega) (by decide)
            have q314 : h183 75 10 = h147 75 10 := jK 0 f185 rg_75_10_0_1 (by first | decide | omega) (by first | decide | omega) (by decide)
            have q315 : h147 75 10 = h127 75 10 := jK 0 f149 rg_75_10_0_1 (by first | decide | omega) (by first | decide | omega) (by decide)
            have q316 : h127 75 10 = h39 75 10 := jK 0 f129 rg_75_10_0_1 (by first | decide | omega) (by first | decide | omega) (by decide)
            have q317 : h39 75 10 = h23 75 10 := jK 0 f41 rg_75_10_0_1 (by first | decide | omega) (by first | decide | omega) (by decide)
            have q318 : h23 75 10 = h7 75 10 := jK 0 f25 rg_75_10_0_1 (by first | decide | omega) (by first | decide | omega) (by decide)
            have q319 : h7 75 10 = h 75 10 := jK 0 f9 rg_75_10_0_1 (by first | decide | omega) (by first | decide | omega) (by decide)
            have k326 : Kp h h7 (h 75 13 - 2147483648) := Kp.fr Kp.refl f9 (by first | decide | omega) (by decide)
            have k325 : Kp h h23 (h 75 13 - 2147483648) := Kp.fr k326 f25 (by first | decide | omega) (by decide)
            have k324 : Kp h h39 (h 75 13 - 2147483648) := Kp.fr k325 f41 (by first | decide | omega) (by decide)
            have k323 : Kp h h127 (h 75 13 - 2147483648) := Kp.fr k324 f129 (by first | decide | omega) (by decide)
            have q327 : h127 75 13 = h39 75 13 := jK 0 f129 rg_75_13_0_1 (by first | decide | omega) (by first | decide | omega) (by decide)
            have q328 : h39 75 13 = h23 75 13 := jK 0 f41 rg_75_13_0_1 (by first | decide | omega) (by first | decide | omega) (by decide)
            have q329 : h23 75 13 = h7 75 13 := jK 0 f25 rg_75_13_0_1 (by first | decide | omega) (by first | decide | omega) (by decide)
            have q330 : h7 75 13 = h 75 13 := jK 0 f9 rg_75_13_0_1 (by first | decide | omega) (by first | decide | omega) (by decide)
            have k322 : Kp h h147 (h 75 13 - 2147483648) := Kp.trans k323 c154 (by first | decide | omega)
            have k321 : Kp h h183 (h 75 13 - 2147483648) := Kp.fr k322 f185 (by first | decide | omega) (by decide)
            have q331 : h183 75 13 = h147 75 13 := jK 0 f185 rg_75_13_0_1 (by first | decide | omega) (by first | decide | omega) (by decide)
            have k320 : Kp h h201 (h 75 13 - 2147483648) := Kp.trans k321 c208 (by first | decide | omega)
            obtain ⟨w332, e333⟩ := Tk.no c13 (by first | decide | omega)
            obtain ⟨w334, e335⟩ := Tk.no c29 (by first | decide | omega)
            obtain ⟨w336, e337⟩ := Tk.no c45 (by first | decide | omega)
            obtain ⟨w338, e339⟩ := Tk.no c133 (by first | decide | omega)
            have w340 : An tB tN (sk tB tN (h 75 7)) := gA_an w334 e333 w332 rfl w336 (Eq.trans e335 e333) w338 (Eq.trans e337 (Eq.trans e335 e333))
            obtain ⟨w341, e342⟩ := Tk.yes c189 (by first | decide | omega)
            obtain ⟨w343, e344⟩ := Tk.no c13 (by first | decide | omega)
            obtain ⟨w345, e346⟩ := Tk.no c29 (by first | decide | omega)
            obtain ⟨w347, e348⟩ := Tk.no c45 (by first | decide | omega)
            obtain ⟨w349, e350⟩ := Tk.no c133 (by first | decide | omega)
            have w351 : An tB tN (sk tB tN (h 75 7)) := gA_an w345 e344 w343 rfl w347 (Eq.trans e346 e344) w349 (Eq.trans e348 (Eq.trans e346 e344))
            obtain ⟨w352, e353⟩ := Tk.yes c189 (by first | decide | omega)
            refine x_retI (np := 190) (x := 0) (by decide +kernel) (by decide) (Or.inr ⟨by decide +kernel, by first | decide | omega, by first | decide | omega⟩) ⟨_, rfl, (by decide), ?_⟩
            exact ⟨j202, f212, (by first | decide | omega), (fun z => by first | decide | omega), (fun z => by first | decide | omega), (fun z => by first | decide | omega), (fun z => by first | decide | omega), k320, (fun z => absurd z (by first | decide | omega)), (gA_c2 w340 (c156 5) (Eq.trans e339 (Eq.trans e337 (Eq.trans e335 e333))) (by first | decide | omega) (Or.inl w341) rfl e342 (c210 5) rfl (by first | decide | omega) (fun z => absurd z (by first | decide | omega))), (fun _ => fA_c2 w351 (c156 5) (Eq.trans e350 (Eq.trans e348 (Eq.trans e346 e344))) (by first | decide | omega) (Or.inl w352) rfl e353 (c211 (by first | decide | omega) 5) rfl rfl)⟩
          have q194 : ¬ (v179 ≠ 2147483648) := q194
          refine x_aload (np := 173) (x := 0) (by decide +kernel) rfl (x_nc_le (by decide)) ?_
          refine x_const (np := 175) (x := 9223372305290231870) (a := 2147483710) (by decide +kernel) (by decide) (by decide) ?_
          have m357 := Tq.fr m182 f185 (by decide) (by decide)
          refine x_cI (t := 6) (mj := 173) (n := 2) (rc := 12) (ml := 2) (nr := 0) (np := 178) (as := [x_r 75, iv_c 2147483710]) (rest := []) (lo1 := [x_r 75, iv_c 2147483710]) (by decide +kernel) (by decide) (by decide +kernel) (x_rb_of (by decide +kernel)) rfl rfl (x_wr (by decide) (x_wi (by decide) x_wn)) x_wn (by decide) rfl (c173_75 j184  (by first | decide | omega) m357) (fun v354 h358 l355 q356 => ?_)
          obtain ⟨j359, f360, b361, c362, c363, c364, c365⟩ := q356
          have f366 := Fr.trans f191 f360 (by decide)
          have b367 := jB (e := 7) 0 j359 rg_75_7_0_1 (by first | decide | omega) (by first | decide | omega)
          refine x_ifz (k := 0) (tg := 188) (np := 181) (by decide +kernel) (by decide) l355 (fun q368 => ?_) (fun q369 => ?_)
          · have q368 : v354 = 2147483648 := q368
            refine x_const (np := 189) (x := 9223372039002259456) (a := 2147483648) (by decide +kernel) (by decide) (by decide) ?_
            have q370 : h358 75 13 = h183 75 13 := jK 0 f360 rg_75_13_0_1 (by first | decide | omega) (by first | decide | omega) (by decide)
            have q371 : h183 75 13 = h147 75 13 := jK 0 f185 rg_75_13_0_1 (by first | decide | omega) (by first | decide | omega) (by decide)
            have q372 : h358 75 10 = h183 75 10 := jK 0 f360 rg_75_10_0_1 (by first | decide | omega) (by first | decide | omega) (by decide)
            have q373 : h183 75 10 = h147 75 10 := jK 0 f185 rg_75_10_0_1 (by first | decide | omega) (by first | decide | omega) (by decide)
            have q374 : h147 75 10 = h127 75 10 := jK 0 f149 rg_75_10_0_1 (by first | decide | omega) (by first | decide | omega) (by decide)
            have q375 : h127 75 10 = h39 75 10 := jK 0 f129 rg_75_10_0_1 (by first | decide | omega) (by first | decide | omega) (by decide)
            have q376 : h39 75 10 = h23 75 10 := jK 0 f41 rg_75_10_0_1 (by first | decide | omega) (by first | decide | omega) (by decide)
            have q377 : h23 75 10 = h7 75 10 := jK 0 f25 rg_75_10_0_1 (by first | decide | omega) (by first | decide | omega) (by decide)
            have q378 : h7 75 10 = h 75 10 := jK 0 f9 rg_75_10_0_1 (by first | decide | omega) (by first | decide | omega) (by decide)
            have q379 : h358 75 13 = h183 75 13 := jK 0 f360 rg_75_13_0_1 (by first | decide | omega) (by first | decide | omega) (by decide)
            have q380 : h183 75 13 = h147 75 13 := jK 0 f185 rg_75_13_0_1 (by first | decide | omega) (by first | decide | omega) (by decide)
            have k387 : Kp h h7 (h 75 13 - 2147483648) := Kp.fr Kp.refl f9 (by first | decide | omega) (by decide)
            have k386 : Kp h h23 (h 75 13 - 2147483648) := Kp.fr k387 f25 (by first | decide | omega) (by decide)
            have k385 : Kp h h39 (h 75 13 - 2147483648) := Kp.fr k386 f41 (by first | decide | omega) (by decide)
            have k384 : Kp h h127 (h 75 13 - 2147483648) := Kp.fr k385 f129 (by first | decide | omega) (by decide)
            have q388 : h127 75 13 = h39 75 13 := jK 0 f129 rg_75_13_0_1 (by first | decide | omega) (by first | decide | omega) (by decide)
            have q389 : h39 75 13 = h23 75 13 := jK 0 f41 rg_75_13_0_1 (by first | decide | omega) (by first | decide | omega) (by decide)
            have q390 : h23 75 13 = h7 75 13 := jK 0 f25 rg_75_13_0_1 (by first | decide | omega) (by first | decide | omega) (by decide)
            have q391 : h7 75 13 = h 75 13 := jK 0 f9 rg_75_13_0_1 (by first | decide | omega) (by first | decide | omega) (by decide)
            have k383 : Kp h h147 (h 75 13 - 2147483648) := Kp.trans k384 c154 (by first | decide | omega)
            have k382 : Kp h h183 (h 75 13 - 2147483648) := Kp.fr k383 f185 (by first | decide | omega) (by decide)
            have k381 : Kp h h358 (h 75 13 - 2147483648) := Kp.fr k382 f360 (by first | decide | omega) (by decide)
            obtain ⟨w392, e393⟩ := Tk.no c13 (by first | decide | omega)
            obtain ⟨w394, e395⟩ := Tk.no c29 (by first | decide | omega)
            obtain ⟨w396, e397⟩ := Tk.no c45 (by first | decide | omega)
            obtain ⟨w398, e399⟩ := Tk.no c133 (by first | decide | omega)
            have w400 : An tB tN (sk tB tN (h 75 7)) := gA_an w394 e393 w392 rfl w396 (Eq.trans e395 e393) w398 (Eq.trans e397 (Eq.trans e395 e393))
            obtain ⟨w401, e402⟩ := Tk.no c189 (by first | decide | omega)
            obtain ⟨w403, e404⟩ := Tk.no c364 (by first | decide | omega)
            obtain ⟨w405, e406⟩ := Tk.no c13 (by first | decide | omega)
            obtain ⟨w407, e408⟩ := Tk.no c29 (by first | decide | omega)
            obtain ⟨w409, e410⟩ := Tk.no c45 (by first | decide | omega)
            obtain ⟨w411, e412⟩ := Tk.no c133 (by first | decide | omega)
            have w413 : An tB tN (sk tB tN (h 75 7)) := gA_an w407 e406 w405 rfl w409 (Eq.trans e408 e406) w411 (Eq.trans e410 (Eq.trans e408 e406))
            obtain ⟨w414, e415⟩ := Tk.no c189 (by first | decide | omega)
            obtain ⟨w416, e417⟩ := Tk.no c364 (by first | decide | omega)
            refine x_retI (np := 190) (x := 0) (by decide +kernel) (by decide) (Or.inr ⟨by decide +kernel, by first | decide | omega, by first | decide | omega⟩) ⟨_, rfl, (by decide), ?_⟩
            exact ⟨j359, f366, (by first | decide | omega), (fun z => by first | decide | omega), (fun z => by first | decide | omega), (fun z => by first | decide | omega), (fun z => by first | decide | omega), k381, (fun z => absurd z (by first | decide | omega)), (gA_c1 w400 (c156 5) (Eq.trans e399 (Eq.trans e397 (Eq.trans e395 e393))) (by first | decide | omega) w401 rfl w403 (Eq.trans rfl (Eq.trans e402 rfl)) (by first | decide | omega)), (fun _ => fA_c1 w413 (c156 5) (Eq.trans e412 (Eq.trans e410 (Eq.trans e408 e406))) (by first | decide | omega) w414 rfl w416 (Eq.trans rfl (Eq.trans e415 rfl)) c365)⟩
          have q369 : ¬ (v354 = 2147483648) := q369
          have b418 := c363 (by first | decide | omega)
          refine x_aload (np := 182) (x := 0) (by decide +kernel) rfl (x_nc_le (by decide)) ?_
          have q419 : h358 75 13 = h183 75 13 := jK 0 f360 rg_75_13_0_1 (by first | decide | omega) (by first | decide | omega) (by decide)
          have q420 : h183 75 13 = h147 75 13 := jK 0 f185 rg_75_13_0_1 (by first | decide | omega) (by first | decide | omega) (by decide)
          have m424 := Tq.fr m357 f360 (by decide) (by decide)
          refine x_cI (t := 6) (mj := 189) (n := 1) (rc := 12) (ml := 1) (nr := 0) (np := 185) (as := [x_r 75]) (rest := []) (lo1 := [x_r 75]) (by decide +kernel) (by decide) (by decide +kernel) (x_rb_of (by decide +kernel)) rfl rfl (x_wr (by decide) x_wn) x_wn (by decide) rfl (c189_75 j359  (by first | decide | omega) m424) (fun v421 h425 l422 q423 => ?_)
          obtain ⟨j426, f427, b428, c429, c430, c431, c432, c433, c434, c435⟩ := q423
          have f436 := Fr.trans f366 f427 (by decide)
          have q437 : h358 75 13 = h183 75 13 := jK 0 f360 rg_75_13_0_1 (by first | decide | omega) (by first | decide | omega) (by decide)
          have q438 : h183 75 13 = h147 75 13 := jK 0 f185 rg_75_13_0_1 (by first | decide | omega) (by first | decide | omega) (by decide)
          have b439 := jB (e := 13) 0 j426 rg_75_13_0_1 (by first | decide | omega) (by first | decide | omega)
          have b440 := jB (e := 7) 0 j426 rg_75_7_0_1 (by first | decide | omega) (by first | decide | omega)
          have q441 : h358 75 13 = h183 75 13 := jK 0 f360 rg_75_13_0_1 (by first | decide | omega) (by first | decide | omega) (by decide)
          have q442 : h183 75 13 = h147 75 13 := jK 0 f185 rg_75_13_0_1 (by first | decide | omega) (by first | decide | omega) (by decide)
          refine x_ifz (k := 1) (tg := 190) (np := 188) (by decide +kernel) (by decide) l422 (fun q443 => ?_) (fun q444 => ?_)
          · have q443 : v421 ≠ 2147483648 := q443
            have b445 := c429 (by first | decide | omega)
            have b446 := c430 (by first | decide | omega)
            have b447 := c431 (by first | decide | omega)
            have s448 := c433 (by first | decide | omega)
            have q449 : h358 75 13 = h183 75 13 := jK 0 f360 rg_75_13_0_1 (by first | decide | omega) (by first | decide | omega) (by decide)
            have q450 : h183 75 13 = h147 75 13 := jK 0 f185 rg_75_13_0_1 (by first | decide | omega) (by first | decide | omega) (by decide)
            refine x_aload (np := 191) (x := 0) (by decide +kernel) rfl (x_nc_le (by decide)) ?_
            refine x_iload (np := 192) (x := 2) (by decide +kernel) rfl l180 ?_
            refine x_ifz (k := 0) (tg := 200) (np := 195) (by decide +kernel) (by decide) l180 (fun q451 => ?_) (fun q452 => ?_)
            · have q451 : v179 = 2147483648 := q451
              refine x_const (np := 202) (x := 9223372086246899723) (a := 2147483659) (by decide +kernel) (by decide) (by decide) ?_
              refine x_const (np := 203) (x := 9223372039002259456) (a := 2147483648) (by decide +kernel) (by decide) (by decide) ?_
              refine x_nV (t := 6) (mj := 187) (n := 3) (rc := 12) (ml := 3) (nr := 0) (np := 206) (as := [x_r 75, iv_c 2147483659, iv_c 2147483648]) (rest := []) (lo1 := [x_r 75, iv_c 2147483659, iv_c 2147483648]) (by decide +kernel) (by decide) (by decide +kernel) (x_rb_of (by decide +kernel)) rfl rfl (x_wr (by decide) (x_wi (by decide) (x_wi (by decide) x_wn))) x_wn (by decide) rfl ?_
              refine x_aload (np := 1) (x := 0) (by decide +kernel) rfl (x_nc_le (by decide)) ?_
              have q453 : h425 75 1 = 76 := by have z := jB (e := 1) 0 j426 rg_75_1_0_1 (by decide) (by decide); omega
              refine x_getR (np := 4) (x := 705) (f := 1) (q := 76) (by decide +kernel) (by decide) (by decide +kernel) q453 ?_
              refine x_const (np := 7) (x := 9223376986804585600) (a := 2147484800) (by decide +kernel) (by decide) (by decide) ?_
              refine x_const (np := 8) (x := 9223372047592194050) (a := 2147483650) (by decide +kernel) (by decide) (by decide) ?_
              refine x_aload (np := 9) (x := 0) (by decide +kernel) rfl (x_nc_le (by decide)) ?_
              refine x_getC (np := 12) (x := 717) (f := 13) (q := (h425 75 13)) (by decide +kernel) (by decide) (by decide +kernel) rfl (fun l454 => ?_)
              obtain ⟨u455, q456⟩ : ∃ z, (h425 75 13) = 2147483648 + z := ⟨(h425 75 13) - 2147483648, by first | decide | omega⟩
              refine x_imul (np := 13) (x := 0) (i := 2) (j := u455) (v := (2147483648 + 2 * u455)) (by decide +kernel) (by first | decide | omega) (by first | decide | omega) (by first | decide | omega) (by first | decide | omega) (by decide) l454 ?_
              refine x_iadd (np := 14) (x := 0) (v := (2147484800 + 2 * u455)) (by decide +kernel) (by decide) (by first | decide | omega) (by first | decide | omega) (by first | decide | omega) ?_
              refine x_iload (np := 15) (x := 1) (by decide +kernel) rfl (by decide) ?_
              refine x_ast (np := 16) (x := 0) (kd := 1) (n := 1952) (i := (1152 + 2 * u455)) (by decide +kernel) (Or.inl rfl) (by decide +kernel) (by first | decide | omega) (by first | decide | omega) (by decide) (by decide) (fun z => absurd z (by decide)) ?_
              have j459 := jU (e := (1152 + 2 * u455)) (v := 2147483659) u455 j426 rg_76_1152_2_395 (by first | decide | omega) (by first | decide | omega) (by first | decide | omega)
              have f461 := jF (e := (1152 + 2 * u455)) (v := 2147483659) u455 f436 rg_76_1152_2_395 (by first | decide | omega) (by first | decide | omega) (by decide)
              generalize e460 : x_up h425 76 (1152 + 2 * u455) 2147483659 = h458 at j459 f461 ⊢
              refine x_aload (np := 17) (x := 0) (by decide +kernel) rfl (x_nc_le (by decide)) ?_
              have q462 : h458 75 1 = 76 := by have z := jB (e := 1) 0 j459 rg_75_1_0_1 (by decide) (by decide); omega
              refine x_getR (np := 20) (x := 705) (f := 1) (q := 76) (by decide +kernel) (by decide) (by decide +kernel) q462 ?_
              refine x_const (np := 23) (x := 9223376986804585600) (a := 2147484800) (by decide +kernel) (by decide) (by decide) ?_
              refine x_const (np := 24) (x := 9223372047592194050) (a := 2147483650) (by decide +kernel) (by decide) (by decide) ?_
              refine x_aload (np := 25) (x := 0) (by decide +kernel) rfl (x_nc_le (by decide)) ?_
              have q463 : h458 75 13 = h425 75 13 := by rw [← e460]; exact x_up_k (by decide)
              refine x_getC (np := 28) (x := 717) (f := 13) (q := (h425 75 13)) (by decide +kernel) (by decide) (by decide +kernel) q463 (fun l464 => ?_)
              refine x_imul (np := 29) (x := 0) (i := 2) (j := u455) (v := (2147483648 + 2 * u455)) (by decide +kernel) (by first | decide | omega) (by first | decide | omega) (by first | decide | omega) (by first | decide | omega) (by decide) l454 ?_
              refine x_iadd (np := 30) (x := 0) (v := (2147484800 + 2 * u455)) (by decide +kernel) (by decide) (by first | decide | omega) (by first | decide | omega) (by first | decide | omega) ?_
              refine x_const (np := 31) (x := 9223372043297226753) (a := 2147483649) (by decide +kernel) (by decide) (by decide) ?_
              refine x_iadd (np := 32) (x := 0) (v := (2147484801 + 2 * u455)) (by decide +kernel) (by first | decide | omega) (by decide) (by first | decide | omega) (by first | decide | omega) ?_
              refine x_iload (np := 33) (x := 2) (by decide +kernel) rfl (by decide) ?_
              refine x_ast (np := 34) (x := 0) (kd := 1) (n := 1952) (i := (1153 + 2 * u455)) (by decide +kernel) (Or.inl rfl) (by decide +kernel) (by first | decide | omega) (by first | decide | omega) (by decide) (by decide) (fun z => absurd z (by decide)) ?_
              have j467 := jU (e := (1153 + 2 * u455)) (v := 2147483648) u455 j459 rg_76_1153_2_395 (by first | decide | omega) (by first | decide | omega) (by first | decide | omega)
              have f469 := jF (e := (1153 + 2 * u455)) (v := 2147483648) u455 f461 rg_76_1153_2_395 (by first | decide | omega) (by first | decide | omega) (by decide)
              generalize e468 : x_up h458 76 (1153 + 2 * u455) 2147483648 = h466 at j467 f469 ⊢
              refine x_aload (np := 35) (x := 0) (by decide +kernel) rfl (x_nc_le (by decide)) ?_
              refine x_dup (np := 36) (x := 0) (by decide +kernel) (by have z := x_nc_le (k := 75) (by decide); unfold x_r; omega) ?_
              have q470 : h466 75 13 = h458 75 13 := by rw [← e468]; exact x_up_k (by decide)
              have q471 : h458 75 13 = h425 75 13 := by rw [← e460]; exact x_up_k (by decide)
              refine x_getC (np := 39) (x := 717) (f := 13) (q := (h425 75 13)) (by decide +kernel) (by decide) (by decide +kernel) (q470.trans q471) (fun l472 => ?_)
              refine x_const (np := 40) (x := 9223372043297226753) (a := 2147483649) (by decide +kernel) (by decide) (by decide) ?_
              refine x_iadd (np := 41) (x := 0) (v := (1 + (h425 75 13))) (by decide +kernel) l454 (by decide) (by first | decide | omega) (by first | decide | omega) ?_
              refine x_putI (np := 44) (x := 717) (f := 13) (by decide +kernel) (by decide +kernel) (by first | decide | omega) (Or.inl (by decide)) ?_
              have j474 := jU (e := 13) (v := (1 + (h425 75 13))) 0 j467 rg_75_13_0_1 (by first | decide | omega) (by first | decide | omega) (by first | decide | omega)
              have f476 := jF (e := 13) (v := (1 + (h425 75 13))) 0 f469 rg_75_13_0_1 (by first | decide | omega) (by first | decide | omega) (by decide)
              generalize e475 : x_up h466 75 13 (1 + (h425 75 13)) = h473 at j474 f476 ⊢
              refine x_retV (np := 45) (x := 0) (by decide +kernel) (by decide +kernel) ⟨rfl, ?_⟩
              have q477 : h473 75 13 = (1 + (h425 75 13)) := by rw [← e475]; exact x_up_at
              refine x_const (np := 207) (x := 9223372043297226753) (a := 2147483649) (by decide +kernel) (by decide) (by decide) ?_
              have q478 : h473 75 13 = (1 + (h425 75 13)) := by rw [← e475]; exact x_up_at
              have q479 : h473 75 7 = h466 75 7 := by rw [← e475]; exact x_up_i (by first | decide | omega)
              have q480 : h466 75 7 = h458 75 7 := by rw [← e468]; exact x_up_k (by decide)
              have q481 : h458 75 7 = h425 75 7 := by rw [← e460]; exact x_up_k (by decide)
              have q482 : h473 75 10 = h466 75 10 := by rw [← e475]; exact x_up_i (by first | decide | omega)
              have q483 : h466 75 10 = h458 75 10 := by rw [← e468]; exact x_up_k (by decide)
              have q484 : h458 75 10 = h425 75 10 := by rw [← e460]; exact x_up_k (by decide)
              have q485 : h425 75 10 = h358 75 10 := jK 0 f427 rg_75_10_0_1 (by first | decide | omega) (by first | decide | omega) (by decide)
              have q486 : h358 75 10 = h183 75 10 := jK 0 f360 rg_75_10_0_1 (by first | decide | omega) (by first | decide | omega) (by decide)
              have q487 : h183 75 10 = h147 75 10 := jK 0 f185 rg_75_10_0_1 (by first | decide | omega) (by first | decide | omega) (by decide)
              have q488 : h147 75 10 = h127 75 10 := jK 0 f149 rg_75_10_0_1 (by first | decide | omega) (by first | decide | omega) (by decide)
              have q489 : h127 75 10 = h39 75 10 := jK 0 f129 rg_75_10_0_1 (by first | decide | omega) (by first | decide | omega) (by decide)
              have q490 : h39 75 10 = h23 75 10 := jK 0 f41 rg_75_10_0_1 (by first | decide | omega) (by first | decide | omega) (by decide)
              have q491 : h23 75 10 = h7 75 10 := jK 0 f25 rg_75_10_0_1 (by first | decide | omega) (by first | decide | omega) (by decide)
              have q492 : h7 75 10 = h 75 10 := jK 0 f9 rg_75_10_0_1 (by first | decide | omega) (by first | decide | omega) (by decide)
              have q493 : h473 75 7 = h466 75 7 := by rw [← e475]; exact x_up_i (by first | decide | omega)
              have q494 : h466 75 7 = h458 75 7 := by rw [← e468]; exact x_up_k (by decide)
              have q495 : h458 75 7 = h425 75 7 := by rw [← e460]; exact x_up_k (by decide)
              have q496 : h473 75 13 = (1 + (h425 75 13)) := by rw [← e475]; exact x_up_at
              have k507 : Kp h h7 (h 75 13 - 2147483648) := Kp.fr Kp.refl f9 (by first | decide | omega) (by decide)
              have k506 : Kp h h23 (h 75 13 - 2147483648) := Kp.fr k507 f25 (by first | decide | omega) (by decide)
              have k505 : Kp h h39 (h 75 13 - 2147483648) := Kp.fr k506 f41 (by first | decide | omega) (by decide)
              have k504 : Kp h h127 (h 75 13 - 2147483648) := Kp.fr k505 f129 (by first | decide | omega) (by decide)
              have q508 : h127 75 13 = h39 75 13 := jK 0 f129 rg_75_13_0_1 (by first | decide | omega) (by first | decide | omega) (by decide)
              have q509 : h39 75 13 = h23 75 13 := jK 0 f41 rg_75_13_0_1 (by first | decide | omega) (by first | decide | omega) (by decide)
              have q510 : h23 75 13 = h7 75 13 := jK 0 f25 rg_75_13_0_1 (by first | decide | omega) (by first | decide | omega) (by decide)
              have q511 : h7 75 13 = h 75 13 := jK 0 f9 rg_75_13_0_1 (by first | decide | omega) (by first | decide | omega) (by decide)
              have k503 : Kp h h147 (h 75 13 - 2147483648) := Kp.trans k504 c154 (by first | decide | omega)
              have k502 : Kp h h183 (h 75 13 - 2147483648) := Kp.fr k503 f185 (by first | decide | omega) (by decide)
              have k501 : Kp h h358 (h 75 13 - 2147483648) := Kp.fr k502 f360 (by first | decide | omega) (by decide)
              have q512 : h358 75 13 = h183 75 13 := jK 0 f360 rg_75_13_0_1 (by first | decide | omega) (by first | decide | omega) (by decide)
              have q513 : h183 75 13 = h147 75 13 := jK 0 f185 rg_75_13_0_1 (by first | decide | omega) (by first | decide | omega) (by decide)
              have k500 : Kp h h425 (h 75 13 - 2147483648) := Kp.trans k501 c432 (by first | decide | omega)
              have k499 : Kp h h458 (h 75 13 - 2147483648) := by rw [← e460]; exact Kp.up k500 (by first | decide | omega) (fun i hi => by first | decide | omega)
              have k498 : Kp h h466 (h 75 13 - 2147483648) := by rw [← e468]; exact Kp.up k499 (by first | decide | omega) (fun i hi => by first | decide | omega)
              have k497 : Kp h h473 (h 75 13 - 2147483648) := by rw [← e475]; exact Kp.oth k498 (by decide)
              have q514 : h473 75 13 = (1 + (h425 75 13)) := by rw [← e475]; exact x_up_at
              have q516 : h473 76 (1152 + 2 * u455) = h466 76 (1152 + 2 * u455) := by rw [← e475]; exact x_up_k (by decide)
              have q517 : h466 76 (1152 + 2 * u455) = h458 76 (1152 + 2 * u455) := by rw [← e468]; exact x_up_i (by first | decide | omega)
              have q518 : h458 76 (1152 + 2 * u455) = 2147483659 := by rw [← e460]; exact x_up_at
              have k524 : Kp h147 h183 (h147 75 13 - 2147483648) := Kp.fr Kp.refl f185 (by first | decide | omega) (by decide)
              have k523 : Kp h147 h358 (h147 75 13 - 2147483648) := Kp.fr k524 f360 (by first | decide | omega) (by decide)
              have q525 : h358 75 13 = h183 75 13 := jK 0 f360 rg_75_13_0_1 (by first | decide | omega) (by first | decide | omega) (by decide)
              have q526 : h183 75 13 = h147 75 13 := jK 0 f185 rg_75_13_0_1 (by first | decide | omega) (by first | decide | omega) (by decide)
              have k522 : Kp h147 h425 (h147 75 13 - 2147483648) := Kp.trans k523 c432 (by first | decide | omega)
              have k521 : Kp h147 h458 (h147 75 13 - 2147483648) := by rw [← e460]; exact Kp.up k522 (by first | decide | omega) (fun i hi => by first | decide | omega)
              have k520 : Kp h147 h466 (h147 75 13 - 2147483648) := by rw [← e468]; exact Kp.up k521 (by first | decide | omega) (fun i hi => by first | decide | omega)
              have k519 : Kp h147 h473 (h147 75 13 - 2147483648) := by rw [← e475]; exact Kp.oth k520 (by decide)
              have k529 : Kp h425 h458 (h425 75 13 - 2147483648) := by rw [← e460]; exact Kp.up Kp.refl (by first | decide | omega) (fun i hi => by first | decide | omega)
              have k528 : Kp h425 h466 (h425 75 13 - 2147483648) := by rw [← e468]; exact Kp.up k529 (by first | decide | omega) (fun i hi => by first | decide | omega)
              have k527 : Kp h425 h473 (h425 75 13 - 2147483648) := by rw [← e475]; exact Kp.oth k528 (by decide)
              have s515 : Seg (sg h473) (h127 75 13 - 2147483648) (u455 + 1) := Seg.bin (Seg.kp s174 k519) (Seg.cast (a' := (h147 75 13 - 2147483648)) (b' := u455) (Seg.kp s448 k527) (by first | decide | omega) (by first | decide | omega)) (show 2147483656 < h473 76 (1152 + 2 * u455) by first | decide | omega) (show h473 76 (1152 + 2 * u455) ≠ 2147483660 by first | decide | omega)
              have s530 : Seg (sg h473) (h 75 13 - 2147483648) (h473 75 13 - 2147483648) := Seg.cast (Seg.kp s515 Kp.refl) (by first | decide | omega) (by first | decide | omega)
              obtain ⟨w531, e532⟩ := Tk.no c13 (by first | decide | omega)
              obtain ⟨w533, e534⟩ := Tk.no c29 (by first | decide | omega)
              obtain ⟨w535, e536⟩ := Tk.no c45 (by first | decide | omega)
              obtain ⟨w537, e538⟩ := Tk.no c133 (by first | decide | omega)
              have w539 : An tB tN (sk tB tN (h 75 7)) := gA_an w533 e532 w531 rfl w535 (Eq.trans e534 e532) w537 (Eq.trans e536 (Eq.trans e534 e532))
              obtain ⟨w540, e541⟩ := Tk.no c189 (by first | decide | omega)
              obtain ⟨w542, e543⟩ := Tk.yes c364 (by first | decide | omega)
              have q544 : h473 75 7 = h466 75 7 := by rw [← e475]; exact x_up_i (by first | decide | omega)
              have q545 : h466 75 7 = h458 75 7 := by rw [← e468]; exact x_up_k (by decide)
              have q546 : h458 75 7 = h425 75 7 := by rw [← e460]; exact x_up_k (by decide)
              refine x_retI (np := 208) (x := 0) (by decide +kernel) (by decide) (Or.inr ⟨by decide +kernel, by first | decide | omega, by first | decide | omega⟩) ⟨_, rfl, (by decide), ?_⟩
              exact ⟨j474, f476, (by first | decide | omega), (fun z => by first | decide | omega), (fun z => by first | decide | omega), (fun z => by first | decide | omega), (fun z => by first | decide | omega), k497, (fun _ => s530), (gA_c2 w539 (c156 5) (Eq.trans e538 (Eq.trans e536 (Eq.trans e534 e532))) (by first | decide | omega) (Or.inr w542) (Eq.trans rfl (Eq.trans e541 rfl)) e543 (c434 5) rfl (by first | decide | omega) (fun z => (congrArg (sk tB tN) (show h425 75 7 = h473 75 7 by first | decide | omega)))), (fun z => absurd z (by first | decide | omega))⟩
            have q452 : ¬ (v179 = 2147483648) := q452
            exfalso; omega
          have q444 : ¬ (v421 ≠ 2147483648) := q444
          refine x_const (np := 189) (x := 9223372039002259456) (a := 2147483648) (by decide +kernel) (by decide) (by decide) ?_
          have q547 : h425 75 10 = h358 75 10 := jK 0 f427 rg_75_10_0_1 (by first | decide | omega) (by first | decide | omega) (by decide)
          have q548 : h358 75 10 = h183 75 10 := jK 0 f360 rg_75_10_0_1 (by first | decide | omega) (by first | decide | omega) (by decide)
          have q549 : h183 75 10 = h147 75 10 := jK 0 f185 rg_75_10_0_1 (by first | decide | omega) (by first | decide | omega) (by decide)
          have q550 : h147 75 10 = h127 75 10 := jK 0 f149 rg_75_10_0_1 (by first | decide | omega) (by first | decide | omega) (by decide)
          have q551 : h127 75 10 = h39 75 10 := jK 0 f129 rg_75_10_0_1 (by first | decide | omega) (by first | decide | omega) (by decide)
          have q552 : h39 75 10 = h23 75 10 := jK 0 f41 rg_75_10_0_1 (by first | decide | omega) (by first | decide | omega) (by decide)
          have q553 : h23 75 10 = h7 75 10 := jK 0 f25 rg_75_10_0_1 (by first | decide | omega) (by first | decide | omega) (by decide)
          have q554 : h7 75 10 = h 75 10 := jK 0 f9 rg_75_10_0_1 (by first | decide | omega) (by first | decide | omega) (by decide)
          have k562 : Kp h h7 (h 75 13 - 2147483648) := Kp.fr Kp.refl f9 (by first | decide | omega) (by decide)
          have k561 : Kp h h23 (h 75 13 - 2147483648) := Kp.fr k562 f25 (by first | decide | omega) (by decide)
          have k560 : Kp h h39 (h 75 13 - 2147483648) := Kp.fr k561 f41 (by first | decide | omega) (by decide)
          have k559 : Kp h h127 (h 75 13 - 2147483648) := Kp.fr k560 f129 (by first | decide | omega) (by decide)
          have q563 : h127 75 13 = h39 75 13 := jK 0 f129 rg_75_13_0_1 (by first | decide | omega) (by first | decide | omega) (by decide)
          have q564 : h39 75 13 = h23 75 13 := jK 0 f41 rg_75_13_0_1 (by first | decide | omega) (by first | decide | omega) (by decide)
          have q565 : h23 75 13 = h7 75 13 := jK 0 f25 rg_75_13_0_1 (by first | decide | omega) (by first | decide | omega) (by decide)
          have q566 : h7 75 13 = h 75 13 := jK 0 f9 rg_75_13_0_1 (by first | decide | omega) (by first | decide | omega) (by decide)
          have k558 : Kp h h147 (h 75 13 - 2147483648) := Kp.trans k559 c154 (by first | decide | omega)
          have k557 : Kp h h183 (h 75 13 - 2147483648) := Kp.fr k558 f185 (by first | decide | omega) (by decide)
          have k556 : Kp h h358 (h 75 13 - 2147483648) := Kp.fr k557 f360 (by first | decide | omega) (by decide)
          have q567 : h358 75 13 = h183 75 13 := jK 0 f360 rg_75_13_0_1 (by first | decide | omega) (by first | decide | omega) (by decide)
          have q568 : h183 75 13 = h147 75 13 := jK 0 f185 rg_75_13_0_1 (by first | decide | omega) (by first | decide | omega) (by decide)
          have k555 : Kp h h425 (h 75 13 - 2147483648) := Kp.trans k556 c432 (by first | decide | omega)
          obtain ⟨w569, e570⟩ := Tk.no c13 (by first | decide | omega)
          obtain ⟨w571, e572⟩ := Tk.no c29 (by first | decide | omega)
          obtain ⟨w573, e574⟩ := Tk.no c45 (by first | decide | omega)
          obtain ⟨w575, e576⟩ := Tk.no c133 (by first | decide | omega)
          have w577 : An tB tN (sk tB tN (h 75 7)) := gA_an w571 e570 w569 rfl w573 (Eq.trans e572 e570) w575 (Eq.trans e574 (Eq.trans e572 e570))
          obtain ⟨w578, e579⟩ := Tk.no c189 (by first | decide | omega)
          obtain ⟨w580, e581⟩ := Tk.yes c364 (by first | decide | omega)
          obtain ⟨w582, e583⟩ := Tk.no c13 (by first | decide | omega)
          obtain ⟨w584, e585⟩ := Tk.no c29 (by first | decide | omega)
          obtain ⟨w586, e587⟩ := Tk.no c45 (by first | decide | omega)
          obtain ⟨w588, e589⟩ := Tk.no c133 (by first | decide | omega)
          have w590 : An tB tN (sk tB tN (h 75 7)) := gA_an w584 e583 w582 rfl w586 (Eq.trans e585 e583) w588 (Eq.trans e587 (Eq.trans e585 e583))
          obtain ⟨w591, e592⟩ := Tk.no c189 (by first | decide | omega)
          obtain ⟨w593, e594⟩ := Tk.yes c364 (by first | decide | omega)
          refine x_retI (np := 190) (x := 0) (by decide +kernel) (by decide) (Or.inr ⟨by decide +kernel, by first | decide | omega, by first | decide | omega⟩) ⟨_, rfl, (by decide), ?_⟩
          exact ⟨j426, f436, (by first | decide | omega), (fun z => by first | decide | omega), (fun z => by first | decide | omega), (fun z => by first | decide | omega), (fun z => by first | decide | omega), k555, (fun z => absurd z (by first | decide | omega)), (gA_c2 w577 (c156 5) (Eq.trans e576 (Eq.trans e574 (Eq.trans e572 e570))) (by first | decide | omega) (Or.inr w580) (Eq.trans rfl (Eq.trans e579 rfl)) e581 (c434 5) rfl (by first | decide | omega) (fun z => absurd z (by first | decide | omega))), (fun _ => fA_c2 w590 (c156 5) (Eq.trans e589 (Eq.trans e587 (Eq.trans e585 e583))) (by first | decide | omega) (Or.inr w593) (Eq.trans rfl (Eq.trans e592 rfl)) e594 (c435 (by first | decide | omega) 5) rfl rfl)⟩
        have q170 : ¬ (v143 ≠ 2147483648) := q170
        refine x_const (np := 160) (x := 9223372039002259456) (a := 2147483648) (by decide +kernel) (by decide) (by decide) ?_
        have q595 : h147 75 10 = h127 75 10 := jK 0 f149 rg_75_10_0_1 (by first | decide | omega) (by first | decide | omega) (by decide)
        have q596 : h127 75 10 = h39 75 10 := jK 0 f129 rg_75_10_0_1 (by first | decide | omega) (by first | decide | omega) (by decide)
        have q597 : h39 75 10 = h23 75 10 := jK 0 f41 rg_75_10_0_1 (by first | decide | omega) (by first | decide | omega) (by decide)
        have q598 : h23 75 10 = h7 75 10 := jK 0 f25 rg_75_10_0_1 (by first | decide | omega) (by first | decide | omega) (by decide)
        have q599 : h7 75 10 = h 75 10 := jK 0 f9 rg_75_10_0_1 (by first | decide | omega) (by first | decide | omega) (by decide)
        have k604 : Kp h h7 (h 75 13 - 2147483648) := Kp.fr Kp.refl f9 (by first | decide | omega) (by decide)
        have k603 : Kp h h23 (h 75 13 - 2147483648) := Kp.fr k604 f25 (by first | decide | omega) (by decide)
        have k602 : Kp h h39 (h 75 13 - 2147483648) := Kp.fr k603 f41 (by first | decide | omega) (by decide)
        have k601 : Kp h h127 (h 75 13 - 2147483648) := Kp.fr k602 f129 (by first | decide | omega) (by decide)
        have q605 : h127 75 13 = h39 75 13 := jK 0 f129 rg_75_13_0_1 (by first | decide | omega) (by first | decide | omega) (by decide)
        have q606 : h39 75 13 = h23 75 13 := jK 0 f41 rg_75_13_0_1 (by first | decide | omega) (by first | decide | omega) (by decide)
        have q607 : h23 75 13 = h7 75 13 := jK 0 f25 rg_75_13_0_1 (by first | decide | omega) (by first | decide | omega) (by decide)
        have q608 : h7 75 13 = h 75 13 := jK 0 f9 rg_75_13_0_1 (by first | decide | omega) (by first | decide | omega) (by decide)
        have k600 : Kp h h147 (h 75 13 - 2147483648) := Kp.trans k601 c154 (by first | decide | omega)
        obtain ⟨w609, e610⟩ := Tk.no c13 (by first | decide | omega)
        obtain ⟨w611, e612⟩ := Tk.no c29 (by first | decide | omega)
        obtain ⟨w613, e614⟩ := Tk.no c45 (by first | decide | omega)
        obtain ⟨w615, e616⟩ := Tk.no c133 (by first | decide | omega)
        have w617 : An tB tN (sk tB tN (h 75 7)) := gA_an w611 e610 w609 rfl w613 (Eq.trans e612 e610) w615 (Eq.trans e614 (Eq.trans e612 e610))
        obtain ⟨w618, e619⟩ := Tk.no c13 (by first | decide | omega)
        obtain ⟨w620, e621⟩ := Tk.no c29 (by first | decide | omega)
        obtain ⟨w622, e623⟩ := Tk.no c45 (by first | decide | omega)
        obtain ⟨w624, e625⟩ := Tk.no c133 (by first | decide | omega)
        have w626 : An tB tN (sk tB tN (h 75 7)) := gA_an w620 e619 w618 rfl w622 (Eq.trans e621 e619) w624 (Eq.trans e623 (Eq.trans e621 e619))
        refine x_retI (np := 161) (x := 0) (by decide +kernel) (by decide) (Or.inr ⟨by decide +kernel, by first | decide | omega, by first | decide | omega⟩) ⟨_, rfl, (by decide), ?_⟩
        exact ⟨j148, f158, (by first | decide | omega), (fun z => by first | decide | omega), (fun z => by first | decide | omega), (fun z => by first | decide | omega), (fun z => by first | decide | omega), k600, (fun z => absurd z (by first | decide | omega)), (gA_c0 w617 (c156 5) (Eq.trans e616 (Eq.trans e614 (Eq.trans e612 e610))) (by first | decide | omega) (by first | decide | omega)), (fun _ => fA_c0 w626 (c157 (by first | decide | omega) 5) (Eq.trans e625 (Eq.trans e623 (Eq.trans e621 e619))) rfl)⟩
      have q138 : ¬ (v123 = 2147483648) := q138
      have b627 := c132 (by first | decide | omega)
      refine x_aload (np := 135) (x := 0) (by decide +kernel) rfl (x_nc_le (by decide)) ?_
      refine x_iload (np := 136) (x := 1) (by decide +kernel) rfl l36 ?_
      refine x_ifz (k := 0) (tg := 144) (np := 139) (by decide +kernel) (by decide) l36 (fun q628 => ?_) (fun q629 => ?_)
      · have q628 : v35 = 2147483648 := q628
        refine x_const (np := 146) (x := 9223372069067030535) (a := 2147483655) (by decide +kernel) (by decide) (by decide) ?_
        refine x_const (np := 147) (x := 9223372039002259456) (a := 2147483648) (by decide +kernel) (by decide) (by decide) ?_
        refine x_nV (t := 6) (mj := 187) (n := 3) (rc := 12) (ml := 3) (nr := 0) (np := 150) (as := [x_r 75, iv_c 2147483655, iv_c 2147483648]) (rest := []) (lo1 := [x_r 75, iv_c 2147483655, iv_c 2147483648]) (by decide +kernel) (by decide) (by decide +kernel) (x_rb_of (by decide +kernel)) rfl rfl (x_wr (by decide) (x_wi (by decide) (x_wi (by decide) x_wn))) x_wn (by decide) rfl ?_
        refine x_aload (np := 1) (x := 0) (by decide +kernel) rfl (x_nc_le (by decide)) ?_
        have q630 : h127 75 1 = 76 := by have z := jB (e := 1) 0 j128 rg_75_1_0_1 (by decide) (by decide); omega
        refine x_getR (np := 4) (x := 705) (f := 1) (q := 76) (by decide +kernel) (by decide) (by decide +kernel) q630 ?_
        refine x_const (np := 7) (x := 9223376986804585600) (a := 2147484800) (by decide +kernel) (by decide) (by decide) ?_
        refine x_const (np := 8) (x := 9223372047592194050) (a := 2147483650) (by decide +kernel) (by decide) (by decide) ?_
        refine x_aload (np := 9) (x := 0) (by decide +kernel) rfl (x_nc_le (by decide)) ?_
        have q631 : h127 75 13 = h39 75 13 := jK 0 f129 rg_75_13_0_1 (by first | decide | omega) (by first | decide | omega) (by decide)
        have q632 : h39 75 13 = h23 75 13 := jK 0 f41 rg_75_13_0_1 (by first | decide | omega) (by first | decide | omega) (by decide)
        have q633 : h23 75 13 = h7 75 13 := jK 0 f25 rg_75_13_0_1 (by first | decide | omega) (by first | decide | omega) (by decide)
        have q634 : h7 75 13 = h 75 13 := jK 0 f9 rg_75_13_0_1 (by first | decide | omega) (by first | decide | omega) (by decide)
        refine x_getC (np := 12) (x := 717) (f := 13) (q := (h 75 13)) (by decide +kernel) (by decide) (by decide +kernel) (((q631.trans q632).trans q633).trans q634) (fun l635 => ?_)
        obtain ⟨u636, q637⟩ : ∃ z, (h 75 13) = 2147483648 + z := ⟨(h 75 13) - 2147483648, by first | decide | omega⟩
        refine x_imul (np := 13) (x := 0) (i := 2) (j := u636) (v := (2147483648 + 2 * u636)) (by decide +kernel) (by first | decide | omega) (by first | decide | omega) (by first | decide | omega) (by first | decide | omega) (by decide) l635 ?_
        refine x_iadd (np := 14) (x := 0) (v := (2147484800 + 2 * u636)) (by decide +kernel) (by decide) (by first | decide | omega) (by first | decide | omega) (by first | decide | omega) ?_
        refine x_iload (np := 15) (x := 1) (by decide +kernel) rfl (by decide) ?_
        refine x_ast (np := 16) (x := 0) (kd := 1) (n := 1952) (i := (1152 + 2 * u636)) (by decide +kernel) (Or.inl rfl) (by decide +kernel) (by first | decide | omega) (by first | decide | omega) (by decide) (by decide) (fun z => absurd z (by decide)) ?_
        have j640 := jU (e := (1152 + 2 * u636)) (v := 2147483655) u636 j128 rg_76_1152_2_394 (by first | decide | omega) (by first | decide | omega) (by first | decide | omega)
        have f642 := jF (e := (1152 + 2 * u636)) (v := 2147483655) u636 f135 rg_76_1152_2_394 (by first | decide | omega) (by first | decide | omega) (by decide)
        generalize e641 : x_up h127 76 (1152 + 2 * u636) 2147483655 = h639 at j640 f642 ⊢
        refine x_aload (np := 17) (x := 0) (by decide +kernel) rfl (x_nc_le (by decide)) ?_
        have q643 : h639 75 1 = 76 := by have z := jB (e := 1) 0 j640 rg_75_1_0_1 (by decide) (by decide); omega
        refine x_getR (np := 20) (x := 705) (f := 1) (q := 76) (by decide +kernel) (by decide) (by decide +kernel) q643 ?_
        refine x_const (np := 23) (x := 9223376986804585600) (a := 2147484800) (by decide +kernel) (by decide) (by decide) ?_
        refine x_const (np := 24) (x := 9223372047592194050) (a := 2147483650) (by decide +kernel) (by decide) (by decide) ?_
        refine x_aload (np := 25) (x := 0) (by decide +kernel) rfl (x_nc_le (by decide)) ?_
        have q644 : h639 75 13 = h127 75 13 := by rw [← e641]; exact x_up_k (by decide)
        have q645 : h127 75 13 = h39 75 13 := jK 0 f129 rg_75_13_0_1 (by first | decide | omega) (by first | decide | omega) (by decide)
        have q646 : h39 75 13 = h23 75 13 := jK 0 f41 rg_75_13_0_1 (by first | decide | omega) (by first | decide | omega) (by decide)
        have q647 : h23 75 13 = h7 75 13 := jK 0 f25 rg_75_13_0_1 (by first | decide | omega) (by first | decide | omega) (by decide)
        have q648 : h7 75 13 = h 75 13 := jK 0 f9 rg_75_13_0_1 (by first | decide | omega) (by first | decide | omega) (by decide)
        refine x_getC (np := 28) (x := 717) (f := 13) (q := (h 75 13)) (by decide +kernel) (by decide) (by decide +kernel) ((((q644.trans q645).trans q646).trans q647).trans q648) (fun l649 => ?_)
        refine x_imul (np := 29) (x := 0) (i := 2) (j := u636) (v := (2147483648 + 2 * u636)) (by decide +kernel) (by first | decide | omega) (by first | decide | omega) (by first | decide | omega) (by first | decide | omega) (by decide) l635 ?_
        refine x_iadd (np := 30) (x := 0) (v := (2147484800 + 2 * u636)) (by decide +kernel) (by decide) (by first | decide | omega) (by first | decide | omega) (by first | decide | omega) ?_
        refine x_const (np := 31) (x := 9223372043297226753) (a := 2147483649) (by decide +kernel) (by decide) (by decide) ?_
        refine x_iadd (np := 32) (x := 0) (v := (2147484801 + 2 * u636)) (by decide +kernel) (by first | decide | omega) (by decide) (by first | decide | omega) (by first | decide | omega) ?_
        refine x_iload (np := 33) (x := 2) (by decide +kernel) rfl (by decide) ?_
        refine x_ast (np := 34) (x := 0) (kd := 1) (n := 1952) (i := (1153 + 2 * u636)) (by decide +kernel) (Or.inl rfl) (by decide +kernel) (by first | decide | omega) (by first | decide | omega) (by decide) (by decide) (fun z => absurd z (by decide)) ?_
        have j652 := jU (e := (1153 + 2 * u636)) (v := 2147483648) u636 j640 rg_76_1153_2_394 (by first | decide | omega) (by first | decide | omega) (by first | decide | omega)
        have f654 := jF (e := (1153 + 2 * u636)) (v := 2147483648) u636 f642 rg_76_1153_2_394 (by first | decide | omega) (by first | decide | omega) (by decide)
        generalize e653 : x_up h639 76 (1153 + 2 * u636) 2147483648 = h651 at j652 f654 ⊢
        refine x_aload (np := 35) (x := 0) (by decide +kernel) rfl (x_nc_le (by decide)) ?_
        refine x_dup (np := 36) (x := 0) (by decide +kernel) (by have z := x_nc_le (k := 75) (by decide); unfold x_r; omega) ?_
        have q655 : h651 75 13 = h639 75 13 := by rw [← e653]; exact x_up_k (by decide)
        have q656 : h639 75 13 = h127 75 13 := by rw [← e641]; exact x_up_k (by decide)
        have q657 : h127 75 13 = h39 75 13 := jK 0 f129 rg_75_13_0_1 (by first | decide | omega) (by first | decide | omega) (by decide)
        have q658 : h39 75 13 = h23 75 13 := jK 0 f41 rg_75_13_0_1 (by first | decide | omega) (by first | decide | omega) (by decide)
        have q659 : h23 75 13 = h7 75 13 := jK 0 f25 rg_75_13_0_1 (by first | decide | omega) (by first | decide | omega) (by decide)
        have q660 : h7 75 13 = h 75 13 := jK 0 f9 rg_75_13_0_1 (by first | decide | omega) (by first | decide | omega) (by decide)
        refine x_getC (np := 39) (x := 717) (f := 13) (q := (h 75 13)) (by decide +kernel) (by decide) (by decide +kernel) (((((q655.trans q656).trans q657).trans q658).trans q659).trans q660) (fun l661 => ?_)
        refine x_const (np := 40) (x := 9223372043297226753) (a := 2147483649) (by decide +kernel) (by decide) (by decide) ?_
        refine x_iadd (np := 41) (x := 0) (v := (1 + (h 75 13))) (by decide +kernel) l635 (by decide) (by first | decide | omega) (by first | decide | omega) ?_
        refine x_putI (np := 44) (x := 717) (f := 13) (by decide +kernel) (by decide +kernel) (by first | decide | omega) (Or.inl (by decide)) ?_
        have j663 := jU (e := 13) (v := (1 + (h 75 13))) 0 j652 rg_75_13_0_1 (by first | decide | omega) (by first | decide | omega) (by first | decide | omega)
        have f665 := jF (e := 13) (v := (1 + (h 75 13))) 0 f654 rg_75_13_0_1 (by first | decide | omega) (by first | decide | omega) (by decide)
        generalize e664 : x_up h651 75 13 (1 + (h 75 13)) = h662 at j663 f665 ⊢
        refine x_retV (np := 45) (x := 0) (by decide +kernel) (by decide +kernel) ⟨rfl, ?_⟩
        have q666 : h662 75 13 = (1 + (h 75 13)) := by rw [← e664]; exact x_up_at
        refine x_const (np := 151) (x := 9223372043297226753) (a := 2147483649) (by decide +kernel) (by decide) (by decide) ?_
        have q667 : h662 75 13 = (1 + (h 75 13)) := by rw [← e664]; exact x_up_at
        have q668 : h662 75 7 = h651 75 7 := by rw [← e664]; exact x_up_i (by first | decide | omega)
        have q669 : h651 75 7 = h639 75 7 := by rw [← e653]; exact x_up_k (by decide)
        have q670 : h639 75 7 = h127 75 7 := by rw [← e641]; exact x_up_k (by decide)
        have q671 : h662 75 10 = h651 75 10 := by rw [← e664]; exact x_up_i (by first | decide | omega)
        have q672 : h651 75 10 = h639 75 10 := by rw [← e653]; exact x_up_k (by decide)
        have q673 : h639 75 10 = h127 75 10 := by rw [← e641]; exact x_up_k (by decide)
        have q674 : h127 75 10 = h39 75 10 := jK 0 f129 rg_75_10_0_1 (by first | decide | omega) (by first | decide | omega) (by decide)
        have q675 : h39 75 10 = h23 75 10 := jK 0 f41 rg_75_10_0_1 (by first | decide | omega) (by first | decide | omega) (by decide)
        have q676 : h23 75 10 = h7 75 10 := jK 0 f25 rg_75_10_0_1 (by first | decide | omega) (by first | decide | omega) (by decide)
        have q677 : h7 75 10 = h 75 10 := jK 0 f9 rg_75_10_0_1 (by first | decide | omega) (by first | decide | omega) (by decide)
        have q678 : h662 75 7 = h651 75 7 := by rw [← e664]; exact x_up_i (by first | decide | omega)
        have q679 : h651 75 7 = h639 75 7 := by rw [← e653]; exact x_up_k (by decide)
        have q680 : h639 75 7 = h127 75 7 := by rw [← e641]; exact x_up_k (by decide)
        have q681 : h662 75 13 = (1 + (h 75 13)) := by rw [← e664]; exact x_up_at
        have k688 : Kp h h7 (h 75 13 - 2147483648) := Kp.fr Kp.refl f9 (by first | decide | omega) (by decide)
        have k687 : Kp h h23 (h 75 13 - 2147483648) := Kp.fr k688 f25 (by first | decide | omega) (by decide)
        have k686 : Kp h h39 (h 75 13 - 2147483648) := Kp.fr k687 f41 (by first | decide | omega) (by decide)
        have k685 : Kp h h127 (h 75 13 - 2147483648) := Kp.fr k686 f129 (by first | decide | omega) (by decide)
        have k684 : Kp h h639 (h 75 13 - 2147483648) := by rw [← e641]; exact Kp.up k685 (by first | decide | omega) (fun i hi => by first | decide | omega)
        have k683 : Kp h h651 (h 75 13 - 2147483648) := by rw [← e653]; exact Kp.up k684 (by first | decide | omega) (fun i hi => by first | decide | omega)
        have k682 : Kp h h662 (h 75 13 - 2147483648) := by rw [← e664]; exact Kp.oth k683 (by decide)
        have q689 : h662 75 13 = (1 + (h 75 13)) := by rw [← e664]; exact x_up_at
        have q691 : h662 76 (1152 + 2 * u636) = h651 76 (1152 + 2 * u636) := by rw [← e664]; exact x_up_k (by decide)
        have q692 : h651 76 (1152 + 2 * u636) = h639 76 (1152 + 2 * u636) := by rw [← e653]; exact x_up_i (by first | decide | omega)
        have q693 : h639 76 (1152 + 2 * u636) = 2147483655 := by rw [← e641]; exact x_up_at
        have s690 : Seg (sg h662) u636 (u636 + 1) := Seg.push (show 2147483648 ≤ h662 76 (1152 + 2 * u636) by first | decide | omega) (show h662 76 (1152 + 2 * u636) ≤ 2147483656 by first | decide | omega)
        have s694 : Seg (sg h662) (h 75 13 - 2147483648) (h662 75 13 - 2147483648) := Seg.cast (Seg.kp s690 Kp.refl) (by first | decide | omega) (by first | decide | omega)
        obtain ⟨w695, e696⟩ := Tk.no c13 (by first | decide | omega)
        obtain ⟨w697, e698⟩ := Tk.no c29 (by first | decide | omega)
        obtain ⟨w699, e700⟩ := Tk.no c45 (by first | decide | omega)
        obtain ⟨w701, e702⟩ := Tk.yes c133 (by first | decide | omega)
        have q703 : h662 75 7 = h651 75 7 := by rw [← e664]; exact x_up_i (by first | decide | omega)
        have q704 : h651 75 7 = h639 75 7 := by rw [← e653]; exact x_up_k (by decide)
        have q705 : h639 75 7 = h127 75 7 := by rw [← e641]; exact x_up_k (by decide)
        refine x_retI (np := 152) (x := 0) (by decide +kernel) (by decide) (Or.inr ⟨by decide +kernel, by first | decide | omega, by first | decide | omega⟩) ⟨_, rfl, (by decide), ?_⟩
        exact ⟨j663, f665, (by first | decide | omega), (fun z => by first | decide | omega), (fun z => by first | decide | omega), (fun z => by first | decide | omega), (fun z => by first | decide | omega), k682, (fun _ => s694), (gA_mine w701 (Eq.trans e700 (Eq.trans e698 e696)) e702 (by first | decide | omega) (congrArg (sk tB tN) (show h127 75 7 = h662 75 7 by first | decide | omega))), (fun z => absurd z (by first | decide | omega))⟩
      have q629 : ¬ (v35 = 2147483648) := q629
      exfalso; omega
    have q34 : ¬ (v19 = 2147483648) := q34
    have b706 := c28 (by first | decide | omega)
    refine x_aload (np := 66) (x := 0) (by decide +kernel) rfl (x_nc_le (by decide)) ?_
    have q707 : h23 75 10 = h7 75 10 := jK 0 f25 rg_75_10_0_1 (by first | decide | omega) (by first | decide | omega) (by decide)
    have q708 : h7 75 10 = h 75 10 := jK 0 f9 rg_75_10_0_1 (by first | decide | omega) (by first | decide | omega) (by decide)
    refine x_getC (np := 69) (x := 714) (f := 10) (q := (h 75 10)) (by decide +kernel) (by decide) (by decide +kernel) (q707.trans q708) (fun l709 => ?_)
    refine x_const (np := 71) (x := 9223372064772063238) (a := 2147483654) (by decide +kernel) (by decide) (by decide) ?_
    refine x_icmp (k := 1) (tg := 76) (np := 74) (by decide +kernel) (by decide) l709 (by decide) (fun q710 => ?_) (fun q711 => ?_)
    · have q710 : (h 75 10) ≠ 2147483654 := q710
      refine x_aload (np := 77) (x := 0) (by decide +kernel) rfl (x_nc_le (by decide)) ?_
      refine x_dup (np := 78) (x := 0) (by decide +kernel) (by have z := x_nc_le (k := 75) (by decide); unfold x_r; omega) ?_
      have q712 : h23 75 10 = h7 75 10 := jK 0 f25 rg_75_10_0_1 (by first | decide | omega) (by first | decide | omega) (by decide)
      have q713 : h7 75 10 = h 75 10 := jK 0 f9 rg_75_10_0_1 (by first | decide | omega) (by first | decide | omega) (by decide)
      refine x_getC (np := 81) (x := 714) (f := 10) (q := (h 75 10)) (by decide +kernel) (by decide) (by decide +kernel) (q712.trans q713) (fun l714 => ?_)
      refine x_const (np := 82) (x := 9223372043297226753) (a := 2147483649) (by decide +kernel) (by decide) (by decide) ?_
      refine x_iadd (np := 83) (x := 0) (v := (1 + (h 75 10))) (by decide +kernel) l709 (by decide) (by first | decide | omega) (by first | decide | omega) ?_
      refine x_putI (np := 86) (x := 714) (f := 10) (by decide +kernel) (by decide +kernel) (by first | decide | omega) (Or.inl (by decide)) ?_
      have j716 := jU (e := 10) (v := (1 + (h 75 10))) 0 j24 rg_75_10_0_1 (by first | decide | omega) (by first | decide | omega) (by first | decide | omega)
      have f718 := jF (e := 10) (v := (1 + (h 75 10))) 0 f31 rg_75_10_0_1 (by first | decide | omega) (by first | decide | omega) (by decide)
      generalize e717 : x_up h23 75 10 (1 + (h 75 10)) = h715 at j716 f718 ⊢
      refine x_aload (np := 87) (x := 0) (by decide +kernel) rfl (x_nc_le (by decide)) ?_
      have q719 : h715 75 10 = (1 + (h 75 10)) := by rw [← e717]; exact x_up_at
      have q720 : h715 75 13 = h23 75 13 := by rw [← e717]; exact x_up_i (by first | decide | omega)
      have q721 : h23 75 13 = h7 75 13 := jK 0 f25 rg_75_13_0_1 (by first | decide | omega) (by first | decide | omega) (by decide)
      have q722 : h7 75 13 = h 75 13 := jK 0 f9 rg_75_13_0_1 (by first | decide | omega) (by first | decide | omega) (by decide)
      have q723 : h715 75 7 = h23 75 7 := by rw [← e717]; exact x_up_i (by first | decide | omega)
      have q724 : h715 75 10 = (1 + (h 75 10)) := by rw [← e717]; exact x_up_at
      have m729 := Tq.fr m22 f25 (by decide) (by decide)
      have m728 : Tq tB tN h715 := by rw [← e717]; exact Tq.oth m729 (by decide) (by decide)
      refine x_cI (t := 6) (mj := 190) (n := 1) (rc := 12) (ml := 3) (nr := 0) (np := 90) (as := [x_r 75]) (rest := []) (lo1 := [x_r 75, 147573952589676412928, 147573952589676412928]) (by decide +kernel) (by decide) (by decide +kernel) (x_rb_of (by decide +kernel)) rfl rfl (x_wr (by decide) x_wn) x_wn (by decide) rfl (c190_75_D6 j716  (by first | decide | omega) (by first | decide | omega) m728) (fun v725 h730 l726 q727 => ?_)
      obtain ⟨j731, f732, b733, c734, c735, c736, c737, c738, c739, c740, c741⟩ := q727
      have f742 := Fr.trans f718 f732 (by decide)
      have q743 : h715 75 13 = h23 75 13 := by rw [← e717]; exact x_up_i (by first | decide | omega)
      have q744 : h23 75 13 = h7 75 13 := jK 0 f25 rg_75_13_0_1 (by first | decide | omega) (by first | decide | omega) (by decide)
      have q745 : h7 75 13 = h 75 13 := jK 0 f9 rg_75_13_0_1 (by first | decide | omega) (by first | decide | omega) (by decide)
      have b746 := jB (e := 13) 0 j731 rg_75_13_0_1 (by first | decide | omega) (by first | decide | omega)
      have q747 : h715 75 7 = h23 75 7 := by rw [← e717]; exact x_up_i (by first | decide | omega)
      have b748 := jB (e := 7) 0 j731 rg_75_7_0_1 (by first | decide | omega) (by first | decide | omega)
      have q749 : h715 75 10 = (1 + (h 75 10)) := by rw [← e717]; exact x_up_at
      have q750 : h730 75 10 = h715 75 10 := jK 0 f732 rg_75_10_0_1 (by first | decide | omega) (by first | decide | omega) (by decide)
      have q751 : h715 75 10 = (1 + (h 75 10)) := by rw [← e717]; exact x_up_at
      have q752 : h715 75 7 = h23 75 7 := by rw [← e717]; exact x_up_i (by first | decide | omega)
      have q753 : h715 75 13 = h23 75 13 := by rw [← e717]; exact x_up_i (by first | decide | omega)
      have q754 : h23 75 13 = h7 75 13 := jK 0 f25 rg_75_13_0_1 (by first | decide | omega) (by first | decide | omega) (by decide)
      have q755 : h7 75 13 = h 75 13 := jK 0 f9 rg_75_13_0_1 (by first | decide | omega) (by first | decide | omega) (by decide)
      refine x_ifz (k := 1) (tg := 95) (np := 93) (by decide +kernel) (by decide) l726 (fun q756 => ?_) (fun q757 => ?_)
      · have q756 : v725 ≠ 2147483648 := q756
        have b758 := c734 (by first | decide | omega)
        have b759 := c735 (by first | decide | omega)
        have b760 := c736 (by first | decide | omega)
        have b761 := c737 (by first | decide | omega)
        have s762 := c739 (by first | decide | omega)
        have q763 : h715 75 13 = h23 75 13 := by rw [← e717]; exact x_up_i (by first | decide | omega)
        have q764 : h23 75 13 = h7 75 13 := jK 0 f25 rg_75_13_0_1 (by first | decide | omega) (by first | decide | omega) (by decide)
        have q765 : h7 75 13 = h 75 13 := jK 0 f9 rg_75_13_0_1 (by first | decide | omega) (by first | decide | omega) (by decide)
        refine x_aload (np := 96) (x := 0) (by decide +kernel) rfl (x_nc_le (by decide)) ?_
        refine x_dup (np := 97) (x := 0) (by decide +kernel) (by have z := x_nc_le (k := 75) (by decide); unfold x_r; omega) ?_
        have q766 : h730 75 10 = h715 75 10 := jK 0 f732 rg_75_10_0_1 (by first | decide | omega) (by first | decide | omega) (by decide)
        have q767 : h715 75 10 = (1 + (h 75 10)) := by rw [← e717]; exact x_up_at
        refine x_getC (np := 100) (x := 714) (f := 10) (q := (1 + (h 75 10))) (by decide +kernel) (by decide) (by decide +kernel) (q766.trans q767) (fun l768 => ?_)
        refine x_const (np := 101) (x := 9223372043297226753) (a := 2147483649) (by decide +kernel) (by decide) (by decide) ?_
        refine x_isub (np := 102) (x := 0) (v := (h 75 10)) (by decide +kernel) (by first | decide | omega) (by decide) (by first | decide | omega) (by first | decide | omega) ?_
        refine x_putI (np := 105) (x := 714) (f := 10) (by decide +kernel) (by decide +kernel) l709 (Or.inl (by decide)) ?_
        have j770 := jU (e := 10) (v := (h 75 10)) 0 j731 rg_75_10_0_1 (by first | decide | omega) (by first | decide | omega) (by first | decide | omega)
        have f772 := jF (e := 10) (v := (h 75 10)) 0 f742 rg_75_10_0_1 (by first | decide | omega) (by first | decide | omega) (by decide)
        generalize e771 : x_up h730 75 10 (h 75 10) = h769 at j770 f772 ⊢
        refine x_aload (np := 106) (x := 0) (by decide +kernel) rfl (x_nc_le (by decide)) ?_
        refine x_const (np := 108) (x := 9223372090541867020) (a := 2147483660) (by decide +kernel) (by decide) (by decide) ?_
        refine x_const (np := 109) (x := 9223372039002259456) (a := 2147483648) (by decide +kernel) (by decide) (by decide) ?_
        refine x_nV (t := 6) (mj := 187) (n := 3) (rc := 12) (ml := 3) (nr := 0) (np := 112) (as := [x_r 75, iv_c 2147483660, iv_c 2147483648]) (rest := []) (lo1 := [x_r 75, iv_c 2147483660, iv_c 2147483648]) (by decide +kernel) (by decide) (by decide +kernel) (x_rb_of (by decide +kernel)) rfl rfl (x_wr (by decide) (x_wi (by decide) (x_wi (by decide) x_wn))) x_wn (by decide) rfl ?_
        refine x_aload (np := 1) (x := 0) (by decide +kernel) rfl (x_nc_le (by decide)) ?_
        have q773 : h769 75 1 = 76 := by have z := jB (e := 1) 0 j770 rg_75_1_0_1 (by decide) (by decide); omega
        refine x_getR (np := 4) (x := 705) (f := 1) (q := 76) (by decide +kernel) (by decide) (by decide +kernel) q773 ?_
        refine x_const (np := 7) (x := 9223376986804585600) (a := 2147484800) (by decide +kernel) (by decide) (by decide) ?_
        refine x_const (np := 8) (x := 9223372047592194050) (a := 2147483650) (by decide +kernel) (by decide) (by decide) ?_
        refine x_aload (np := 9) (x := 0) (by decide +kernel) rfl (x_nc_le (by decide)) ?_
        have q774 : h769 75 13 = h730 75 13 := by rw [← e771]; exact x_up_i (by first | decide | omega)
        refine x_getC (np := 12) (x := 717) (f := 13) (q := (h730 75 13)) (by decide +kernel) (by decide) (by decide +kernel) q774 (fun l775 => ?_)
        obtain ⟨u776, q777⟩ : ∃ z, (h730 75 13) = 2147483648 + z := ⟨(h730 75 13) - 2147483648, by first | decide | omega⟩
        refine x_imul (np := 13) (x := 0) (i := 2) (j := u776) (v := (2147483648 + 2 * u776)) (by decide +kernel) (by first | decide | omega) (by first | decide | omega) (by first | decide | omega) (by first | decide | omega) (by decide) l775 ?_
        refine x_iadd (np := 14) (x := 0) (v := (2147484800 + 2 * u776)) (by decide +kernel) (by decide) (by first | decide | omega) (by first | decide | omega) (by first | decide | omega) ?_
        refine x_iload (np := 15) (x := 1) (by decide +kernel) rfl (by decide) ?_
        refine x_ast (np := 16) (x := 0) (kd := 1) (n := 1952) (i := (1152 + 2 * u776)) (by decide +kernel) (Or.inl rfl) (by decide +kernel) (by first | decide | omega) (by first | decide | omega) (by decide) (by decide) (fun z => absurd z (by decide)) ?_
        have j780 := jU (e := (1152 + 2 * u776)) (v := 2147483660) u776 j770 rg_76_1152_2_394 (by first | decide | omega) (by first | decide | omega) (by first | decide | omega)
        have f782 := jF (e := (1152 + 2 * u776)) (v := 2147483660) u776 f772 rg_76_1152_2_394 (by first | decide | omega) (by first | decide | omega) (by decide)
        generalize e781 : x_up h769 76 (1152 + 2 * u776) 2147483660 = h779 at j780 f782 ⊢
        refine x_aload (np := 17) (x := 0) (by decide +kernel) rfl (x_nc_le (by decide)) ?_
        have q783 : h779 75 1 = 76 := by have z := jB (e := 1) 0 j780 rg_75_1_0_1 (by decide) (by decide); omega
        refine x_getR (np := 20) (x := 705) (f := 1) (q := 76) (by decide +kernel) (by decide) (by decide +kernel) q783 ?_
        refine x_const (np := 23) (x := 9223376986804585600) (a := 2147484800) (by decide +kernel) (by decide) (by decide) ?_
        refine x_const (np := 24) (x := 9223372047592194050) (a := 2147483650) (by decide +kernel) (by decide) (by decide) ?_
        refine x_aload (np := 25) (x := 0) (by decide +kernel) rfl (x_nc_le (by decide)) ?_
        have q784 : h779 75 13 = h769 75 13 := by rw [← e781]; exact x_up_k (by decide)
        have q785 : h769 75 13 = h730 75 13 := by rw [← e771]; exact x_up_i (by first | decide | omega)
        refine x_getC (np := 28) (x := 717) (f := 13) (q := (h730 75 13)) (by decide +kernel) (by decide) (by decide +kernel) (q784.trans q785) (fun l786 => ?_)
        refine x_imul (np := 29) (x := 0) (i := 2) (j := u776) (v := (2147483648 + 2 * u776)) (by decide +kernel) (by first | decide | omega) (by first | decide | omega) (by first | decide | omega) (by first | decide | omega) (by decide) l775 ?_
        refine x_iadd (np := 30) (x := 0) (v := (2147484800 + 2 * u776)) (by decide +kernel) (by decide) (by first | decide | omega) (by first | decide | omega) (by first | decide | omega) ?_
        refine x_const (np := 31) (x := 9223372043297226753) (a := 2147483649) (by decide +kernel) (by decide) (by decide) ?_
        refine x_iadd (np := 32) (x := 0) (v := (2147484801 + 2 * u776)) (by decide +kernel) (by first | decide | omega) (by decide) (by first | decide | omega) (by first | decide | omega) ?_
        refine x_iload (np := 33) (x := 2) (by decide +kernel) rfl (by decide) ?_
        refine x_ast (np := 34) (x := 0) (kd := 1) (n := 1952) (i := (1153 + 2 * u776)) (by decide +kernel) (Or.inl rfl) (by decide +kernel) (by first | decide | omega) (by first | decide | omega) (by decide) (by decide) (fun z => absurd z (by decide)) ?_
        have j789 := jU (e := (1153 + 2 * u776)) (v := 2147483648) u776 j780 rg_76_1153_2_394 (by first | decide | omega) (by first | decide | omega) (by first | decide | omega)
        have f791 := jF (e := (1153 + 2 * u776)) (v := 2147483648) u776 f782 rg_76_1153_2_394 (by first | decide | omega) (by first | decide | omega) (by decide)
        generalize e790 : x_up h779 76 (1153 + 2 * u776) 2147483648 = h788 at j789 f791 ⊢
        refine x_aload (np := 35) (x := 0) (by decide +kernel) rfl (x_nc_le (by decide)) ?_
        refine x_dup (np := 36) (x := 0) (by decide +kernel) (by have z := x_nc_le (k := 75) (by decide); unfold x_r; omega) ?_
        have q792 : h788 75 13 = h779 75 13 := by rw [← e790]; exact x_up_k (by decide)
        have q793 : h779 75 13 = h769 75 13 := by rw [← e781]; exact x_up_k (by decide)
        have q794 : h769 75 13 = h730 75 13 := by rw [← e771]; exact x_up_i (by first | decide | omega)
        refine x_getC (np := 39) (x := 717) (f := 13) (q := (h730 75 13)) (by decide +kernel) (by decide) (by decide +kernel) ((q792.trans q793).trans q794) (fun l795 => ?_)
        refine x_const (np := 40) (x := 9223372043297226753) (a := 2147483649) (by decide +kernel) (by decide) (by decide) ?_
        refine x_iadd (np := 41) (x := 0) (v := (1 + (h730 75 13))) (by decide +kernel) l775 (by decide) (by first | decide | omega) (by first | decide | omega) ?_
        refine x_putI (np := 44) (x := 717) (f := 13) (by decide +kernel) (by decide +kernel) (by first | decide | omega) (Or.inl (by decide)) ?_
        have j797 := jU (e := 13) (v := (1 + (h730 75 13))) 0 j789 rg_75_13_0_1 (by first | decide | omega) (by first | decide | omega) (by first | decide | omega)
        have f799 := jF (e := 13) (v := (1 + (h730 75 13))) 0 f791 rg_75_13_0_1 (by first | decide | omega) (by first | decide | omega) (by decide)
        generalize e798 : x_up h788 75 13 (1 + (h730 75 13)) = h796 at j797 f799 ⊢
        refine x_retV (np := 45) (x := 0) (by decide +kernel) (by decide +kernel) ⟨rfl, ?_⟩
        have q800 : h796 75 13 = (1 + (h730 75 13)) := by rw [← e798]; exact x_up_at
        refine x_const (np := 113) (x := 9223372043297226753) (a := 2147483649) (by decide +kernel) (by decide) (by decide) ?_
        have q801 : h796 75 13 = (1 + (h730 75 13)) := by rw [← e798]; exact x_up_at
        have q802 : h796 75 7 = h788 75 7 := by rw [← e798]; exact x_up_i (by first | decide | omega)
        have q803 : h788 75 7 = h779 75 7 := by rw [← e790]; exact x_up_k (by decide)
        have q804 : h779 75 7 = h769 75 7 := by rw [← e781]; exact x_up_k (by decide)
        have q805 : h769 75 7 = h730 75 7 := by rw [← e771]; exact x_up_i (by first | decide | omega)
        have q806 : h796 75 10 = h788 75 10 := by rw [← e798]; exact x_up_i (by first | decide | omega)
        have q807 : h788 75 10 = h779 75 10 := by rw [← e790]; exact x_up_k (by decide)
        have q808 : h779 75 10 = h769 75 10 := by rw [← e781]; exact x_up_k (by decide)
        have q809 : h769 75 10 = (h 75 10) := by rw [← e771]; exact x_up_at
        have q810 : h796 75 7 = h788 75 7 := by rw [← e798]; exact x_up_i (by first | decide | omega)
        have q811 : h788 75 7 = h779 75 7 := by rw [← e790]; exact x_up_k (by decide)
        have q812 : h779 75 7 = h769 75 7 := by rw [← e781]; exact x_up_k (by decide)
        have q813 : h769 75 7 = h730 75 7 := by rw [← e771]; exact x_up_i (by first | decide | omega)
        have q814 : h796 75 13 = (1 + (h730 75 13)) := by rw [← e798]; exact x_up_at
        have k822 : Kp h h7 (h 75 13 - 2147483648) := Kp.fr Kp.refl f9 (by first | decide | omega) (by decide)
        have k821 : Kp h h23 (h 75 13 - 2147483648) := Kp.fr k822 f25 (by first | decide | omega) (by decide)
        have k820 : Kp h h715 (h 75 13 - 2147483648) := by rw [← e717]; exact Kp.oth k821 (by decide)
        have q823 : h715 75 13 = h23 75 13 := by rw [← e717]; exact x_up_i (by first | decide | omega)
        have q824 : h23 75 13 = h7 75 13 := jK 0 f25 rg_75_13_0_1 (by first | decide | omega) (by first | decide | omega) (by decide)
        have q825 : h7 75 13 = h 75 13 := jK 0 f9 rg_75_13_0_1 (by first | decide | omega) (by first | decide | omega) (by decide)
        have k819 : Kp h h730 (h 75 13 - 2147483648) := Kp.trans k820 c738 (by first | decide | omega)
        have k818 : Kp h h769 (h 75 13 - 2147483648) := by rw [← e771]; exact Kp.oth k819 (by decide)
        have k817 : Kp h h779 (h 75 13 - 2147483648) := by rw [← e781]; exact Kp.up k818 (by first | decide | omega) (fun i hi => by first | decide | omega)
        have k816 : Kp h h788 (h 75 13 - 2147483648) := by rw [← e790]; exact Kp.up k817 (by first | decide | omega) (fun i hi => by first | decide | omega)
        have k815 : Kp h h796 (h 75 13 - 2147483648) := by rw [← e798]; exact Kp.oth k816 (by decide)
        have q826 : h796 75 13 = (1 + (h730 75 13)) := by rw [← e798]; exact x_up_at
        have q828 : h796 76 (1152 + 2 * u776) = h788 76 (1152 + 2 * u776) := by rw [← e798]; exact x_up_k (by decide)
        have q829 : h788 76 (1152 + 2 * u776) = h779 76 (1152 + 2 * u776) := by rw [← e790]; exact x_up_i (by first | decide | omega)
        have q830 : h779 76 (1152 + 2 * u776) = 2147483660 := by rw [← e781]; exact x_up_at
        have k834 : Kp h730 h769 (h730 75 13 - 2147483648) := by rw [← e771]; exact Kp.oth Kp.refl (by decide)
        have k833 : Kp h730 h779 (h730 75 13 - 2147483648) := by rw [← e781]; exact Kp.up k834 (by first | decide | omega) (fun i hi => by first | decide | omega)
        have k832 : Kp h730 h788 (h730 75 13 - 2147483648) := by rw [← e790]; exact Kp.up k833 (by first | decide | omega) (fun i hi => by first | decide | omega)
        have k831 : Kp h730 h796 (h730 75 13 - 2147483648) := by rw [← e798]; exact Kp.oth k832 (by decide)
        have s827 : Seg (sg h796) (h715 75 13 - 2147483648) (u776 + 1) := Seg.not (Seg.cast (a' := (h715 75 13 - 2147483648)) (b' := u776) (Seg.kp s762 k831) rfl (by first | decide | omega)) (show h796 76 (1152 + 2 * u776) = 2147483660 by first | decide | omega)
        have s835 : Seg (sg h796) (h 75 13 - 2147483648) (h796 75 13 - 2147483648) := Seg.cast (Seg.kp s827 Kp.refl) (by first | decide | omega) (by first | decide | omega)
        obtain ⟨w836, e837⟩ := Tk.no c13 (by first | decide | omega)
        obtain ⟨w838, e839⟩ := Tk.yes c29 (by first | decide | omega)
        have q840 : h715 75 7 = h23 75 7 := by rw [← e717]; exact x_up_i (by first | decide | omega)
        have q841 : h796 75 7 = h788 75 7 := by rw [← e798]; exact x_up_i (by first | decide | omega)
        have q842 : h788 75 7 = h779 75 7 := by rw [← e790]; exact x_up_k (by decide)
        have q843 : h779 75 7 = h769 75 7 := by rw [← e781]; exact x_up_k (by decide)
        have q844 : h769 75 7 = h730 75 7 := by rw [← e771]; exact x_up_i (by first | decide | omega)
        refine x_retI (np := 114) (x := 0) (by decide +kernel) (by decide) (Or.inr ⟨by decide +kernel, by first | decide | omega, by first | decide | omega⟩) ⟨_, rfl, (by decide), ?_⟩
        exact ⟨j797, f799, (by first | decide | omega), (fun z => by first | decide | omega), (fun z => by first | decide | omega), (fun z => by first | decide | omega), (fun z => by first | decide | omega), k815, (fun _ => s835), (gA_not w838 e837 e839 (by decide) c740 (congrArg (sk tB tN) (show h715 75 7 = h23 75 7 by first | decide | omega)) (by first | decide | omega) (fun z => (congrArg (sk tB tN) (show h730 75 7 = h796 75 7 by first | decide | omega)))), (fun z => absurd z (by first | decide | omega))⟩
      have q757 : ¬ (v725 ≠ 2147483648) := q757
      refine x_const (np := 94) (x := 9223372039002259456) (a := 2147483648) (by decide +kernel) (by decide) (by decide) ?_
      have q845 : h730 75 10 = h715 75 10 := jK 0 f732 rg_75_10_0_1 (by first | decide | omega) (by first | decide | omega) (by decide)
      have q846 : h715 75 10 = (1 + (h 75 10)) := by rw [← e717]; exact x_up_at
      have k850 : Kp h h7 (h 75 13 - 2147483648) := Kp.fr Kp.refl f9 (by first | decide | omega) (by decide)
      have k849 : Kp h h23 (h 75 13 - 2147483648) := Kp.fr k850 f25 (by first | decide | omega) (by decide)
      have k848 : Kp h h715 (h 75 13 - 2147483648) := by rw [← e717]; exact Kp.oth k849 (by decide)
      have q851 : h715 75 13 = h23 75 13 := by rw [← e717]; exact x_up_i (by first | decide | omega)
      have q852 : h23 75 13 = h7 75 13 := jK 0 f25 rg_75_13_0_1 (by first | decide | omega) (by first | decide | omega) (by decide)
      have q853 : h7 75 13 = h 75 13 := jK 0 f9 rg_75_13_0_1 (by first | decide | omega) (by first | decide | omega) (by decide)
      have k847 : Kp h h730 (h 75 13 - 2147483648) := Kp.trans k848 c738 (by first | decide | omega)
      obtain ⟨w854, e855⟩ := Tk.no c13 (by first | decide | omega)
      obtain ⟨w856, e857⟩ := Tk.yes c29 (by first | decide | omega)
      have q858 : h715 75 7 = h23 75 7 := by rw [← e717]; exact x_up_i (by first | decide | omega)
      obtain ⟨w859, e860⟩ := Tk.no c13 (by first | decide | omega)
      obtain ⟨w861, e862⟩ := Tk.yes c29 (by first | decide | omega)
      have q863 : h715 75 7 = h23 75 7 := by rw [← e717]; exact x_up_i (by first | decide | omega)
      refine x_retI (np := 95) (x := 0) (by decide +kernel) (by decide) (Or.inr ⟨by decide +kernel, by first | decide | omega, by first | decide | omega⟩) ⟨_, rfl, (by decide), ?_⟩
      exact ⟨j731, f742, (by first | decide | omega), (fun z => by first | decide | omega), (fun z => by first | decide | omega), (fun z => by first | decide | omega), (fun z => by first | decide | omega), k847, (fun z => absurd z (by first | decide | omega)), (gA_not w856 e855 e857 (by decide) c740 (congrArg (sk tB tN) (show h715 75 7 = h23 75 7 by first | decide | omega)) (by first | decide | omega) (fun z => absurd z (by first | decide | omega))), (fun _ => fA_not w861 e860 e862 (by decide) (c741 (by first | decide | omega)) (congrArg (sk tB tN) (show h715 75 7 = h23 75 7 by first | decide | omega)) rfl)⟩
    have q711 : ¬ ((h 75 10) ≠ 2147483654) := q711
    exfalso; omega
  have q18 : ¬ (v4 = 2147483648) := q18
  have b864 := c12 (by first | decide | omega)
  refine x_aload (np := 10) (x := 0) (by decide +kernel) rfl (x_nc_le (by decide)) ?_
  have q865 : h7 75 10 = h 75 10 := jK 0 f9 rg_75_10_0_1 (by first | decide | omega) (by first | decide | omega) (by decide)
  refine x_getC (np := 13) (x := 714) (f := 10) (q := (h 75 10)) (by decide +kernel) (by decide) (by decide +kernel) q865 (fun l866 => ?_)
  refine x_const (np := 15) (x := 9223372064772063238) (a := 2147483654) (by decide +kernel) (by decide) (by decide) ?_
  refine x_icmp (k := 1) (tg := 20) (np := 18) (by decide +kernel) (by decide) l866 (by decide) (fun q867 => ?_) (fun q868 => ?_)
  · have q867 : (h 75 10) ≠ 2147483654 := q867
    refine x_aload (np := 21) (x := 0) (by decide +kernel) rfl (x_nc_le (by decide)) ?_
    refine x_dup (np := 22) (x := 0) (by decide +kernel) (by have z := x_nc_le (k := 75) (by decide); unfold x_r; omega) ?_
    have q869 : h7 75 10 = h 75 10 := jK 0 f9 rg_75_10_0_1 (by first | decide | omega) (by first | decide | omega) (by decide)
    refine x_getC (np := 25) (x := 714) (f := 10) (q := (h 75 10)) (by decide +kernel) (by decide) (by decide +kernel) q869 (fun l870 => ?_)
    refine x_const (np := 26) (x := 9223372043297226753) (a := 2147483649) (by decide +kernel) (by decide) (by decide) ?_
    refine x_iadd (np := 27) (x := 0) (v := (1 + (h 75 10))) (by decide +kernel) l866 (by decide) (by first | decide | omega) (by first | decide | omega) ?_
    refine x_putI (np := 30) (x := 714) (f := 10) (by decide +kernel) (by decide +kernel) (by first | decide | omega) (Or.inl (by decide)) ?_
    have j872 := jU (e := 10) (v := (1 + (h 75 10))) 0 j8 rg_75_10_0_1 (by first | decide | omega) (by first | decide | omega) (by first | decide | omega)
    have f874 := jF (e := 10) (v := (1 + (h 75 10))) 0 f15 rg_75_10_0_1 (by first | decide | omega) (by first | decide | omega) (by decide)
    generalize e873 : x_up h7 75 10 (1 + (h 75 10)) = h871 at j872 f874 ⊢
    refine x_aload (np := 31) (x := 0) (by decide +kernel) rfl (x_nc_le (by decide)) ?_
    have q875 : h871 75 10 = (1 + (h 75 10)) := by rw [← e873]; exact x_up_at
    have q876 : h871 75 13 = h7 75 13 := by rw [← e873]; exact x_up_i (by first | decide | omega)
    have q877 : h7 75 13 = h 75 13 := jK 0 f9 rg_75_13_0_1 (by first | decide | omega) (by first | decide | omega) (by decide)
    have q878 : h871 75 7 = h7 75 7 := by rw [← e873]; exact x_up_i (by first | decide | omega)
    have q879 : h871 75 10 = (1 + (h 75 10)) := by rw [← e873]; exact x_up_at
    have m884 := Tq.fr hT f9 (by decide) (by decide)
    have m883 : Tq tB tN h871 := by rw [← e873]; exact Tq.oth m884 (by decide) (by decide)
    refine x_cI (t := 6) (mj := 192) (n := 1) (rc := 12) (ml := 1) (nr := 0) (np := 34) (as := [x_r 75]) (rest := []) (lo1 := [x_r 75]) (by decide +kernel) (by decide) (by decide +kernel) (x_rb_of (by decide +kernel)) rfl rfl (x_wr (by decide) x_wn) x_wn (by decide) rfl (c192_75_D6 j872  (by first | decide | omega) (by first | decide | omega) m883) (fun v880 h885 l881 q882 => ?_)
    obtain ⟨j886, f887, b888, c889, c890, c891, c892, c893, c894, c895, c896⟩ := q882
    have f897 := Fr.trans f874 f887 (by decide)
    have q898 : h871 75 13 = h7 75 13 := by rw [← e873]; exact x_up_i (by first | decide | omega)
    have q899 : h7 75 13 = h 75 13 := jK 0 f9 rg_75_13_0_1 (by first | decide | omega) (by first | decide | omega) (by decide)
    have b900 := jB (e := 13) 0 j886 rg_75_13_0_1 (by first | decide | omega) (by first | decide | omega)
    have q901 : h871 75 7 = h7 75 7 := by rw [← e873]; exact x_up_i (by first | decide | omega)
    have b902 := jB (e := 7) 0 j886 rg_75_7_0_1 (by first | decide | omega) (by first | decide | omega)
    have q903 : h871 75 10 = (1 + (h 75 10)) := by rw [← e873]; exact x_up_at
    have q904 : h885 75 10 = h871 75 10 := jK 0 f887 rg_75_10_0_1 (by first | decide | omega) (by first | decide | omega) (by decide)
    have q905 : h871 75 10 = (1 + (h 75 10)) := by rw [← e873]; exact x_up_at
    have q906 : h871 75 7 = h7 75 7 := by rw [← e873]; exact x_up_i (by first | decide | omega)
    have q907 : h871 75 13 = h7 75 13 := by rw [← e873]; exact x_up_i (by first | decide | omega)
    have q908 : h7 75 13 = h 75 13 := jK 0 f9 rg_75_13_0_1 (by first | decide | omega) (by first | decide | omega) (by decide)
    refine x_ifz (k := 1) (tg := 39) (np := 37) (by decide +kernel) (by decide) l881 (fun q909 => ?_) (fun q910 => ?_)
    · have q909 : v880 ≠ 2147483648 := q909
      have b911 := c889 (by first | decide | omega)
      have b912 := c890 (by first | decide | omega)
      have b913 := c891 (by first | decide | omega)
      have b914 := c892 (by first | decide | omega)
      have s915 := c894 (by first | decide | omega)
      have q916 : h871 75 13 = h7 75 13 := by rw [← e873]; exact x_up_i (by first | decide | omega)
      have q917 : h7 75 13 = h 75 13 := jK 0 f9 rg_75_13_0_1 (by first | decide | omega) (by first | decide | omega) (by decide)
      refine x_aload (np := 40) (x := 0) (by decide +kernel) rfl (x_nc_le (by decide)) ?_
      refine x_dup (np := 41) (x := 0) (by decide +kernel) (by have z := x_nc_le (k := 75) (by decide); unfold x_r; omega) ?_
      have q918 : h885 75 10 = h871 75 10 := jK 0 f887 rg_75_10_0_1 (by first | decide | omega) (by first | decide | omega) (by decide)
      have q919 : h871 75 10 = (1 + (h 75 10)) := by rw [← e873]; exact x_up_at
      refine x_getC (np := 44) (x := 714) (f := 10) (q := (1 + (h 75 10))) (by decide +kernel) (by decide) (by decide +kernel) (q918.trans q919) (fun l920 => ?_)
      refine x_const (np := 45) (x := 9223372043297226753) (a := 2147483649) (by decide +kernel) (by decide) (by decide) ?_
      refine x_isub (np := 46) (x := 0) (v := (h 75 10)) (by decide +kernel) (by first | decide | omega) (by decide) (by first | decide | omega) (by first | decide | omega) ?_
      refine x_putI (np := 49) (x := 714) (f := 10) (by decide +kernel) (by decide +kernel) l866 (Or.inl (by decide)) ?_
      have j922 := jU (e := 10) (v := (h 75 10)) 0 j886 rg_75_10_0_1 (by first | decide | omega) (by first | decide | omega) (by first | decide | omega)
      have f924 := jF (e := 10) (v := (h 75 10)) 0 f897 rg_75_10_0_1 (by first | decide | omega) (by first | decide | omega) (by decide)
      generalize e923 : x_up h885 75 10 (h 75 10) = h921 at j922 f924 ⊢
      refine x_aload (np := 50) (x := 0) (by decide +kernel) rfl (x_nc_le (by decide)) ?_
      refine x_const (np := 52) (x := 9223372215095918633) (a := 2147483689) (by decide +kernel) (by decide) (by decide) ?_
      have m929 := Tq.fr m883 f887 (by decide) (by decide)
      have m928 : Tq tB tN h921 := by rw [← e923]; exact Tq.oth m929 (by decide) (by decide)
      refine x_cI (t := 6) (mj := 173) (n := 2) (rc := 12) (ml := 2) (nr := 0) (np := 55) (as := [x_r 75, iv_c 2147483689]) (rest := []) (lo1 := [x_r 75, iv_c 2147483689]) (by decide +kernel) (by decide) (by decide +kernel) (x_rb_of (by decide +kernel)) rfl rfl (x_wr (by decide) (x_wi (by decide) x_wn)) x_wn (by decide) rfl (c173_75 j922  (by first | decide | omega) m928) (fun v925 h930 l926 q927 => ?_)
      obtain ⟨j931, f932, b933, c934, c935, c936, c937⟩ := q927
      have f938 := Fr.trans f924 f932 (by decide)
      have q939 : h921 75 7 = h885 75 7 := by rw [← e923]; exact x_up_i (by first | decide | omega)
      have b940 := jB (e := 7) 0 j931 rg_75_7_0_1 (by first | decide | omega) (by first | decide | omega)
      have q941 : h921 75 7 = h885 75 7 := by rw [← e923]; exact x_up_i (by first | decide | omega)
      have q942 : h930 75 13 = h921 75 13 := jK 0 f932 rg_75_13_0_1 (by first | decide | omega) (by first | decide | omega) (by decide)
      have q943 : h921 75 13 = h885 75 13 := by rw [← e923]; exact x_up_i (by first | decide | omega)
      have q944 : h930 75 10 = h921 75 10 := jK 0 f932 rg_75_10_0_1 (by first | decide | omega) (by first | decide | omega) (by decide)
      have q945 : h921 75 10 = (h 75 10) := by rw [← e923]; exact x_up_at
      have q946 : h930 75 13 = h921 75 13 := jK 0 f932 rg_75_13_0_1 (by first | decide | omega) (by first | decide | omega) (by decide)
      have q947 : h921 75 13 = h885 75 13 := by rw [← e923]; exact x_up_i (by first | decide | omega)
      have k952 : Kp h h7 (h 75 13 - 2147483648) := Kp.fr Kp.refl f9 (by first | decide | omega) (by decide)
      have k951 : Kp h h871 (h 75 13 - 2147483648) := by rw [← e873]; exact Kp.oth k952 (by decide)
      have q953 : h871 75 13 = h7 75 13 := by rw [← e873]; exact x_up_i (by first | decide | omega)
      have q954 : h7 75 13 = h 75 13 := jK 0 f9 rg_75_13_0_1 (by first | decide | omega) (by first | decide | omega) (by decide)
      have k950 : Kp h h885 (h 75 13 - 2147483648) := Kp.trans k951 c893 (by first | decide | omega)
      have k949 : Kp h h921 (h 75 13 - 2147483648) := by rw [← e923]; exact Kp.oth k950 (by decide)
      have k948 : Kp h h930 (h 75 13 - 2147483648) := Kp.fr k949 f932 (by first | decide | omega) (by decide)
      have q955 : h930 75 13 = h921 75 13 := jK 0 f932 rg_75_13_0_1 (by first | decide | omega) (by first | decide | omega) (by decide)
      have q956 : h921 75 13 = h885 75 13 := by rw [← e923]; exact x_up_i (by first | decide | omega)
      have k958 : Kp h885 h921 (h885 75 13 - 2147483648) := by rw [← e923]; exact Kp.oth Kp.refl (by decide)
      have k957 : Kp h885 h930 (h885 75 13 - 2147483648) := Kp.fr k958 f932 (by first | decide | omega) (by decide)
      have s959 : Seg (sg h930) (h 75 13 - 2147483648) (h930 75 13 - 2147483648) := Seg.cast (Seg.kp s915 k957) (by first | decide | omega) (by first | decide | omega)
      obtain ⟨w960, e961⟩ := Tk.yes c13 (by first | decide | omega)
      have q962 : h871 75 7 = h7 75 7 := by rw [← e873]; exact x_up_i (by first | decide | omega)
      have q963 : h921 75 7 = h885 75 7 := by rw [← e923]; exact x_up_i (by first | decide | omega)
      obtain ⟨w964, e965⟩ := Tk.yes c13 (by first | decide | omega)
      have q966 : h871 75 7 = h7 75 7 := by rw [← e873]; exact x_up_i (by first | decide | omega)
      have q967 : h921 75 7 = h885 75 7 := by rw [← e923]; exact x_up_i (by first | decide | omega)
      refine x_retI (np := 56) (x := 0) (by decide +kernel) l926 (Or.inr ⟨by decide +kernel, by first | decide | omega, by first | decide | omega⟩) ⟨_, rfl, l926, ?_⟩
      exact ⟨j931, f938, (by first | decide | omega), (fun z => by first | decide | omega), (fun z => by first | decide | omega), (fun z => by first | decide | omega), (fun z => by first | decide | omega), k948, (fun _ => s959), (gA_parT w960 rfl e961 (by decide) c895 (congrArg (sk tB tN) (show h871 75 7 = h7 75 7 by first | decide | omega)) (by first | decide | omega) c936 (congrArg (sk tB tN) (show h921 75 7 = h885 75 7 by first | decide | omega)) (by first | decide | omega) (fun z => rfl)), (fun _ => fA_par1 w964 rfl e965 (by decide) c895 (congrArg (sk tB tN) (show h871 75 7 = h7 75 7 by first | decide | omega)) (by first | decide | omega) (Tk.no c936 (by first | decide | omega)).1 (congrArg (sk tB tN) (show h921 75 7 = h885 75 7 by first | decide | omega)) c937)⟩
    have q910 : ¬ (v880 ≠ 2147483648) := q910
    refine x_const (np := 38) (x := 9223372039002259456) (a := 2147483648) (by decide +kernel) (by decide) (by decide) ?_
    have q968 : h885 75 10 = h871 75 10 := jK 0 f887 rg_75_10_0_1 (by first | decide | omega) (by first | decide | omega) (by decide)
    have q969 : h871 75 10 = (1 + (h 75 10)) := by rw [← e873]; exact x_up_at
    have k972 : Kp h h7 (h 75 13 - 2147483648) := Kp.fr Kp.refl f9 (by first | decide | omega) (by decide)
    have k971 : Kp h h871 (h 75 13 - 2147483648) := by rw [← e873]; exact Kp.oth k972 (by decide)
    have q973 : h871 75 13 = h7 75 13 := by rw [← e873]; exact x_up_i (by first | decide | omega)
    have q974 : h7 75 13 = h 75 13 := jK 0 f9 rg_75_13_0_1 (by first | decide | omega) (by first | decide | omega) (by decide)
    have k970 : Kp h h885 (h 75 13 - 2147483648) := Kp.trans k971 c893 (by first | decide | omega)
    obtain ⟨w975, e976⟩ := Tk.yes c13 (by first | decide | omega)
    have q977 : h871 75 7 = h7 75 7 := by rw [← e873]; exact x_up_i (by first | decide | omega)
    obtain ⟨w978, e979⟩ := Tk.yes c13 (by first | decide | omega)
    have q980 : h871 75 7 = h7 75 7 := by rw [← e873]; exact x_up_i (by first | decide | omega)
    refine x_retI (np := 39) (x := 0) (by decide +kernel) (by decide) (Or.inr ⟨by decide +kernel, by first | decide | omega, by first | decide | omega⟩) ⟨_, rfl, (by decide), ?_⟩
    exact ⟨j886, f897, (by first | decide | omega), (fun z => by first | decide | omega), (fun z => by first | decide | omega), (fun z => by first | decide | omega), (fun z => by first | decide | omega), k970, (fun z => absurd z (by first | decide | omega)), (gA_par0 w975 rfl e976 (by decide) c895 (congrArg (sk tB tN) (show h871 75 7 = h7 75 7 by first | decide | omega)) (by first | decide | omega) (by first | decide | omega)), (fun _ => fA_par0 w978 rfl e979 (by decide) (c896 (by first | decide | omega)) (congrArg (sk tB tN) (show h871 75 7 = h7 75 7 by first | decide | omega)) rfl)⟩
  have q868 : ¬ ((h 75 10) ≠ 2147483654) := q868
  exfalso; omega
