/-! ===== methods ===== -/
set_option maxHeartbeats 0 in
/-- LentNames$Table.addRow()I -/
theorem c67_T3 {sc : Nat × Nat} {d ra0 : Nat} {h : xh} (hJ : J h) (ta0 : tw ra0) (hr0 : (h (ra0 + 3) 2) + 1 ≤ 2147483658) : X sc 67 (d + 1) (xI fun r h' => J h' ∧ Fr 18295873486192640 h h' ∧ (2147483648 ≤ r ∧ r ≤ 2147483657) ∧ (h' ra0 7 = h ra0 7) ∧ (h' ra0 8 = h ra0 8) ∧ (h' (ra0 + 1) 2 = h (ra0 + 1) 2) ∧ (h' (ra0 + 3) 2 = h (ra0 + 3) 2 + 1) ∧ (h' (ra0 + 5) 2 = h (ra0 + 5) 2) ∧ (h' (ra0 + 7) 2 = h (ra0 + 7) 2) ∧ (r + 1 = h' (ra0 + 3) 2) ∧ Ot ra0 h h' ∧ (∀ u, u < 10 → 2147483648 + u ≠ h (ra0 + 3) 2 → wq h' ra0 u = wq h ra0 u)) 0 0 0 [x_r (ra0 + 3), 147573952589676412928] [] h := by
  have hF := Fr.refl 18295873486192640 h
  have b1 := jB (e := 2) 0 hJ (rg_T3_2_0_1 ta0) (by first | decide | omega) (by first | decide | omega)
  refine x_aload (np := 1) (x := 0) (by decide +kernel) rfl (x_nc_le (tn_3 ta0)) ?_
  refine x_nI (t := 6) (mj := 66) (n := 1) (rc := 7) (ml := 1) (nr := 0) (np := 4) (as := [x_r (ra0 + 3)]) (rest := []) (lo1 := [x_r (ra0 + 3)]) (by decide +kernel) (by decide) (by decide +kernel) (x_rb_of (tr_3_7 ta0)) rfl rfl (x_wr (tn_3 ta0) x_wn) x_wn (by decide) rfl ?_
  refine x_aload (np := 1) (x := 0) (by decide +kernel) rfl (x_nc_le (tn_3 ta0)) ?_
  refine x_getC (np := 4) (x := 386) (f := 2) (q := (h (ra0 + 3) 2)) (by decide +kernel) (by decide) (tg_3_386_2_0 ta0) rfl (fun l2 => ?_)
  refine x_const (np := 5) (x := 9223372043297226753) (a := 2147483649) (by decide +kernel) (by decide) (by decide) ?_
  refine x_iadd (np := 6) (x := 0) (v := (1 + (h (ra0 + 3) 2))) (by decide +kernel) l2 (by decide) (by first | decide | omega) (by first | decide | omega) ?_
  refine x_aload (np := 7) (x := 0) (by decide +kernel) rfl (x_nc_le (tn_3 ta0)) ?_
  have b3 := jB (e := 0) 0 hJ (rg_T3_0_0_1 ta0) (by first | decide | omega) (by first | decide | omega)
  have q4 : (h (ra0 + 3) 0) = 2147483652 := by first | decide | omega
  refine x_getC (np := 10) (x := 384) (f := 0) (q := 2147483652) (by decide +kernel) (by decide) (tg_3_384_0_0 ta0) q4 (fun l5 => ?_)
  obtain ⟨u6, q7⟩ : ∃ z, (h (ra0 + 3) 2) = 2147483648 + z := ⟨(h (ra0 + 3) 2) - 2147483648, by first | decide | omega⟩
  refine x_imul (np := 11) (x := 0) (i := (1 + u6)) (j := 4) (v := (2147483652 + 4 * u6)) (by decide +kernel) (by first | decide | omega) (by first | decide | omega) (by first | decide | omega) (by first | decide | omega) (by first | decide | omega) (by decide) ?_
  refine x_aload (np := 12) (x := 0) (by decide +kernel) rfl (x_nc_le (tn_3 ta0)) ?_
  have q9 : h (ra0 + 3) 1 = (ra0 + 4) := tf_3_1 hJ ta0
  refine x_getR (np := 15) (x := 385) (f := 1) (q := (ra0 + 4)) (by decide +kernel) (by decide) (tg_3_385_1_1 ta0) q9 ?_
  refine x_alen (np := 16) (x := 0) (n := 40) (by decide +kernel) (tn_4 ta0) (tl_4 ta0).1 (tl_4 ta0).2 (by decide) ?_
  show X _ _ _ _ _ _ _ _ [iv_c 2147483688, iv_c (2147483652 + 4 * u6)] _
  refine x_icmp (k := 5) (tg := 23) (np := 19) (by decide +kernel) (by decide) (by first | decide | omega) (by decide) (fun q10 => ?_) (fun q11 => ?_)
  · have q10 : (2147483652 + 4 * u6) ≤ 2147483688 := q10
    refine x_const (np := 24) (x := 9223372039002259456) (a := 2147483648) (by decide +kernel) (by decide) (by decide) ?_
    refine x_retI (np := 25) (x := 0) (by decide +kernel) (by decide) (Or.inr ⟨by decide +kernel, by first | decide | omega, by first | decide | omega⟩) ⟨_, rfl, (by decide), ?_⟩
    refine x_ifz (k := 0) (tg := 9) (np := 7) (by decide +kernel) (by decide) (by decide) (fun q12 => ?_) (fun q13 => ?_)
    · have q12 : 2147483648 = 2147483648 := q12
      refine x_aload (np := 10) (x := 0) (by decide +kernel) rfl (x_nc_le (tn_3 ta0)) ?_
      refine x_dup (np := 11) (x := 0) (by decide +kernel) (by have z := x_nc_le (k := (ra0 + 3)) (tn_3 ta0); unfold x_r; omega) ?_
      refine x_getC (np := 14) (x := 386) (f := 2) (q := (h (ra0 + 3) 2)) (by decide +kernel) (by decide) (tg_3_386_2_0 ta0) rfl (fun l14 => ?_)
      refine x_const (np := 15) (x := 9223372043297226753) (a := 2147483649) (by decide +kernel) (by decide) (by decide) ?_
      refine x_iadd (np := 16) (x := 0) (v := (1 + (h (ra0 + 3) 2))) (by decide +kernel) l2 (by decide) (by first | decide | omega) (by first | decide | omega) ?_
      refine x_putI (np := 19) (x := 386) (f := 2) (by decide +kernel) (tg_3_386_2_0 ta0) (by first | decide | omega) (Or.inl (by decide)) ?_
      have j16 := jU (e := 2) (v := (1 + (h (ra0 + 3) 2))) 0 hJ (rg_T3_2_0_1 ta0) (by first | decide | omega) (by first | decide | omega) (by first | decide | omega)
      have f18 := jF (e := 2) (v := (1 + (h (ra0 + 3) 2))) 0 hF (rg_T3_2_0_1 ta0) (by first | decide | omega) (by first | decide | omega) (by decide)
      generalize e17 : x_up h (ra0 + 3) 2 (1 + (h (ra0 + 3) 2)) = h15 at j16 f18 ⊢
      refine x_const (np := 20) (x := 9223372039002259456) (a := 2147483648) (by decide +kernel) (by decide) (by decide) ?_
      refine x_istore (np := 21) (x := 1) (lo' := [x_r (ra0 + 3), iv_c 2147483648]) (by decide +kernel) (by decide) (Nat.le_of_ble_eq_true rfl) rfl ?_
      have p180 : ∀ (n : Nat) (v175 : Nat) (h177 : xh), 4294967296 - v175 < n → (2147483648 ≤ v175 ∧ v175 ≤ 2147483652) → J h177 → Fr 18014398509481984 h15 h177 → Ot ra0 h h177 → (∀ u, u < 10 → 2147483648 + u ≠ h (ra0 + 3) 2 → wq h177 ra0 u = wq h ra0 u) → X sc 67 (d + 1) (xI fun r h' => J h' ∧ Fr 18295873486192640 h h' ∧ (2147483648 ≤ r ∧ r ≤ 2147483657) ∧ (h' ra0 7 = h ra0 7) ∧ (h' ra0 8 = h ra0 8) ∧ (h' (ra0 + 1) 2 = h (ra0 + 1) 2) ∧ (h' (ra0 + 3) 2 = h (ra0 + 3) 2 + 1) ∧ (h' (ra0 + 5) 2 = h (ra0 + 5) 2) ∧ (h' (ra0 + 7) 2 = h (ra0 + 7) 2) ∧ (r + 1 = h' (ra0 + 3) 2) ∧ Ot ra0 h h' ∧ (∀ u, u < 10 → 2147483648 + u ≠ h (ra0 + 3) 2 → wq h' ra0 u = wq h ra0 u)) 0 0 21 [x_r (ra0 + 3), iv_c v175] [] h177 := by
        intro n
        induction n with
        | zero => intro v175 h177 q183; exact absurd q183 (Nat.not_lt_zero _)
        | succ n i184 =>
          intro v175 h177 q183 b176 j179 f178 m181 m182
          have f185 := Fr.trans f18 f178 (by decide)
          refine x_iload (np := 22) (x := 1) (by decide +kernel) rfl (by first | decide | omega) ?_
          refine x_aload (np := 23) (x := 0) (by decide +kernel) rfl (x_nc_le (tn_3 ta0)) ?_
          have q186 : h177 (ra0 + 3) 0 = h15 (ra0 + 3) 0 := jK 0 f178 (rg_T3_0_0_1 ta0) (by first | decide | omega) (by first | decide | omega) (by decide)
          have q187 : h15 (ra0 + 3) 0 = h (ra0 + 3) 0 := by rw [← e17]; exact x_up_i (by first | decide | omega)
          refine x_getC (np := 26) (x := 384) (f := 0) (q := 2147483652) (by decide +kernel) (by decide) (tg_3_384_0_0 ta0) ((q186.trans q187).trans q4) (fun l188 => ?_)
          refine x_icmp (k := 3) (tg := 47) (np := 29) (by decide +kernel) (by decide) (by first | decide | omega) (by decide) (fun q189 => ?_) (fun q190 => ?_)
          · have q189 : 2147483652 ≤ v175 := q189
            refine x_aload (np := 48) (x := 0) (by decide +kernel) rfl (x_nc_le (tn_3 ta0)) ?_
            have q191 : h177 (ra0 + 3) 2 = h15 (ra0 + 3) 2 := jK 0 f178 (rg_T3_2_0_1 ta0) (by first | decide | omega) (by first | decide | omega) (by decide)
            have q192 : h15 (ra0 + 3) 2 = (1 + (h (ra0 + 3) 2)) := by rw [← e17]; exact x_up_at
            refine x_getC (np := 51) (x := 386) (f := 2) (q := (1 + (h (ra0 + 3) 2))) (by decide +kernel) (by decide) (tg_3_386_2_0 ta0) (q191.trans q192) (fun l193 => ?_)
            refine x_const (np := 52) (x := 9223372043297226753) (a := 2147483649) (by decide +kernel) (by decide) (by decide) ?_
            refine x_isub (np := 53) (x := 0) (v := (h (ra0 + 3) 2)) (by decide +kernel) (by first | decide | omega) (by decide) (by first | decide | omega) (by first | decide | omega) ?_
            have b194 := jB (e := 7) 0 hJ (rg_T0_7_0_1 ta0) (by first | decide | omega) (by first | decide | omega)
            have q195 : h177 ra0 7 = h15 ra0 7 := jK 0 f178 (rg_T0_7_0_1 ta0) (by first | decide | omega) (by first | decide | omega) (by decide)
            have q196 : h15 ra0 7 = h ra0 7 := by rw [← e17]; exact x_up_k tof_0_3
            have q197 : h177 ra0 8 = h15 ra0 8 := jK 0 f178 (rg_T0_8_0_1 ta0) (by first | decide | omega) (by first | decide | omega) (by decide)
            have q198 : h15 ra0 8 = h ra0 8 := by rw [← e17]; exact x_up_k tof_0_3
            have b199 := jB (e := 2) 0 hJ (rg_T1_2_0_1 ta0) (by first | decide | omega) (by first | decide | omega)
            have q200 : h177 (ra0 + 1) 2 = h15 (ra0 + 1) 2 := jK 0 f178 (rg_T1_2_0_1 ta0) (by first | decide | omega) (by first | decide | omega) (by decide)
            have q201 : h15 (ra0 + 1) 2 = h (ra0 + 1) 2 := by rw [← e17]; exact x_up_k tof_1_3
            have q202 : h177 (ra0 + 3) 2 = h15 (ra0 + 3) 2 := jK 0 f178 (rg_T3_2_0_1 ta0) (by first | decide | omega) (by first | decide | omega) (by decide)
            have q203 : h15 (ra0 + 3) 2 = (1 + (h (ra0 + 3) 2)) := by rw [← e17]; exact x_up_at
            have b204 := jB (e := 2) 0 hJ (rg_T5_2_0_1 ta0) (by first | decide | omega) (by first | decide | omega)
            have q205 : h177 (ra0 + 5) 2 = h15 (ra0 + 5) 2 := jK 0 f178 (rg_T5_2_0_1 ta0) (by first | decide | omega) (by first | decide | omega) (by decide)
            have q206 : h15 (ra0 + 5) 2 = h (ra0 + 5) 2 := by rw [← e17]; exact x_up_k tof_5_3
            have b207 := jB (e := 2) 0 hJ (rg_T7_2_0_1 ta0) (by first | decide | omega) (by first | decide | omega)
            have q208 : h177 (ra0 + 7) 2 = h15 (ra0 + 7) 2 := jK 0 f178 (rg_T7_2_0_1 ta0) (by first | decide | omega) (by first | decide | omega) (by decide)
            have q209 : h15 (ra0 + 7) 2 = h (ra0 + 7) 2 := by rw [← e17]; exact x_up_k tof_7_3
            have q210 : h177 (ra0 + 3) 2 = h15 (ra0 + 3) 2 := jK 0 f178 (rg_T3_2_0_1 ta0) (by first | decide | omega) (by first | decide | omega) (by decide)
            have q211 : h15 (ra0 + 3) 2 = (1 + (h (ra0 + 3) 2)) := by rw [← e17]; exact x_up_at
            refine x_retI (np := 54) (x := 0) (by decide +kernel) l2 (Or.inl (by decide +kernel)) ⟨_, rfl, l2, ?_⟩
            exact ⟨j179, f185, (by first | decide | omega), (by first | decide | omega), (by first | decide | omega), (by first | decide | omega), (by first | decide | omega), (by first | decide | omega), (by first | decide | omega), (by first | decide | omega), m181, m182⟩
          have q190 : ¬ (2147483652 ≤ v175) := q190
          refine x_aload (np := 30) (x := 0) (by decide +kernel) rfl (x_nc_le (tn_3 ta0)) ?_
          refine x_aload (np := 31) (x := 0) (by decide +kernel) rfl (x_nc_le (tn_3 ta0)) ?_
          have q212 : h177 (ra0 + 3) 2 = h15 (ra0 + 3) 2 := jK 0 f178 (rg_T3_2_0_1 ta0) (by first | decide | omega) (by first | decide | omega) (by decide)
          have q213 : h15 (ra0 + 3) 2 = (1 + (h (ra0 + 3) 2)) := by rw [← e17]; exact x_up_at
          refine x_getC (np := 34) (x := 386) (f := 2) (q := (1 + (h (ra0 + 3) 2))) (by decide +kernel) (by decide) (tg_3_386_2_0 ta0) (q212.trans q213) (fun l214 => ?_)
          refine x_const (np := 35) (x := 9223372043297226753) (a := 2147483649) (by decide +kernel) (by decide) (by decide) ?_
          refine x_isub (np := 36) (x := 0) (v := (h (ra0 + 3) 2)) (by decide +kernel) (by first | decide | omega) (by decide) (by first | decide | omega) (by first | decide | omega) ?_
          refine x_iload (np := 37) (x := 1) (by decide +kernel) rfl (by first | decide | omega) ?_
          refine x_const (np := 38) (x := 9223372039002259456) (a := 2147483648) (by decide +kernel) (by decide) (by decide) ?_
          refine x_nV (t := 6) (mj := 69) (n := 4) (rc := 7) (ml := 5) (nr := 0) (np := 41) (as := [x_r (ra0 + 3), iv_c (h (ra0 + 3) 2), iv_c v175, iv_c 2147483648]) (rest := []) (lo1 := [x_r (ra0 + 3), iv_c (h (ra0 + 3) 2), iv_c v175, iv_c 2147483648, 147573952589676412928]) (by decide +kernel) (by decide) (by decide +kernel) (x_rb_of (tr_3_7 ta0)) rfl rfl (x_wr (tn_3 ta0) (x_wi l2 (x_wi (by first | decide | omega) (x_wi (by decide) x_wn)))) x_wn (by decide) rfl ?_
          refine x_iload (np := 1) (x := 1) (by decide +kernel) rfl l2 ?_
          refine x_ifz (k := 2) (tg := 28) (np := 4) (by decide +kernel) (by decide) l2 (fun q215 => ?_) (fun q216 => ?_)
          · have q215 : (h (ra0 + 3) 2) < 2147483648 := q215
            exfalso; omega
          have q216 : ¬ ((h (ra0 + 3) 2) < 2147483648) := q216
          refine x_iload (np := 5) (x := 1) (by decide +kernel) rfl l2 ?_
          refine x_aload (np := 6) (x := 0) (by decide +kernel) rfl (x_nc_le (tn_3 ta0)) ?_
          have q217 : h177 (ra0 + 3) 2 = h15 (ra0 + 3) 2 := jK 0 f178 (rg_T3_2_0_1 ta0) (by first | decide | omega) (by first | decide | omega) (by decide)
          have q218 : h15 (ra0 + 3) 2 = (1 + (h (ra0 + 3) 2)) := by rw [← e17]; exact x_up_at
          refine x_getC (np := 9) (x := 386) (f := 2) (q := (1 + (h (ra0 + 3) 2))) (by decide +kernel) (by decide) (tg_3_386_2_0 ta0) (q217.trans q218) (fun l219 => ?_)
          refine x_icmp (k := 3) (tg := 28) (np := 12) (by decide +kernel) (by decide) l2 (by first | decide | omega) (fun q220 => ?_) (fun q221 => ?_)
          · have q220 : (1 + (h (ra0 + 3) 2)) ≤ (h (ra0 + 3) 2) := q220
            exfalso; omega
          have q221 : ¬ ((1 + (h (ra0 + 3) 2)) ≤ (h (ra0 + 3) 2)) := q221
          refine x_iload (np := 13) (x := 2) (by decide +kernel) rfl (by first | decide | omega) ?_
          refine x_ifz (k := 2) (tg := 28) (np := 16) (by decide +kernel) (by decide) (by first | decide | omega) (fun q222 => ?_) (fun q223 => ?_)
          · have q222 : v175 < 2147483648 := q222
            exfalso; omega
          have q223 : ¬ (v175 < 2147483648) := q223
          refine x_iload (np := 17) (x := 2) (by decide +kernel) rfl (by first | decide | omega) ?_
          refine x_aload (np := 18) (x := 0) (by decide +kernel) rfl (x_nc_le (tn_3 ta0)) ?_
          have q224 : h177 (ra0 + 3) 0 = h15 (ra0 + 3) 0 := jK 0 f178 (rg_T3_0_0_1 ta0) (by first | decide | omega) (by first | decide | omega) (by decide)
          have q225 : h15 (ra0 + 3) 0 = h (ra0 + 3) 0 := by rw [← e17]; exact x_up_i (by first | decide | omega)
          refine x_getC (np := 21) (x := 384) (f := 0) (q := 2147483652) (by decide +kernel) (by decide) (tg_3_384_0_0 ta0) ((q224.trans q225).trans q4) (fun l226 => ?_)
          refine x_icmp (k := 3) (tg := 28) (np := 24) (by decide +kernel) (by decide) (by first | decide | omega) (by decide) (fun q227 => ?_) (fun q228 => ?_)
          · have q227 : 2147483652 ≤ v175 := q227
            exfalso; omega
          have q228 : ¬ (2147483652 ≤ v175) := q228
          refine x_const (np := 25) (x := 9223372043297226753) (a := 2147483649) (by decide +kernel) (by decide) (by decide) ?_
          refine x_goto (np := 28) (x := 29) (by decide +kernel) ?_
          refine x_istore (np := 31) (x := 4) (lo' := [x_r (ra0 + 3), iv_c (h (ra0 + 3) 2), iv_c v175, iv_c 2147483648, iv_c 2147483649]) (by decide +kernel) (by decide) (Nat.le_of_ble_eq_true rfl) rfl ?_
          refine x_iload (np := 33) (x := 4) (by decide +kernel) rfl (by decide) ?_
          refine x_ifz (k := 0) (tg := 50) (np := 36) (by decide +kernel) (by decide) (by decide) (fun q229 => ?_) (fun q230 => ?_)
          · have q229 : 2147483649 = 2147483648 := q229
            exfalso; omega
          have q230 : ¬ (2147483649 = 2147483648) := q230
          refine x_aload (np := 37) (x := 0) (by decide +kernel) rfl (x_nc_le (tn_3 ta0)) ?_
          have q231 : h177 (ra0 + 3) 1 = (ra0 + 4) := tf_3_1 j179 ta0
          refine x_getR (np := 40) (x := 385) (f := 1) (q := (ra0 + 4)) (by decide +kernel) (by decide) (tg_3_385_1_1 ta0) q231 ?_
          refine x_iload (np := 41) (x := 1) (by decide +kernel) rfl l2 ?_
          refine x_aload (np := 42) (x := 0) (by decide +kernel) rfl (x_nc_le (tn_3 ta0)) ?_
          have q232 : h177 (ra0 + 3) 0 = h15 (ra0 + 3) 0 := jK 0 f178 (rg_T3_0_0_1 ta0) (by first | decide | omega) (by first | decide | omega) (by decide)
          have q233 : h15 (ra0 + 3) 0 = h (ra0 + 3) 0 := by rw [← e17]; exact x_up_i (by first | decide | omega)
          refine x_getC (np := 45) (x := 384) (f := 0) (q := 2147483652) (by decide +kernel) (by decide) (tg_3_384_0_0 ta0) ((q232.trans q233).trans q4) (fun l234 => ?_)
          refine x_imul (np := 46) (x := 0) (i := u6) (j := 4) (v := (2147483648 + 4 * u6)) (by decide +kernel) (by first | decide | omega) (by first | decide | omega) (by first | decide | omega) (by first | decide | omega) l2 (by decide) ?_
          refine x_iload (np := 47) (x := 2) (by decide +kernel) rfl (by first | decide | omega) ?_
          refine x_iadd (np := 48) (x := 0) (v := (4 * u6 + v175)) (by decide +kernel) (by first | decide | omega) (by first | decide | omega) (by first | decide | omega) (by first | decide | omega) ?_
          refine x_iload (np := 49) (x := 3) (by decide +kernel) rfl (by decide) ?_
          obtain ⟨u236, q237⟩ : ∃ z, v175 = 2147483648 + z := ⟨v175 - 2147483648, by first | decide | omega⟩
          refine x_ast (np := 50) (x := 0) (kd := 1) (n := 40) (i := (4 * u6 + u236)) (by decide +kernel) (Or.inl rfl) (ta_4_40 ta0) (by first | decide | omega) (by first | decide | omega) (by decide) (by decide) (fun z => absurd z (by decide)) ?_
          have j239 := jUw (e := (4 * u6 + u236)) (v := 2147483648) j179 (rw_T4 ta0) (by first | decide | omega) (by first | decide | omega)
          have f241 := jFw (e := (4 * u6 + u236)) (v := 2147483648) f185 (rw_T4 ta0) (by first | decide | omega) (by decide)
          have f242 := jFw (e := (4 * u6 + u236)) (v := 2147483648) f178 (rw_T4 ta0) (by first | decide | omega) (by decide)
          generalize e240 : x_up h177 (ra0 + 4) (4 * u6 + u236) 2147483648 = h238 at j239 f241 f242 ⊢
          refine x_retV (np := 51) (x := 0) (by decide +kernel) (by decide +kernel) ⟨rfl, ?_⟩
          refine x_iinc (np := 44) (i := 1) (j := 2147483649) (v := (1 + v175)) (lo' := [x_r (ra0 + 3), iv_c (1 + v175)]) (by decide +kernel) (by decide) (by decide) rfl (by first | decide | omega) (by first | decide | omega) (by first | decide | omega) rfl ?_
          refine x_goto (np := 47) (x := 21) (by decide +kernel) ?_
          have m243 : Ot ra0 h h238 := by rw [← e240]; exact Ot.up (o := 4) m181 ta0 (by decide) rfl
          have m244 : ∀ u, u < 10 → 2147483648 + u ≠ h (ra0 + 3) 2 → wq h238 ra0 u = wq h ra0 u := fun u hu hne => (Eq.trans (show wq h238 ra0 u = wq h177 ra0 u by rw [← e240]; exact wq_i (by first | decide | omega)) (m182 u hu hne))
          exact i184 (1 + v175) h238 (by first | decide | omega) (by first | decide | omega) j239 f242 m243 m244
      have m245 : Ot ra0 h h15 := by rw [← e17]; exact Ot.up (o := 3) Ot.refl ta0 (by decide) rfl
      have m246 : ∀ u, u < 10 → 2147483648 + u ≠ h (ra0 + 3) 2 → wq h15 ra0 u = wq h ra0 u := fun u hu hne => (show wq h15 ra0 u = wq h ra0 u by rw [← e17]; exact wq_k (@ne_oo ra0 4 3 (by decide)))
      exact p180 _ 2147483648 h15 (Nat.lt_succ_self _) (by first | decide | omega) j16 (Fr.refl _ _) m245 m246
    have q13 : ¬ (2147483648 = 2147483648) := q13
    exfalso; omega
  have q11 : ¬ ((2147483652 + 4 * u6) ≤ 2147483688) := q11
  exfalso; omega
set_option maxHeartbeats 0 in
/-- LentNames$TownReader.readLetter()Z -/
theorem c98_61 {sc : Nat × Nat} {d  : Nat} {h : xh} {tB : Nat → Nat} {tN : Nat} (hJ : J h) (hr0 : (rv h 3) + 1 ≤ 2147483658) (hT : Tp tB tN h) : X sc 98 (d + 6) (xI fun r h' => J h' ∧ Fr 18295873486192673 h h' ∧ (2147483648 ≤ r ∧ r ≤ 2147483649) ∧ (rv h' 0 = rv h 0) ∧ (rv h' 1 = rv h 1) ∧ (rv h' 2 = rv h 2) ∧ (r = 2147483649 → rv h' 3 = rv h 3 + 1) ∧ (rv h' 4 = rv h 4) ∧ (rv h' 5 = rv h 5) ∧ letter9 tB tN (rv h 0) (h 1 2) (rs r (h' 1 2)) ∧ Ot (h 61 1) h h' ∧ (r = 2147483649 → Wl (wq h (h 61 1)) (wq h' (h 61 1)) (rv h 3) (rv h' 3))) 0 0 0 [x_r 61, 147573952589676412928] [] h := by
  have hF := Fr.refl 18295873486192673 h
  have t1 : tw (h 61 1) := hJ.2.2.2.2.1
  have b2 := jB (e := 2) 0 hJ (rg_T3_2_0_1 t1) (by first | decide | omega) (by first | decide | omega)
  have e3 : rv h 3 = (h ((h 61 1) + 3) 2) := (congrArg (fun z => svq h z 3) rfl).trans rfl
  refine x_aload (np := 1) (x := 0) (by decide +kernel) rfl (x_nc_le (by decide)) ?_
  refine x_getR (np := 4) (x := 577) (f := 1) (q := (h 61 1)) (by decide +kernel) (by decide) (by decide +kernel) rfl ?_
  have q4 : h (h 61 1) 1 = ((h 61 1) + 3) := tf_0_1 hJ t1
  refine x_getR (np := 7) (x := 513) (f := 1) (q := ((h 61 1) + 3)) (by decide +kernel) (by decide) (tg_0_513_1_1 t1) q4 ?_
  refine x_cI (t := 6) (mj := 67) (n := 1) (rc := 7) (ml := 2) (nr := 0) (np := 10) (as := [x_r ((h 61 1) + 3)]) (rest := []) (lo1 := [x_r ((h 61 1) + 3), 147573952589676412928]) (by decide +kernel) (by decide) (by decide +kernel) (x_rb_of (tr_3_7 t1)) rfl rfl (x_wr (tn_3 t1) x_wn) x_wn (by decide) rfl (c67_T3 hJ t1 (by first | decide | omega)) (fun v5 h8 l6 q7 => ?_)
  obtain ⟨j9, f10, b11, c12, c13, c14, c15, c16, c17, c18, c19, c20⟩ := q7
  have f21 := Fr.trans hF f10 (by decide)
  have b22 := jB (e := 7) 0 hJ (rg_T0_7_0_1 t1) (by first | decide | omega) (by first | decide | omega)
  have b23 := jB (e := 7) 0 j9 (rg_T0_7_0_1 t1) (by first | decide | omega) (by first | decide | omega)
  have b24 := jB (e := 2) 0 hJ (rg_T1_2_0_1 t1) (by first | decide | omega) (by first | decide | omega)
  have b25 := jB (e := 2) 0 j9 (rg_T1_2_0_1 t1) (by first | decide | omega) (by first | decide | omega)
  have b26 := jB (e := 2) 0 j9 (rg_T3_2_0_1 t1) (by first | decide | omega) (by first | decide | omega)
  have b27 := jB (e := 2) 0 hJ (rg_T5_2_0_1 t1) (by first | decide | omega) (by first | decide | omega)
  have b28 := jB (e := 2) 0 j9 (rg_T5_2_0_1 t1) (by first | decide | omega) (by first | decide | omega)
  have b29 := jB (e := 2) 0 hJ (rg_T7_2_0_1 t1) (by first | decide | omega) (by first | decide | omega)
  have b30 := jB (e := 2) 0 j9 (rg_T7_2_0_1 t1) (by first | decide | omega) (by first | decide | omega)
  refine x_istore (np := 11) (x := 1) (lo' := [x_r 61, iv_c v5]) (by decide +kernel) l6 (Nat.le_of_ble_eq_true rfl) rfl ?_
  refine x_aload (np := 12) (x := 0) (by decide +kernel) rfl (x_nc_le (by decide)) ?_
  have q31 : h8 61 1 = h 61 1 := f10 61 1 (by decide +kernel)
  refine x_getR (np := 15) (x := 577) (f := 1) (q := (h 61 1)) (by decide +kernel) (by decide) (by decide +kernel) q31 ?_
  have q32 : h8 (h 61 1) 1 = ((h 61 1) + 3) := tf_0_1 j9 t1
  refine x_getR (np := 18) (x := 513) (f := 1) (q := ((h 61 1) + 3)) (by decide +kernel) (by decide) (tg_0_513_1_1 t1) q32 ?_
  refine x_iload (np := 19) (x := 1) (by decide +kernel) rfl l6 ?_
  refine x_const (np := 20) (x := 9223372051887161347) (a := 2147483651) (by decide +kernel) (by decide) (by decide) ?_
  refine x_const (np := 21) (x := 9223372034707292159) (a := 2147483647) (by decide +kernel) (by decide) (by decide) ?_
  refine x_nV (t := 6) (mj := 69) (n := 4) (rc := 7) (ml := 5) (nr := 0) (np := 24) (as := [x_r ((h 61 1) + 3), iv_c v5, iv_c 2147483651, iv_c 2147483647]) (rest := []) (lo1 := [x_r ((h 61 1) + 3), iv_c v5, iv_c 2147483651, iv_c 2147483647, 147573952589676412928]) (by decide +kernel) (by decide) (by decide +kernel) (x_rb_of (tr_3_7 t1)) rfl rfl (x_wr (tn_3 t1) (x_wi l6 (x_wi (by decide) (x_wi (by decide) x_wn)))) x_wn (by decide) rfl ?_
  refine x_iload (np := 1) (x := 1) (by decide +kernel) rfl l6 ?_
  refine x_ifz (k := 2) (tg := 28) (np := 4) (by decide +kernel) (by decide) l6 (fun q33 => ?_) (fun q34 => ?_)
  · have q33 : v5 < 2147483648 := q33
    exfalso; omega
  have q34 : ¬ (v5 < 2147483648) := q34
  refine x_iload (np := 5) (x := 1) (by decide +kernel) rfl l6 ?_
  refine x_aload (np := 6) (x := 0) (by decide +kernel) rfl (x_nc_le (tn_3 t1)) ?_
  refine x_getC (np := 9) (x := 386) (f := 2) (q := (h8 ((h 61 1) + 3) 2)) (by decide +kernel) (by decide) (tg_3_386_2_0 t1) rfl (fun l35 => ?_)
  refine x_icmp (k := 3) (tg := 28) (np := 12) (by decide +kernel) (by decide) l6 l35 (fun q36 => ?_) (fun q37 => ?_)
  · have q36 : (h8 ((h 61 1) + 3) 2) ≤ v5 := q36
    exfalso; omega
  have q37 : ¬ ((h8 ((h 61 1) + 3) 2) ≤ v5) := q37
  refine x_iload (np := 13) (x := 2) (by decide +kernel) rfl (by decide) ?_
  refine x_ifz (k := 2) (tg := 28) (np := 16) (by decide +kernel) (by decide) (by decide) (fun q38 => ?_) (fun q39 => ?_)
  · have q38 : 2147483651 < 2147483648 := q38
    exfalso; omega
  have q39 : ¬ (2147483651 < 2147483648) := q39
  refine x_iload (np := 17) (x := 2) (by decide +kernel) rfl (by decide) ?_
  refine x_aload (np := 18) (x := 0) (by decide +kernel) rfl (x_nc_le (tn_3 t1)) ?_
  have q40 : h8 ((h 61 1) + 3) 0 = h ((h 61 1) + 3) 0 := jK 0 f10 (rg_T3_0_0_1 t1) (by first | decide | omega) (by first | decide | omega) (by decide)
  have b41 := jB (e := 0) 0 hJ (rg_T3_0_0_1 t1) (by first | decide | omega) (by first | decide | omega)
  have q42 : (h ((h 61 1) + 3) 0) = 2147483652 := by first | decide | omega
  refine x_getC (np := 21) (x := 384) (f := 0) (q := 2147483652) (by decide +kernel) (by decide) (tg_3_384_0_0 t1) (q40.trans q42) (fun l43 => ?_)
  refine x_icmp (k := 3) (tg := 28) (np := 24) (by decide +kernel) (by decide) (by decide) (by decide) (fun q44 => ?_) (fun q45 => ?_)
  · have q44 : 2147483652 ≤ 2147483651 := q44
    exfalso; omega
  have q45 : ¬ (2147483652 ≤ 2147483651) := q45
  refine x_const (np := 25) (x := 9223372043297226753) (a := 2147483649) (by decide +kernel) (by decide) (by decide) ?_
  refine x_goto (np := 28) (x := 29) (by decide +kernel) ?_
  refine x_istore (np := 31) (x := 4) (lo' := [x_r ((h 61 1) + 3), iv_c v5, iv_c 2147483651, iv_c 2147483647, iv_c 2147483649]) (by decide +kernel) (by decide) (Nat.le_of_ble_eq_true rfl) rfl ?_
  refine x_iload (np := 33) (x := 4) (by decide +kernel) rfl (by decide) ?_
  refine x_ifz (k := 0) (tg := 50) (np := 36) (by decide +kernel) (by decide) (by decide) (fun q46 => ?_) (fun q47 => ?_)
  · have q46 : 2147483649 = 2147483648 := q46
    exfalso; omega
  have q47 : ¬ (2147483649 = 2147483648) := q47
  refine x_aload (np := 37) (x := 0) (by decide +kernel) rfl (x_nc_le (tn_3 t1)) ?_
  have q48 : h8 ((h 61 1) + 3) 1 = ((h 61 1) + 4) := tf_3_1 j9 t1
  refine x_getR (np := 40) (x := 385) (f := 1) (q := ((h 61 1) + 4)) (by decide +kernel) (by decide) (tg_3_385_1_1 t1) q48 ?_
  refine x_iload (np := 41) (x := 1) (by decide +kernel) rfl l6 ?_
  refine x_aload (np := 42) (x := 0) (by decide +kernel) rfl (x_nc_le (tn_3 t1)) ?_
  have q49 : h8 ((h 61 1) + 3) 0 = h ((h 61 1) + 3) 0 := jK 0 f10 (rg_T3_0_0_1 t1) (by first | decide | omega) (by first | decide | omega) (by decide)
  refine x_getC (np := 45) (x := 384) (f := 0) (q := 2147483652) (by decide +kernel) (by decide) (tg_3_384_0_0 t1) (q49.trans q42) (fun l50 => ?_)
  obtain ⟨u51, q52⟩ : ∃ z, v5 = 2147483648 + z := ⟨v5 - 2147483648, by first | decide | omega⟩
  refine x_imul (np := 46) (x := 0) (i := u51) (j := 4) (v := (2147483648 + 4 * u51)) (by decide +kernel) (by first | decide | omega) (by first | decide | omega) (by first | decide | omega) (by first | decide | omega) l6 (by decide) ?_
  refine x_iload (np := 47) (x := 2) (by decide +kernel) rfl (by decide) ?_
  refine x_iadd (np := 48) (x := 0) (v := (2147483651 + 4 * u51)) (by decide +kernel) (by first | decide | omega) (by decide) (by first | decide | omega) (by first | decide | omega) ?_
  refine x_iload (np := 49) (x := 3) (by decide +kernel) rfl (by decide) ?_
  refine x_ast (np := 50) (x := 0) (kd := 1) (n := 40) (i := (3 + 4 * u51)) (by decide +kernel) (Or.inl rfl) (ta_4_40 t1) (by first | decide | omega) (by first | decide | omega) (by decide) (by decide) (fun z => absurd z (by decide)) ?_
  have j55 := jU (e := (3 + 4 * u51)) (v := 2147483647) u51 j9 (rg_T4_3_4_10 t1) (by first | decide | omega) (by first | decide | omega) (by first | decide | omega)
  have f57 := jF (e := (3 + 4 * u51)) (v := 2147483647) u51 f21 (rg_T4_3_4_10 t1) (by first | decide | omega) (by first | decide | omega) (by decide)
  generalize e56 : x_up h8 ((h 61 1) + 4) (3 + 4 * u51) 2147483647 = h54 at j55 f57 ⊢
  refine x_retV (np := 51) (x := 0) (by decide +kernel) (by decide +kernel) ⟨rfl, ?_⟩
  refine x_aload (np := 25) (x := 0) (by decide +kernel) rfl (x_nc_le (by decide)) ?_
  refine x_aload (np := 26) (x := 0) (by decide +kernel) rfl (x_nc_le (by decide)) ?_
  have q58 : h54 61 1 = h8 61 1 := by rw [← e56]; exact x_up_k (Ne.symm (tne_4_61 t1))
  have q59 : h8 61 1 = h 61 1 := f10 61 1 (by decide +kernel)
  refine x_getR (np := 29) (x := 577) (f := 1) (q := (h 61 1)) (by decide +kernel) (by decide) (by decide +kernel) (q58.trans q59) ?_
  have q60 : h54 (h 61 1) 1 = ((h 61 1) + 3) := tf_0_1 j55 t1
  refine x_getR (np := 32) (x := 513) (f := 1) (q := ((h 61 1) + 3)) (by decide +kernel) (by decide) (tg_0_513_1_1 t1) q60 ?_
  refine x_iload (np := 33) (x := 1) (by decide +kernel) rfl l6 ?_
  refine x_const (np := 34) (x := 9223372039002259456) (a := 2147483648) (by decide +kernel) (by decide) (by decide) ?_
  refine x_const (np := 35) (x := 9223372039002259456) (a := 2147483648) (by decide +kernel) (by decide) (by decide) ?_
  refine x_aload (np := 36) (x := 0) (by decide +kernel) rfl (x_nc_le (by decide)) ?_
  have q61 : h54 61 1 = h8 61 1 := by rw [← e56]; exact x_up_k (Ne.symm (tne_4_61 t1))
  have q62 : h8 61 1 = h 61 1 := f10 61 1 (by decide +kernel)
  refine x_getR (np := 39) (x := 577) (f := 1) (q := (h 61 1)) (by decide +kernel) (by decide) (by decide +kernel) (q61.trans q62) ?_
  have q63 : h54 (h 61 1) 7 = h8 (h 61 1) 7 := by rw [← e56]; exact x_up_k tof_0_4
  refine x_getC (np := 42) (x := 519) (f := 7) (q := (h8 (h 61 1) 7)) (by decide +kernel) (by decide) (tg_0_519_7_0 t1) q63 (fun l64 => ?_)
  refine x_const (np := 43) (x := 9223372043297226753) (a := 2147483649) (by decide +kernel) (by decide) (by decide) ?_
  obtain ⟨v65, q66⟩ : ∃ z, z + 2147483649 = (h8 (h 61 1) 7) + 2147483648 := ⟨(h8 (h 61 1) 7) + 2147483648 - 2147483649, by first | decide | omega⟩
  refine x_isub (np := 44) (x := 0) (v := v65) (by decide +kernel) l64 (by decide) (by first | decide | omega) (by first | decide | omega) ?_
  refine x_nI (t := 6) (mj := 102) (n := 6) (rc := 10) (ml := 7) (nr := 0) (np := 47) (as := [x_r 61, x_r ((h 61 1) + 3), iv_c v5, iv_c 2147483648, iv_c 2147483648, iv_c v65]) (rest := []) (lo1 := [x_r 61, x_r ((h 61 1) + 3), iv_c v5, iv_c 2147483648, iv_c 2147483648, iv_c v65, 147573952589676412928]) (by decide +kernel) (by decide) (by decide +kernel) (x_rb_of (by decide +kernel)) rfl rfl (x_wr (by decide) (x_wr (tn_3 t1) (x_wi l6 (x_wi (by decide) (x_wi (by decide) (x_wi (by first | decide | omega) x_wn)))))) x_wn (by decide) rfl ?_
  refine x_aload (np := 1) (x := 0) (by decide +kernel) rfl (x_nc_le (by decide)) ?_
  have q67 : h54 61 0 = 1 := by have z := jB (e := 0) 0 j55 rg_61_0_0_1 (by decide) (by decide); omega
  refine x_getR (np := 4) (x := 576) (f := 0) (q := 1) (by decide +kernel) (by decide) (by decide +kernel) q67 ?_
  refine x_iload (np := 6) (x := 4) (by decide +kernel) rfl (by decide) ?_
  refine x_iload (np := 8) (x := 5) (by decide +kernel) rfl (by first | decide | omega) ?_
  have m72 := Tp.fr hT f10 (by decide) (by decide)
  have m71 : Tp tB tN h54 := by rw [← e56]; exact Tp.oth m72 (tne_4_2 t1) (fun z => absurd z.1 (tne_4_1 t1))
  refine x_cI (t := 6) (mj := 79) (n := 3) (rc := 8) (ml := 5) (nr := 0) (np := 11) (as := [x_r 1, iv_c 2147483648, iv_c v65]) (rest := []) (lo1 := [x_r 1, iv_c 2147483648, iv_c v65, 147573952589676412928, 147573952589676412928]) (by decide +kernel) (by decide) (by decide +kernel) (x_rb_of (by decide +kernel)) rfl rfl (x_wr (by decide) (x_wi (by decide) (x_wi (by first | decide | omega) x_wn))) x_wn (by decide) rfl (c79_1_c0 j55   (by first | decide | omega) m71) (fun v68 h73 l69 q70 => ?_)
  obtain ⟨j74, f75, b76, c77, c78, c79, c80⟩ := q70
  have f81 := Fr.trans f57 f75 (by decide)
  have q82 : h54 1 2 = h8 1 2 := by rw [← e56]; exact x_up_k (Ne.symm (tne_4_1 t1))
  have q83 : h8 1 2 = h 1 2 := jK 0 f10 rg_1_2_0_1 (by first | decide | omega) (by first | decide | omega) (by decide)
  have b84 := jB (e := 2) 0 hJ rg_1_2_0_1 (by first | decide | omega) (by first | decide | omega)
  have b85 := jB (e := 2) 0 j74 rg_1_2_0_1 (by first | decide | omega) (by first | decide | omega)
  have q86 : h54 1 2 = h8 1 2 := by rw [← e56]; exact x_up_k (Ne.symm (tne_4_1 t1))
  have q87 : h8 1 2 = h 1 2 := jK 0 f10 rg_1_2_0_1 (by first | decide | omega) (by first | decide | omega) (by decide)
  refine x_istore (np := 13) (x := 6) (lo' := [x_r 61, x_r ((h 61 1) + 3), iv_c v5, iv_c 2147483648, iv_c 2147483648, iv_c v65, iv_c v68]) (by decide +kernel) l69 (Nat.le_of_ble_eq_true rfl) rfl ?_
  refine x_iload (np := 15) (x := 6) (by decide +kernel) rfl l69 ?_
  refine x_const (np := 16) (x := 9223372034707292159) (a := 2147483647) (by decide +kernel) (by decide) (by decide) ?_
  refine x_icmp (k := 1) (tg := 21) (np := 19) (by decide +kernel) (by decide) l69 (by decide) (fun q88 => ?_) (fun q89 => ?_)
  · have q88 : v68 ≠ 2147483647 := q88
    have b90 := c78 (by first | decide | omega)
    refine x_aload (np := 22) (x := 1) (by decide +kernel) rfl (x_nc_le (tn_3 t1)) ?_
    refine x_iload (np := 23) (x := 2) (by decide +kernel) rfl l6 ?_
    refine x_iload (np := 24) (x := 3) (by decide +kernel) rfl (by decide) ?_
    refine x_iload (np := 26) (x := 6) (by decide +kernel) rfl l69 ?_
    refine x_nV (t := 6) (mj := 69) (n := 4) (rc := 7) (ml := 5) (nr := 0) (np := 29) (as := [x_r ((h 61 1) + 3), iv_c v5, iv_c 2147483648, iv_c v68]) (rest := []) (lo1 := [x_r ((h 61 1) + 3), iv_c v5, iv_c 2147483648, iv_c v68, 147573952589676412928]) (by decide +kernel) (by decide) (by decide +kernel) (x_rb_of (tr_3_7 t1)) rfl rfl (x_wr (tn_3 t1) (x_wi l6 (x_wi (by decide) (x_wi l69 x_wn)))) x_wn (by decide) rfl ?_
    refine x_iload (np := 1) (x := 1) (by decide +kernel) rfl l6 ?_
    refine x_ifz (k := 2) (tg := 28) (np := 4) (by decide +kernel) (by decide) l6 (fun q91 => ?_) (fun q92 => ?_)
    · have q91 : v5 < 2147483648 := q91
      exfalso; omega
    have q92 : ¬ (v5 < 2147483648) := q92
    refine x_iload (np := 5) (x := 1) (by decide +kernel) rfl l6 ?_
    refine x_aload (np := 6) (x := 0) (by decide +kernel) rfl (x_nc_le (tn_3 t1)) ?_
    have q93 : h73 ((h 61 1) + 3) 2 = h54 ((h 61 1) + 3) 2 := jK 0 f75 (rg_T3_2_0_1 t1) (by first | decide | omega) (by first | decide | omega) (by decide)
    have q94 : h54 ((h 61 1) + 3) 2 = h8 ((h 61 1) + 3) 2 := by rw [← e56]; exact x_up_k tof_3_4
    refine x_getC (np := 9) (x := 386) (f := 2) (q := (h8 ((h 61 1) + 3) 2)) (by decide +kernel) (by decide) (tg_3_386_2_0 t1) (q93.trans q94) (fun l95 => ?_)
    refine x_icmp (k := 3) (tg := 28) (np := 12) (by decide +kernel) (by decide) l6 l35 (fun q96 => ?_) (fun q97 => ?_)
    · have q96 : (h8 ((h 61 1) + 3) 2) ≤ v5 := q96
      exfalso; omega
    have q97 : ¬ ((h8 ((h 61 1) + 3) 2) ≤ v5) := q97
    refine x_iload (np := 13) (x := 2) (by decide +kernel) rfl (by decide) ?_
    refine x_ifz (k := 2) (tg := 28) (np := 16) (by decide +kernel) (by decide) (by decide) (fun q98 => ?_) (fun q99 => ?_)
    · have q98 : 2147483648 < 2147483648 := q98
      exfalso; omega
    have q99 : ¬ (2147483648 < 2147483648) := q99
    refine x_iload (np := 17) (x := 2) (by decide +kernel) rfl (by decide) ?_
    refine x_aload (np := 18) (x := 0) (by decide +kernel) rfl (x_nc_le (tn_3 t1)) ?_
    have q100 : h73 ((h 61 1) + 3) 0 = h54 ((h 61 1) + 3) 0 := jK 0 f75 (rg_T3_0_0_1 t1) (by first | decide | omega) (by first | decide | omega) (by decide)
    have q101 : h54 ((h 61 1) + 3) 0 = h8 ((h 61 1) + 3) 0 := by rw [← e56]; exact x_up_k tof_3_4
    have q102 : h8 ((h 61 1) + 3) 0 = h ((h 61 1) + 3) 0 := jK 0 f10 (rg_T3_0_0_1 t1) (by first | decide | omega) (by first | decide | omega) (by decide)
    refine x_getC (np := 21) (x := 384) (f := 0) (q := 2147483652) (by decide +kernel) (by decide) (tg_3_384_0_0 t1) (((q100.trans q101).trans q102).trans q42) (fun l103 => ?_)
    refine x_icmp (k := 3) (tg := 28) (np := 24) (by decide +kernel) (by decide) (by decide) (by decide) (fun q104 => ?_) (fun q105 => ?_)
    · have q104 : 2147483652 ≤ 2147483648 := q104
      exfalso; omega
    have q105 : ¬ (2147483652 ≤ 2147483648) := q105
    refine x_const (np := 25) (x := 9223372043297226753) (a := 2147483649) (by decide +kernel) (by decide) (by decide) ?_
    refine x_goto (np := 28) (x := 29) (by decide +kernel) ?_
    refine x_istore (np := 31) (x := 4) (lo' := [x_r ((h 61 1) + 3), iv_c v5, iv_c 2147483648, iv_c v68, iv_c 2147483649]) (by decide +kernel) (by decide) (Nat.le_of_ble_eq_true rfl) rfl ?_
    refine x_iload (np := 33) (x := 4) (by decide +kernel) rfl (by decide) ?_
    refine x_ifz (k := 0) (tg := 50) (np := 36) (by decide +kernel) (by decide) (by decide) (fun q106 => ?_) (fun q107 => ?_)
    · have q106 : 2147483649 = 2147483648 := q106
      exfalso; omega
    have q107 : ¬ (2147483649 = 2147483648) := q107
    refine x_aload (np := 37) (x := 0) (by decide +kernel) rfl (x_nc_le (tn_3 t1)) ?_
    have q108 : h73 ((h 61 1) + 3) 1 = ((h 61 1) + 4) := tf_3_1 j74 t1
    refine x_getR (np := 40) (x := 385) (f := 1) (q := ((h 61 1) + 4)) (by decide +kernel) (by decide) (tg_3_385_1_1 t1) q108 ?_
    refine x_iload (np := 41) (x := 1) (by decide +kernel) rfl l6 ?_
    refine x_aload (np := 42) (x := 0) (by decide +kernel) rfl (x_nc_le (tn_3 t1)) ?_
    have q109 : h73 ((h 61 1) + 3) 0 = h54 ((h 61 1) + 3) 0 := jK 0 f75 (rg_T3_0_0_1 t1) (by first | decide | omega) (by first | decide | omega) (by decide)
    have q110 : h54 ((h 61 1) + 3) 0 = h8 ((h 61 1) + 3) 0 := by rw [← e56]; exact x_up_k tof_3_4
    have q111 : h8 ((h 61 1) + 3) 0 = h ((h 61 1) + 3) 0 := jK 0 f10 (rg_T3_0_0_1 t1) (by first | decide | omega) (by first | decide | omega) (by decide)
    refine x_getC (np := 45) (x := 384) (f := 0) (q := 2147483652) (by decide +kernel) (by decide) (tg_3_384_0_0 t1) (((q109.trans q110).trans q111).trans q42) (fun l112 => ?_)
    refine x_imul (np := 46) (x := 0) (i := u51) (j := 4) (v := (2147483648 + 4 * u51)) (by decide +kernel) (by first | decide | omega) (by first | decide | omega) (by first | decide | omega) (by first | decide | omega) l6 (by decide) ?_
    refine x_iload (np := 47) (x := 2) (by decide +kernel) rfl (by decide) ?_
    refine x_iadd (np := 48) (x := 0) (v := (2147483648 + 4 * u51)) (by decide +kernel) (by first | decide | omega) (by decide) (by first | decide | omega) (by first | decide | omega) ?_
    refine x_iload (np := 49) (x := 3) (by decide +kernel) rfl l69 ?_
    refine x_ast (np := 50) (x := 0) (kd := 1) (n := 40) (i := (4 * u51)) (by decide +kernel) (Or.inl rfl) (ta_4_40 t1) (by first | decide | omega) (by first | decide | omega) (by decide) l69 (fun z => absurd z (by decide)) ?_
    have j115 := jU (e := (4 * u51)) (v := v68) u51 j74 (rg_T4_0_4_10 t1) (by first | decide | omega) (by first | decide | omega) (by first | decide | omega)
    have f117 := jF (e := (4 * u51)) (v := v68) u51 f81 (rg_T4_0_4_10 t1) (by first | decide | omega) (by first | decide | omega) (by decide)
    generalize e116 : x_up h73 ((h 61 1) + 4) (4 * u51) v68 = h114 at j115 f117 ⊢
    refine x_retV (np := 51) (x := 0) (by decide +kernel) (by decide +kernel) ⟨rfl, ?_⟩
    refine x_const (np := 30) (x := 9223372043297226753) (a := 2147483649) (by decide +kernel) (by decide) (by decide) ?_
    refine x_retI (np := 31) (x := 0) (by decide +kernel) (by decide) (Or.inr ⟨by decide +kernel, by first | decide | omega, by first | decide | omega⟩) ⟨_, rfl, (by decide), ?_⟩
    refine x_ifz (k := 0) (tg := 127) (np := 50) (by decide +kernel) (by decide) (by decide) (fun q118 => ?_) (fun q119 => ?_)
    · have q118 : 2147483649 = 2147483648 := q118
      exfalso; omega
    have q119 : ¬ (2147483649 = 2147483648) := q119
    refine x_aload (np := 51) (x := 0) (by decide +kernel) rfl (x_nc_le (by decide)) ?_
    have q120 : h114 61 0 = 1 := by have z := jB (e := 0) 0 j115 rg_61_0_0_1 (by decide) (by decide); omega
    refine x_getR (np := 54) (x := 576) (f := 0) (q := 1) (by decide +kernel) (by decide) (by decide +kernel) q120 ?_
    refine x_ldcB (i := 2) (idx := 111) (tx := "day") (by rw [tb_y98]; exact List.mem_of_getElem? (i := 2) rfl) (by decide) (by rw [tb_b98]; decide +kernel) ?_
    have m125 := Tp.fr m71 f75 (by decide) (by decide)
    have m124 : Tp tB tN h114 := by rw [← e116]; exact Tp.oth m125 (tne_4_2 t1) (fun z => absurd z.1 (tne_4_1 t1))
    refine x_cI (t := 6) (mj := 78) (n := 2) (rc := 8) (ml := 2) (nr := 0) (np := 59) (as := [x_r 1, x_b (2 + 1)]) (rest := []) (lo1 := [x_r 1, x_b (2 + 1)]) (by decide +kernel) (by decide) (by decide +kernel) (x_rb_of (by decide +kernel)) rfl rfl (x_wr (by decide) (x_wB (by decide) x_wn)) x_wn (by decide) rfl (c78_1_S0 j115  (by decide) m124) (fun v121 h126 l122 q123 => ?_)
    obtain ⟨j127, f128, b129, c130, c131, c132⟩ := q123
    have f133 := Fr.trans f117 f128 (by decide)
    have q134 : h114 1 2 = h73 1 2 := by rw [← e116]; exact x_up_k (Ne.symm (tne_4_1 t1))
    have b135 := jB (e := 2) 0 j127 rg_1_2_0_1 (by first | decide | omega) (by first | decide | omega)
    have b136 : iv_tl 2 = 3 := by decide
    have q137 : h114 1 2 = h73 1 2 := by rw [← e116]; exact x_up_k (Ne.symm (tne_4_1 t1))
    refine x_ifz (k := 0) (tg := 127) (np := 62) (by decide +kernel) (by decide) l122 (fun q138 => ?_) (fun q139 => ?_)
    · have q138 : v121 = 2147483648 := q138
      have b140 := c131 (by first | decide | omega)
      refine x_const (np := 128) (x := 9223372039002259456) (a := 2147483648) (by decide +kernel) (by decide) (by decide) ?_
      have e141 : rv h 0 = (h (h 61 1) 7) := (congrArg (fun z => svq h z 0) rfl).trans rfl
      have q142 : h126 61 1 = h114 61 1 := f128 61 1 (by decide +kernel)
      have q143 : h114 61 1 = h73 61 1 := by rw [← e116]; exact x_up_k (Ne.symm (tne_4_61 t1))
      have q144 : h73 61 1 = h54 61 1 := f75 61 1 (by decide +kernel)
      have q145 : h54 61 1 = h8 61 1 := by rw [← e56]; exact x_up_k (Ne.symm (tne_4_61 t1))
      have q146 : h8 61 1 = h 61 1 := f10 61 1 (by decide +kernel)
      have q147 : h126 (h 61 1) 7 = h114 (h 61 1) 7 := jK 0 f128 (rg_T0_7_0_1 t1) (by first | decide | omega) (by first | decide | omega) (by decide)
      have q148 : h114 (h 61 1) 7 = h73 (h 61 1) 7 := by rw [← e116]; exact x_up_k tof_0_4
      have q149 : h73 (h 61 1) 7 = h54 (h 61 1) 7 := jK 0 f75 (rg_T0_7_0_1 t1) (by first | decide | omega) (by first | decide | omega) (by decide)
      have q150 : h54 (h 61 1) 7 = h8 (h 61 1) 7 := by rw [← e56]; exact x_up_k tof_0_4
      have e151 : rv h126 0 = (h8 (h 61 1) 7) := (congrArg (fun z => svq h126 z 0) ((((q142.trans q143).trans q144).trans q145).trans q146)).trans (((q147.trans q148).trans q149).trans q150)
      have e152 : rv h 1 = (h (h 61 1) 8) := (congrArg (fun z => svq h z 1) rfl).trans rfl
      have q153 : h126 61 1 = h114 61 1 := f128 61 1 (by decide +kernel)
      have q154 : h114 61 1 = h73 61 1 := by rw [← e116]; exact x_up_k (Ne.symm (tne_4_61 t1))
      have q155 : h73 61 1 = h54 61 1 := f75 61 1 (by decide +kernel)
      have q156 : h54 61 1 = h8 61 1 := by rw [← e56]; exact x_up_k (Ne.symm (tne_4_61 t1))
      have q157 : h8 61 1 = h 61 1 := f10 61 1 (by decide +kernel)
      have q158 : h126 (h 61 1) 8 = h114 (h 61 1) 8 := jK 0 f128 (rg_T0_8_0_1 t1) (by first | decide | omega) (by first | decide | omega) (by decide)
      have q159 : h114 (h 61 1) 8 = h73 (h 61 1) 8 := by rw [← e116]; exact x_up_k tof_0_4
      have q160 : h73 (h 61 1) 8 = h54 (h 61 1) 8 := jK 0 f75 (rg_T0_8_0_1 t1) (by first | decide | omega) (by first | decide | omega) (by decide)
      have q161 : h54 (h 61 1) 8 = h8 (h 61 1) 8 := by rw [← e56]; exact x_up_k tof_0_4
      have e162 : rv h126 1 = (h8 (h 61 1) 8) := (congrArg (fun z => svq h126 z 1) ((((q153.trans q154).trans q155).trans q156).trans q157)).trans (((q158.trans q159).trans q160).trans q161)
      have e163 : rv h 2 = (h ((h 61 1) + 1) 2) := (congrArg (fun z => svq h z 2) rfl).trans rfl
      have q164 : h126 61 1 = h114 61 1 := f128 61 1 (by decide +kernel)
      have q165 : h114 61 1 = h73 61 1 := by rw [← e116]; exact x_up_k (Ne.symm (tne_4_61 t1))
      have q166 : h73 61 1 = h54 61 1 := f75 61 1 (by decide +kernel)
      have q167 : h54 61 1 = h8 61 1 := by rw [← e56]; exact x_up_k (Ne.symm (tne_4_61 t1))
      have q168 : h8 61 1 = h 61 1 := f10 61 1 (by decide +kernel)
      have q169 : h126 ((h 61 1) + 1) 2 = h114 ((h 61 1) + 1) 2 := jK 0 f128 (rg_T1_2_0_1 t1) (by first | decide | omega) (by first | decide | omega) (by decide)
      have q170 : h114 ((h 61 1) + 1) 2 = h73 ((h 61 1) + 1) 2 := by rw [← e116]; exact x_up_k tof_1_4
      have q171 : h73 ((h 61 1) + 1) 2 = h54 ((h 61 1) + 1) 2 := jK 0 f75 (rg_T1_2_0_1 t1) (by first | decide | omega) (by first | decide | omega) (by decide)
      have q172 : h54 ((h 61 1) + 1) 2 = h8 ((h 61 1) + 1) 2 := by rw [← e56]; exact x_up_k tof_1_4
      have e173 : rv h126 2 = (h8 ((h 61 1) + 1) 2) := (congrArg (fun z => svq h126 z 2) ((((q164.trans q165).trans q166).trans q167).trans q168)).trans (((q169.trans q170).trans q171).trans q172)
      have q174 : h126 61 1 = h114 61 1 := f128 61 1 (by decide +kernel)
      have q175 : h114 61 1 = h73 61 1 := by rw [← e116]; exact x_up_k (Ne.symm (tne_4_61 t1))
      have q176 : h73 61 1 = h54 61 1 := f75 61 1 (by decide +kernel)
      have q177 : h54 61 1 = h8 61 1 := by rw [← e56]; exact x_up_k (Ne.symm (tne_4_61 t1))
      have q178 : h8 61 1 = h 61 1 := f10 61 1 (by decide +kernel)
      have q179 : h126 ((h 61 1) + 3) 2 = h114 ((h 61 1) + 3) 2 := jK 0 f128 (rg_T3_2_0_1 t1) (by first | decide | omega) (by first | decide | omega) (by decide)
      have q180 : h114 ((h 61 1) + 3) 2 = h73 ((h 61 1) + 3) 2 := by rw [← e116]; exact x_up_k tof_3_4
      have q181 : h73 ((h 61 1) + 3) 2 = h54 ((h 61 1) + 3) 2 := jK 0 f75 (rg_T3_2_0_1 t1) (by first | decide | omega) (by first | decide | omega) (by decide)
      have q182 : h54 ((h 61 1) + 3) 2 = h8 ((h 61 1) + 3) 2 := by rw [← e56]; exact x_up_k tof_3_4
      have e183 : rv h126 3 = (h8 ((h 61 1) + 3) 2) := (congrArg (fun z => svq h126 z 3) ((((q174.trans q175).trans q176).trans q177).trans q178)).trans (((q179.trans q180).trans q181).trans q182)
      have e184 : rv h 4 = (h ((h 61 1) + 5) 2) := (congrArg (fun z => svq h z 4) rfl).trans rfl
      have q185 : h126 61 1 = h114 61 1 := f128 61 1 (by decide +kernel)
      have q186 : h114 61 1 = h73 61 1 := by rw [← e116]; exact x_up_k (Ne.symm (tne_4_61 t1))
      have q187 : h73 61 1 = h54 61 1 := f75 61 1 (by decide +kernel)
      have q188 : h54 61 1 = h8 61 1 := by rw [← e56]; exact x_up_k (Ne.symm (tne_4_61 t1))
      have q189 : h8 61 1 = h 61 1 := f10 61 1 (by decide +kernel)
      have q190 : h126 ((h 61 1) + 5) 2 = h114 ((h 61 1) + 5) 2 := jK 0 f128 (rg_T5_2_0_1 t1) (by first | decide | omega) (by first | decide | omega) (by decide)
      have q191 : h114 ((h 61 1) + 5) 2 = h73 ((h 61 1) + 5) 2 := by rw [← e116]; exact x_up_k tof_5_4
      have q192 : h73 ((h 61 1) + 5) 2 = h54 ((h 61 1) + 5) 2 := jK 0 f75 (rg_T5_2_0_1 t1) (by first | decide | omega) (by first | decide | omega) (by decide)
      have q193 : h54 ((h 61 1) + 5) 2 = h8 ((h 61 1) + 5) 2 := by rw [← e56]; exact x_up_k tof_5_4
      have e194 : rv h126 4 = (h8 ((h 61 1) + 5) 2) := (congrArg (fun z => svq h126 z 4) ((((q185.trans q186).trans q187).trans q188).trans q189)).trans (((q190.trans q191).trans q192).trans q193)
      have e195 : rv h 5 = (h ((h 61 1) + 7) 2) := (congrArg (fun z => svq h z 5) rfl).trans rfl
      have q196 : h126 61 1 = h114 61 1 := f128 61 1 (by decide +kernel)
      have q197 : h114 61 1 = h73 61 1 := by rw [← e116]; exact x_up_k (Ne.symm (tne_4_61 t1))
      have q198 : h73 61 1 = h54 61 1 := f75 61 1 (by decide +kernel)
      have q199 : h54 61 1 = h8 61 1 := by rw [← e56]; exact x_up_k (Ne.symm (tne_4_61 t1))
      have q200 : h8 61 1 = h 61 1 := f10 61 1 (by decide +kernel)
      have q201 : h126 ((h 61 1) + 7) 2 = h114 ((h 61 1) + 7) 2 := jK 0 f128 (rg_T7_2_0_1 t1) (by first | decide | omega) (by first | decide | omega) (by decide)
      have q202 : h114 ((h 61 1) + 7) 2 = h73 ((h 61 1) + 7) 2 := by rw [← e116]; exact x_up_k tof_7_4
      have q203 : h73 ((h 61 1) + 7) 2 = h54 ((h 61 1) + 7) 2 := jK 0 f75 (rg_T7_2_0_1 t1) (by first | decide | omega) (by first | decide | omega) (by decide)
      have q204 : h54 ((h 61 1) + 7) 2 = h8 ((h 61 1) + 7) 2 := by rw [← e56]; exact x_up_k tof_7_4
      have e205 : rv h126 5 = (h8 ((h 61 1) + 7) 2) := (congrArg (fun z => svq h126 z 5) ((((q196.trans q197).trans q198).trans q199).trans q200)).trans (((q201.trans q202).trans q203).trans q204)
      have q206 : h54 1 2 = h8 1 2 := by rw [← e56]; exact x_up_k (Ne.symm (tne_4_1 t1))
      have q207 : h8 1 2 = h 1 2 := jK 0 f10 rg_1_2_0_1 (by first | decide | omega) (by first | decide | omega) (by decide)
      have q208 : h114 1 2 = h73 1 2 := by rw [← e116]; exact x_up_k (Ne.symm (tne_4_1 t1))
      obtain ⟨w209, e210⟩ := Tk.no c132 (by first | decide | omega)
      have m211 : Ot (h 61 1) h h8 := Ot.trans Ot.refl (c19)
      have m212 : Ot (h 61 1) h h54 := by rw [← e56]; exact Ot.up (o := 4) m211 t1 (by decide) rfl
      have m213 : Ot (h 61 1) h h73 := Ot.fr m212 f75 (by decide)
      have m214 : Ot (h 61 1) h h114 := by rw [← e116]; exact Ot.up (o := 4) m213 t1 (by decide) rfl
      have m215 : Ot (h 61 1) h h126 := Ot.fr m214 f128 (by decide)
      refine x_retI (np := 129) (x := 0) (by decide +kernel) (by decide) (Or.inr ⟨by decide +kernel, by first | decide | omega, by first | decide | omega⟩) ⟨_, rfl, (by decide), ?_⟩
      exact ⟨j127, f133, (by first | decide | omega), (by first | decide | omega), (by first | decide | omega), (by first | decide | omega), (fun z => by first | decide | omega), (by first | decide | omega), (by first | decide | omega), (nm9.y c80 (by first | decide | omega) (by first | decide | omega) (show h54 1 2 = h 1 2 by first | decide | omega) (by first | decide | omega) rfl (wd9.f w209 (show h114 1 2 = h73 1 2 by first | decide | omega) (by first | decide | omega))), m215, (fun z => absurd z (by first | decide | omega))⟩
    have q139 : ¬ (v121 = 2147483648) := q139
    have b216 := c130 (by first | decide | omega)
    refine x_aload (np := 63) (x := 0) (by decide +kernel) rfl (x_nc_le (by decide)) ?_
    refine x_aload (np := 64) (x := 0) (by decide +kernel) rfl (x_nc_le (by decide)) ?_
    have q217 : h126 61 1 = h114 61 1 := f128 61 1 (by decide +kernel)
    have q218 : h114 61 1 = h73 61 1 := by rw [← e116]; exact x_up_k (Ne.symm (tne_4_61 t1))
    have q219 : h73 61 1 = h54 61 1 := f75 61 1 (by decide +kernel)
    have q220 : h54 61 1 = h8 61 1 := by rw [← e56]; exact x_up_k (Ne.symm (tne_4_61 t1))
    have q221 : h8 61 1 = h 61 1 := f10 61 1 (by decide +kernel)
    refine x_getR (np := 67) (x := 577) (f := 1) (q := (h 61 1)) (by decide +kernel) (by decide) (by decide +kernel) ((((q217.trans q218).trans q219).trans q220).trans q221) ?_
    have q222 : h126 (h 61 1) 1 = ((h 61 1) + 3) := tf_0_1 j127 t1
    refine x_getR (np := 70) (x := 513) (f := 1) (q := ((h 61 1) + 3)) (by decide +kernel) (by decide) (tg_0_513_1_1 t1) q222 ?_
    refine x_iload (np := 71) (x := 1) (by decide +kernel) rfl l6 ?_
    refine x_const (np := 72) (x := 9223372043297226753) (a := 2147483649) (by decide +kernel) (by decide) (by decide) ?_
    refine x_const (np := 73) (x := 9223372039002259456) (a := 2147483648) (by decide +kernel) (by decide) (by decide) ?_
    refine x_const (np := 75) (x := 9223372086246899723) (a := 2147483659) (by decide +kernel) (by decide) (by decide) ?_
    refine x_nI (t := 6) (mj := 102) (n := 6) (rc := 10) (ml := 7) (nr := 0) (np := 78) (as := [x_r 61, x_r ((h 61 1) + 3), iv_c v5, iv_c 2147483649, iv_c 2147483648, iv_c 2147483659]) (rest := []) (lo1 := [x_r 61, x_r ((h 61 1) + 3), iv_c v5, iv_c 2147483649, iv_c 2147483648, iv_c 2147483659, 147573952589676412928]) (by decide +kernel) (by decide) (by decide +kernel) (x_rb_of (by decide +kernel)) rfl rfl (x_wr (by decide) (x_wr (tn_3 t1) (x_wi l6 (x_wi (by decide) (x_wi (by decide) (x_wi (by decide) x_wn)))))) x_wn (by decide) rfl ?_
    refine x_aload (np := 1) (x := 0) (by decide +kernel) rfl (x_nc_le (by decide)) ?_
    have q223 : h126 61 0 = 1 := by have z := jB (e := 0) 0 j127 rg_61_0_0_1 (by decide) (by decide); omega
    refine x_getR (np := 4) (x := 576) (f := 0) (q := 1) (by decide +kernel) (by decide) (by decide +kernel) q223 ?_
    refine x_iload (np := 6) (x := 4) (by decide +kernel) rfl (by decide) ?_
    refine x_iload (np := 8) (x := 5) (by decide +kernel) rfl (by decide) ?_
    have m227 := Tp.fr m124 f128 (by decide) (by decide)
    refine x_cI (t := 6) (mj := 79) (n := 3) (rc := 8) (ml := 5) (nr := 0) (np := 11) (as := [x_r 1, iv_c 2147483648, iv_c 2147483659]) (rest := []) (lo1 := [x_r 1, iv_c 2147483648, iv_c 2147483659, 147573952589676412928, 147573952589676412928]) (by decide +kernel) (by decide) (by decide +kernel) (x_rb_of (by decide +kernel)) rfl rfl (x_wr (by decide) (x_wi (by decide) (x_wi (by decide) x_wn))) x_wn (by decide) rfl (c79_1_c0 j127   (by first | decide | omega) m227) (fun v224 h228 l225 q226 => ?_)
    obtain ⟨j229, f230, b231, c232, c233, c234, c235⟩ := q226
    have f236 := Fr.trans f133 f230 (by decide)
    have b237 := jB (e := 2) 0 j229 rg_1_2_0_1 (by first | decide | omega) (by first | decide | omega)
    refine x_istore (np := 13) (x := 6) (lo' := [x_r 61, x_r ((h 61 1) + 3), iv_c v5, iv_c 2147483649, iv_c 2147483648, iv_c 2147483659, iv_c v224]) (by decide +kernel) l225 (Nat.le_of_ble_eq_true rfl) rfl ?_
    refine x_iload (np := 15) (x := 6) (by decide +kernel) rfl l225 ?_
    refine x_const (np := 16) (x := 9223372034707292159) (a := 2147483647) (by decide +kernel) (by decide) (by decide) ?_
    refine x_icmp (k := 1) (tg := 21) (np := 19) (by decide +kernel) (by decide) l225 (by decide) (fun q238 => ?_) (fun q239 => ?_)
    · have q238 : v224 ≠ 2147483647 := q238
      have b240 := c233 (by first | decide | omega)
      refine x_aload (np := 22) (x := 1) (by decide +kernel) rfl (x_nc_le (tn_3 t1)) ?_
      refine x_iload (np := 23) (x := 2) (by decide +kernel) rfl l6 ?_
      refine x_iload (np := 24) (x := 3) (by decide +kernel) rfl (by decide) ?_
      refine x_iload (np := 26) (x := 6) (by decide +kernel) rfl l225 ?_
      refine x_nV (t := 6) (mj := 69) (n := 4) (rc := 7) (ml := 5) (nr := 0) (np := 29) (as := [x_r ((h 61 1) + 3), iv_c v5, iv_c 2147483649, iv_c v224]) (rest := []) (lo1 := [x_r ((h 61 1) + 3), iv_c v5, iv_c 2147483649, iv_c v224, 147573952589676412928]) (by decide +kernel) (by decide) (by decide +kernel) (x_rb_of (tr_3_7 t1)) rfl rfl (x_wr (tn_3 t1) (x_wi l6 (x_wi (by decide) (x_wi l225 x_wn)))) x_wn (by decide) rfl ?_
      refine x_iload (np := 1) (x := 1) (by decide +kernel) rfl l6 ?_
      refine x_ifz (k := 2) (tg := 28) (np := 4) (by decide +kernel) (by decide) l6 (fun q241 => ?_) (fun q242 => ?_)
      · have q241 : v5 < 2147483648 := q241
        exfalso; omega
      have q242 : ¬ (v5 < 2147483648) := q242
      refine x_iload (np := 5) (x := 1) (by decide +kernel) rfl l6 ?_
      refine x_aload (np := 6) (x := 0) (by decide +kernel) rfl (x_nc_le (tn_3 t1)) ?_
      have q243 : h228 ((h 61 1) + 3) 2 = h126 ((h 61 1) + 3) 2 := jK 0 f230 (rg_T3_2_0_1 t1) (by first | decide | omega) (by first | decide | omega) (by decide)
      have q244 : h126 ((h 61 1) + 3) 2 = h114 ((h 61 1) + 3) 2 := jK 0 f128 (rg_T3_2_0_1 t1) (by first | decide | omega) (by first | decide | omega) (by decide)
      have q245 : h114 ((h 61 1) + 3) 2 = h73 ((h 61 1) + 3) 2 := by rw [← e116]; exact x_up_k tof_3_4
      have q246 : h73 ((h 61 1) + 3) 2 = h54 ((h 61 1) + 3) 2 := jK 0 f75 (rg_T3_2_0_1 t1) (by first | decide | omega) (by first | decide | omega) (by decide)
      have q247 : h54 ((h 61 1) + 3) 2 = h8 ((h 61 1) + 3) 2 := by rw [← e56]; exact x_up_k tof_3_4
      refine x_getC (np := 9) (x := 386) (f := 2) (q := (h8 ((h 61 1) + 3) 2)) (by decide +kernel) (by decide) (tg_3_386_2_0 t1) ((((q243.trans q244).trans q245).trans q246).trans q247) (fun l248 => ?_)
      refine x_icmp (k := 3) (tg := 28) (np := 12) (by decide +kernel) (by decide) l6 l35 (fun q249 => ?_) (fun q250 => ?_)
      · have q249 : (h8 ((h 61 1) + 3) 2) ≤ v5 := q249
        exfalso; omega
      have q250 : ¬ ((h8 ((h 61 1) + 3) 2) ≤ v5) := q250
      refine x_iload (np := 13) (x := 2) (by decide +kernel) rfl (by decide) ?_
      refine x_ifz (k := 2) (tg := 28) (np := 16) (by decide +kernel) (by decide) (by decide) (fun q251 => ?_) (fun q252 => ?_)
      · have q251 : 2147483649 < 2147483648 := q251
        exfalso; omega
      have q252 : ¬ (2147483649 < 2147483648) := q252
      refine x_iload (np := 17) (x := 2) (by decide +kernel) rfl (by decide) ?_
      refine x_aload (np := 18) (x := 0) (by decide +kernel) rfl (x_nc_le (tn_3 t1)) ?_
      have q253 : h228 ((h 61 1) + 3) 0 = h126 ((h 61 1) + 3) 0 := jK 0 f230 (rg_T3_0_0_1 t1) (by first | decide | omega) (by first | decide | omega) (by decide)
      have q254 : h126 ((h 61 1) + 3) 0 = h114 ((h 61 1) + 3) 0 := jK 0 f128 (rg_T3_0_0_1 t1) (by first | decide | omega) (by first | decide | omega) (by decide)
      have q255 : h114 ((h 61 1) + 3) 0 = h73 ((h 61 1) + 3) 0 := by rw [← e116]; exact x_up_k tof_3_4
      have q256 : h73 ((h 61 1) + 3) 0 = h54 ((h 61 1) + 3) 0 := jK 0 f75 (rg_T3_0_0_1 t1) (by first | decide | omega) (by first | decide | omega) (by decide)
      have q257 : h54 ((h 61 1) + 3) 0 = h8 ((h 61 1) + 3) 0 := by rw [← e56]; exact x_up_k tof_3_4
      have q258 : h8 ((h 61 1) + 3) 0 = h ((h 61 1) + 3) 0 := jK 0 f10 (rg_T3_0_0_1 t1) (by first | decide | omega) (by first | decide | omega) (by decide)
      refine x_getC (np := 21) (x := 384) (f := 0) (q := 2147483652) (by decide +kernel) (by decide) (tg_3_384_0_0 t1) ((((((q253.trans q254).trans q255).trans q256).trans q257).trans q258).trans q42) (fun l259 => ?_)
      refine x_icmp (k := 3) (tg := 28) (np := 24) (by decide +kernel) (by decide) (by decide) (by decide) (fun q260 => ?_) (fun q261 => ?_)
      · have q260 : 2147483652 ≤ 2147483649 := q260
        exfalso; omega
      have q261 : ¬ (2147483652 ≤ 2147483649) := q261
      refine x_const (np := 25) (x := 9223372043297226753) (a := 2147483649) (by decide +kernel) (by decide) (by decide) ?_
      refine x_goto (np := 28) (x := 29) (by decide +kernel) ?_
      refine x_istore (np := 31) (x := 4) (lo' := [x_r ((h 61 1) + 3), iv_c v5, iv_c 2147483649, iv_c v224, iv_c 2147483649]) (by decide +kernel) (by decide) (Nat.le_of_ble_eq_true rfl) rfl ?_
      refine x_iload (np := 33) (x := 4) (by decide +kernel) rfl (by decide) ?_
      refine x_ifz (k := 0) (tg := 50) (np := 36) (by decide +kernel) (by decide) (by decide) (fun q262 => ?_) (fun q263 => ?_)
      · have q262 : 2147483649 = 2147483648 := q262
        exfalso; omega
      have q263 : ¬ (2147483649 = 2147483648) := q263
      refine x_aload (np := 37) (x := 0) (by decide +kernel) rfl (x_nc_le (tn_3 t1)) ?_
      have q264 : h228 ((h 61 1) + 3) 1 = ((h 61 1) + 4) := tf_3_1 j229 t1
      refine x_getR (np := 40) (x := 385) (f := 1) (q := ((h 61 1) + 4)) (by decide +kernel) (by decide) (tg_3_385_1_1 t1) q264 ?_
      refine x_iload (np := 41) (x := 1) (by decide +kernel) rfl l6 ?_
      refine x_aload (np := 42) (x := 0) (by decide +kernel) rfl (x_nc_le (tn_3 t1)) ?_
      have q265 : h228 ((h 61 1) + 3) 0 = h126 ((h 61 1) + 3) 0 := jK 0 f230 (rg_T3_0_0_1 t1) (by first | decide | omega) (by first | decide | omega) (by decide)
      have q266 : h126 ((h 61 1) + 3) 0 = h114 ((h 61 1) + 3) 0 := jK 0 f128 (rg_T3_0_0_1 t1) (by first | decide | omega) (by first | decide | omega) (by decide)
      have q267 : h114 ((h 61 1) + 3) 0 = h73 ((h 61 1) + 3) 0 := by rw [← e116]; exact x_up_k tof_3_4
      have q268 : h73 ((h 61 1) + 3) 0 = h54 ((h 61 1) + 3) 0 := jK 0 f75 (rg_T3_0_0_1 t1) (by first | decide | omega) (by first | decide | omega) (by decide)
      have q269 : h54 ((h 61 1) + 3) 0 = h8 ((h 61 1) + 3) 0 := by rw [← e56]; exact x_up_k tof_3_4
      have q270 : h8 ((h 61 1) + 3) 0 = h ((h 61 1) + 3) 0 := jK 0 f10 (rg_T3_0_0_1 t1) (by first | decide | omega) (by first | decide | omega) (by decide)
      refine x_getC (np := 45) (x := 384) (f := 0) (q := 2147483652) (by decide +kernel) (by decide) (tg_3_384_0_0 t1) ((((((q265.trans q266).trans q267).trans q268).trans q269).trans q270).trans q42) (fun l271 => ?_)
      refine x_imul (np := 46) (x := 0) (i := u51) (j := 4) (v := (2147483648 + 4 * u51)) (by decide +kernel) (by first | decide | omega) (by first | decide | omega) (by first | decide | omega) (by first | decide | omega) l6 (by decide) ?_
      refine x_iload (np := 47) (x := 2) (by decide +kernel) rfl (by decide) ?_
      refine x_iadd (np := 48) (x := 0) (v := (2147483649 + 4 * u51)) (by decide +kernel) (by first | decide | omega) (by decide) (by first | decide | omega) (by first | decide | omega) ?_
      refine x_iload (np := 49) (x := 3) (by decide +kernel) rfl l225 ?_
      refine x_ast (np := 50) (x := 0) (kd := 1) (n := 40) (i := (1 + 4 * u51)) (by decide +kernel) (Or.inl rfl) (ta_4_40 t1) (by first | decide | omega) (by first | decide | omega) (by decide) l225 (fun z => absurd z (by decide)) ?_
      have j274 := jU (e := (1 + 4 * u51)) (v := v224) u51 j229 (rg_T4_1_4_10 t1) (by first | decide | omega) (by first | decide | omega) (by first | decide | omega)
      have f276 := jF (e := (1 + 4 * u51)) (v := v224) u51 f236 (rg_T4_1_4_10 t1) (by first | decide | omega) (by first | decide | omega) (by decide)
      generalize e275 : x_up h228 ((h 61 1) + 4) (1 + 4 * u51) v224 = h273 at j274 f276 ⊢
      refine x_retV (np := 51) (x := 0) (by decide +kernel) (by decide +kernel) ⟨rfl, ?_⟩
      refine x_const (np := 30) (x := 9223372043297226753) (a := 2147483649) (by decide +kernel) (by decide) (by decide) ?_
      refine x_retI (np := 31) (x := 0) (by decide +kernel) (by decide) (Or.inr ⟨by decide +kernel, by first | decide | omega, by first | decide | omega⟩) ⟨_, rfl, (by decide), ?_⟩
      refine x_ifz (k := 0) (tg := 127) (np := 81) (by decide +kernel) (by decide) (by decide) (fun q277 => ?_) (fun q278 => ?_)
      · have q277 : 2147483649 = 2147483648 := q277
        exfalso; omega
      have q278 : ¬ (2147483649 = 2147483648) := q278
      refine x_aload (np := 82) (x := 0) (by decide +kernel) rfl (x_nc_le (by decide)) ?_
      have q279 : h273 61 0 = 1 := by have z := jB (e := 0) 0 j274 rg_61_0_0_1 (by decide) (by decide); omega
      refine x_getR (np := 85) (x := 576) (f := 0) (q := 1) (by decide +kernel) (by decide) (by decide +kernel) q279 ?_
      refine x_ldcB (i := 7) (idx := 144) (tx := "read") (by rw [tb_y98]; exact List.mem_of_getElem? (i := 7) rfl) (by decide) (by rw [tb_b98]; decide +kernel) ?_
      have m284 := Tp.fr m227 f230 (by decide) (by decide)
      have m283 : Tp tB tN h273 := by rw [← e275]; exact Tp.oth m284 (tne_4_2 t1) (fun z => absurd z.1 (tne_4_1 t1))
      refine x_cI (t := 6) (mj := 78) (n := 2) (rc := 8) (ml := 2) (nr := 0) (np := 90) (as := [x_r 1, x_b (7 + 1)]) (rest := []) (lo1 := [x_r 1, x_b (7 + 1)]) (by decide +kernel) (by decide) (by decide +kernel) (x_rb_of (by decide +kernel)) rfl rfl (x_wr (by decide) (x_wB (by decide) x_wn)) x_wn (by decide) rfl (c78_1_S0 j274  (by decide) m283) (fun v280 h285 l281 q282 => ?_)
      obtain ⟨j286, f287, b288, c289, c290, c291⟩ := q282
      have f292 := Fr.trans f276 f287 (by decide)
      have q293 : h273 1 2 = h228 1 2 := by rw [← e275]; exact x_up_k (Ne.symm (tne_4_1 t1))
      have b294 := jB (e := 2) 0 j286 rg_1_2_0_1 (by first | decide | omega) (by first | decide | omega)
      have b295 : iv_tl 7 = 4 := by decide
      have q296 : h273 1 2 = h228 1 2 := by rw [← e275]; exact x_up_k (Ne.symm (tne_4_1 t1))
      refine x_ifz (k := 0) (tg := 127) (np := 93) (by decide +kernel) (by decide) l281 (fun q297 => ?_) (fun q298 => ?_)
      · have q297 : v280 = 2147483648 := q297
        have b299 := c290 (by first | decide | omega)
        refine x_const (np := 128) (x := 9223372039002259456) (a := 2147483648) (by decide +kernel) (by decide) (by decide) ?_
        have e300 : rv h 0 = (h (h 61 1) 7) := (congrArg (fun z => svq h z 0) rfl).trans rfl
        have q301 : h285 61 1 = h273 61 1 := f287 61 1 (by decide +kernel)
        have q302 : h273 61 1 = h228 61 1 := by rw [← e275]; exact x_up_k (Ne.symm (tne_4_61 t1))
        have q303 : h228 61 1 = h126 61 1 := f230 61 1 (by decide +kernel)
        have q304 : h126 61 1 = h114 61 1 := f128 61 1 (by decide +kernel)
        have q305 : h114 61 1 = h73 61 1 := by rw [← e116]; exact x_up_k (Ne.symm (tne_4_61 t1))
        have q306 : h73 61 1 = h54 61 1 := f75 61 1 (by decide +kernel)
        have q307 : h54 61 1 = h8 61 1 := by rw [← e56]; exact x_up_k (Ne.symm (tne_4_61 t1))
        have q308 : h8 61 1 = h 61 1 := f10 61 1 (by decide +kernel)
        have q309 : h285 (h 61 1) 7 = h273 (h 61 1) 7 := jK 0 f287 (rg_T0_7_0_1 t1) (by first | decide | omega) (by first | decide | omega) (by decide)
        have q310 : h273 (h 61 1) 7 = h228 (h 61 1) 7 := by rw [← e275]; exact x_up_k tof_0_4
        have q311 : h228 (h 61 1) 7 = h126 (h 61 1) 7 := jK 0 f230 (rg_T0_7_0_1 t1) (by first | decide | omega) (by first | decide | omega) (by decide)
        have q312 : h126 (h 61 1) 7 = h114 (h 61 1) 7 := jK 0 f128 (rg_T0_7_0_1 t1) (by first | decide | omega) (by first | decide | omega) (by decide)
        have q313 : h114 (h 61 1) 7 = h73 (h 61 1) 7 := by rw [← e116]; exact x_up_k tof_0_4
        have q314 : h73 (h 61 1) 7 = h54 (h 61 1) 7 := jK 0 f75 (rg_T0_7_0_1 t1) (by first | decide | omega) (by first | decide | omega) (by decide)
        have q315 : h54 (h 61 1) 7 = h8 (h 61 1) 7 := by rw [← e56]; exact x_up_k tof_0_4
        have e316 : rv h285 0 = (h8 (h 61 1) 7) := (congrArg (fun z => svq h285 z 0) (((((((q301.trans q302).trans q303).trans q304).trans q305).trans q306).trans q307).trans q308)).trans ((((((q309.trans q310).trans q311).trans q312).trans q313).trans q314).trans q315)
        have e317 : rv h 1 = (h (h 61 1) 8) := (congrArg (fun z => svq h z 1) rfl).trans rfl
        have q318 : h285 61 1 = h273 61 1 := f287 61 1 (by decide +kernel)
        have q319 : h273 61 1 = h228 61 1 := by rw [← e275]; exact x_up_k (Ne.symm (tne_4_61 t1))
        have q320 : h228 61 1 = h126 61 1 := f230 61 1 (by decide +kernel)
        have q321 : h126 61 1 = h114 61 1 := f128 61 1 (by decide +kernel)
        have q322 : h114 61 1 = h73 61 1 := by rw [← e116]; exact x_up_k (Ne.symm (tne_4_61 t1))
        have q323 : h73 61 1 = h54 61 1 := f75 61 1 (by decide +kernel)
        have q324 : h54 61 1 = h8 61 1 := by rw [← e56]; exact x_up_k (Ne.symm (tne_4_61 t1))
        have q325 : h8 61 1 = h 61 1 := f10 61 1 (by decide +kernel)
        have q326 : h285 (h 61 1) 8 = h273 (h 61 1) 8 := jK 0 f287 (rg_T0_8_0_1 t1) (by first | decide | omega) (by first | decide | omega) (by decide)
        have q327 : h273 (h 61 1) 8 = h228 (h 61 1) 8 := by rw [← e275]; exact x_up_k tof_0_4
        have q328 : h228 (h 61 1) 8 = h126 (h 61 1) 8 := jK 0 f230 (rg_T0_8_0_1 t1) (by first | decide | omega) (by first | decide | omega) (by decide)
        have q329 : h126 (h 61 1) 8 = h114 (h 61 1) 8 := jK 0 f128 (rg_T0_8_0_1 t1) (by first | decide | omega) (by first | decide | omega) (by decide)
        have q330 : h114 (h 61 1) 8 = h73 (h 61 1) 8 := by rw [← e116]; exact x_up_k tof_0_4
        have q331 : h73 (h 61 1) 8 = h54 (h 61 1) 8 := jK 0 f75 (rg_T0_8_0_1 t1) (by first | decide | omega) (by first | decide | omega) (by decide)
        have q332 : h54 (h 61 1) 8 = h8 (h 61 1) 8 := by rw [← e56]; exact x_up_k tof_0_4
        have e333 : rv h285 1 = (h8 (h 61 1) 8) := (congrArg (fun z => svq h285 z 1) (((((((q318.trans q319).trans q320).trans q321).trans q322).trans q323).trans q324).trans q325)).trans ((((((q326.trans q327).trans q328).trans q329).trans q330).trans q331).trans q332)
        have e334 : rv h 2 = (h ((h 61 1) + 1) 2) := (congrArg (fun z => svq h z 2) rfl).trans rfl
        have q335 : h285 61 1 = h273 61 1 := f287 61 1 (by decide +kernel)
        have q336 : h273 61 1 = h228 61 1 := by rw [← e275]; exact x_up_k (Ne.symm (tne_4_61 t1))
        have q337 : h228 61 1 = h126 61 1 := f230 61 1 (by decide +kernel)
        have q338 : h126 61 1 = h114 61 1 := f128 61 1 (by decide +kernel)
        have q339 : h114 61 1 = h73 61 1 := by rw [← e116]; exact x_up_k (Ne.symm (tne_4_61 t1))
        have q340 : h73 61 1 = h54 61 1 := f75 61 1 (by decide +kernel)
        have q341 : h54 61 1 = h8 61 1 := by rw [← e56]; exact x_up_k (Ne.symm (tne_4_61 t1))
        have q342 : h8 61 1 = h 61 1 := f10 61 1 (by decide +kernel)
        have q343 : h285 ((h 61 1) + 1) 2 = h273 ((h 61 1) + 1) 2 := jK 0 f287 (rg_T1_2_0_1 t1) (by first | decide | omega) (by first | decide | omega) (by decide)
        have q344 : h273 ((h 61 1) + 1) 2 = h228 ((h 61 1) + 1) 2 := by rw [← e275]; exact x_up_k tof_1_4
        have q345 : h228 ((h 61 1) + 1) 2 = h126 ((h 61 1) + 1) 2 := jK 0 f230 (rg_T1_2_0_1 t1) (by first | decide | omega) (by first | decide | omega) (by decide)
        have q346 : h126 ((h 61 1) + 1) 2 = h114 ((h 61 1) + 1) 2 := jK 0 f128 (rg_T1_2_0_1 t1) (by first | decide | omega) (by first | decide | omega) (by decide)
        have q347 : h114 ((h 61 1) + 1) 2 = h73 ((h 61 1) + 1) 2 := by rw [← e116]; exact x_up_k tof_1_4
        have q348 : h73 ((h 61 1) + 1) 2 = h54 ((h 61 1) + 1) 2 := jK 0 f75 (rg_T1_2_0_1 t1) (by first | decide | omega) (by first | decide | omega) (by decide)
        have q349 : h54 ((h 61 1) + 1) 2 = h8 ((h 61 1) + 1) 2 := by rw [← e56]; exact x_up_k tof_1_4
        have e350 : rv h285 2 = (h8 ((h 61 1) + 1) 2) := (congrArg (fun z => svq h285 z 2) (((((((q335.trans q336).trans q337).trans q338).trans q339).trans q340).trans q341).trans q342)).trans ((((((q343.trans q344).trans q345).trans q346).trans q347).trans q348).trans q349)
        have q351 : h285 61 1 = h273 61 1 := f287 61 1 (by decide +kernel)
        have q352 : h273 61 1 = h228 61 1 := by rw [← e275]; exact x_up_k (Ne.symm (tne_4_61 t1))
        have q353 : h228 61 1 = h126 61 1 := f230 61 1 (by decide +kernel)
        have q354 : h126 61 1 = h114 61 1 := f128 61 1 (by decide +kernel)
        have q355 : h114 61 1 = h73 61 1 := by rw [← e116]; exact x_up_k (Ne.symm (tne_4_61 t1))
        have q356 : h73 61 1 = h54 61 1 := f75 61 1 (by decide +kernel)
        have q357 : h54 61 1 = h8 61 1 := by rw [← e56]; exact x_up_k (Ne.symm (tne_4_61 t1))
        have q358 : h8 61 1 = h 61 1 := f10 61 1 (by decide +kernel)
        have q359 : h285 ((h 61 1) + 3) 2 = h273 ((h 61 1) + 3) 2 := jK 0 f287 (rg_T3_2_0_1 t1) (by first | decide | omega) (by first | decide | omega) (by decide)
        have q360 : h273 ((h 61 1) + 3) 2 = h228 ((h 61 1) + 3) 2 := by rw [← e275]; exact x_up_k tof_3_4
        have q361 : h228 ((h 61 1) + 3) 2 = h126 ((h 61 1) + 3) 2 := jK 0 f230 (rg_T3_2_0_1 t1) (by first | decide | omega) (by first | decide | omega) (by decide)
        have q362 : h126 ((h 61 1) + 3) 2 = h114 ((h 61 1) + 3) 2 := jK 0 f128 (rg_T3_2_0_1 t1) (by first | decide | omega) (by first | decide | omega) (by decide)
        have q363 : h114 ((h 61 1) + 3) 2 = h73 ((h 61 1) + 3) 2 := by rw [← e116]; exact x_up_k tof_3_4
        have q364 : h73 ((h 61 1) + 3) 2 = h54 ((h 61 1) + 3) 2 := jK 0 f75 (rg_T3_2_0_1 t1) (by first | decide | omega) (by first | decide | omega) (by decide)
        have q365 : h54 ((h 61 1) + 3) 2 = h8 ((h 61 1) + 3) 2 := by rw [← e56]; exact x_up_k tof_3_4
        have e366 : rv h285 3 = (h8 ((h 61 1) + 3) 2) := (congrArg (fun z => svq h285 z 3) (((((((q351.trans q352).trans q353).trans q354).trans q355).trans q356).trans q357).trans q358)).trans ((((((q359.trans q360).trans q361).trans q362).trans q363).trans q364).trans q365)
        have e367 : rv h 4 = (h ((h 61 1) + 5) 2) := (congrArg (fun z => svq h z 4) rfl).trans rfl
        have q368 : h285 61 1 = h273 61 1 := f287 61 1 (by decide +kernel)
        have q369 : h273 61 1 = h228 61 1 := by rw [← e275]; exact x_up_k (Ne.symm (tne_4_61 t1))
        have q370 : h228 61 1 = h126 61 1 := f230 61 1 (by decide +kernel)
        have q371 : h126 61 1 = h114 61 1 := f128 61 1 (by decide +kernel)
        have q372 : h114 61 1 = h73 61 1 := by rw [← e116]; exact x_up_k (Ne.symm (tne_4_61 t1))
        have q373 : h73 61 1 = h54 61 1 := f75 61 1 (by decide +kernel)
        have q374 : h54 61 1 = h8 61 1 := by rw [← e56]; exact x_up_k (Ne.symm (tne_4_61 t1))
        have q375 : h8 61 1 = h 61 1 := f10 61 1 (by decide +kernel)
        have q376 : h285 ((h 61 1) + 5) 2 = h273 ((h 61 1) + 5) 2 := jK 0 f287 (rg_T5_2_0_1 t1) (by first | decide | omega) (by first | decide | omega) (by decide)
        have q377 : h273 ((h 61 1) + 5) 2 = h228 ((h 61 1) + 5) 2 := by rw [← e275]; exact x_up_k tof_5_4
        have q378 : h228 ((h 61 1) + 5) 2 = h126 ((h 61 1) + 5) 2 := jK 0 f230 (rg_T5_2_0_1 t1) (by first | decide | omega) (by first | decide | omega) (by decide)
        have q379 : h126 ((h 61 1) + 5) 2 = h114 ((h 61 1) + 5) 2 := jK 0 f128 (rg_T5_2_0_1 t1) (by first | decide | omega) (by first | decide | omega) (by decide)
        have q380 : h114 ((h 61 1) + 5) 2 = h73 ((h 61 1) + 5) 2 := by rw [← e116]; exact x_up_k tof_5_4
        have q381 : h73 ((h 61 1) + 5) 2 = h54 ((h 61 1) + 5) 2 := jK 0 f75 (rg_T5_2_0_1 t1) (by first | decide | omega) (by first | decide | omega) (by decide)
        have q382 : h54 ((h 61 1) + 5) 2 = h8 ((h 61 1) + 5) 2 := by rw [← e56]; exact x_up_k tof_5_4
        have e383 : rv h285 4 = (h8 ((h 61 1) + 5) 2) := (congrArg (fun z => svq h285 z 4) (((((((q368.trans q369).trans q370).trans q371).trans q372).trans q373).trans q374).trans q375)).trans ((((((q376.trans q377).trans q378).trans q379).trans q380).trans q381).trans q382)
        have e384 : rv h 5 = (h ((h 61 1) + 7) 2) := (congrArg (fun z => svq h z 5) rfl).trans rfl
        have q385 : h285 61 1 = h273 61 1 := f287 61 1 (by decide +kernel)
        have q386 : h273 61 1 = h228 61 1 := by rw [← e275]; exact x_up_k (Ne.symm (tne_4_61 t1))
        have q387 : h228 61 1 = h126 61 1 := f230 61 1 (by decide +kernel)
        have q388 : h126 61 1 = h114 61 1 := f128 61 1 (by decide +kernel)
        have q389 : h114 61 1 = h73 61 1 := by rw [← e116]; exact x_up_k (Ne.symm (tne_4_61 t1))
        have q390 : h73 61 1 = h54 61 1 := f75 61 1 (by decide +kernel)
        have q391 : h54 61 1 = h8 61 1 := by rw [← e56]; exact x_up_k (Ne.symm (tne_4_61 t1))
        have q392 : h8 61 1 = h 61 1 := f10 61 1 (by decide +kernel)
        have q393 : h285 ((h 61 1) + 7) 2 = h273 ((h 61 1) + 7) 2 := jK 0 f287 (rg_T7_2_0_1 t1) (by first | decide | omega) (by first | decide | omega) (by decide)
        have q394 : h273 ((h 61 1) + 7) 2 = h228 ((h 61 1) + 7) 2 := by rw [← e275]; exact x_up_k tof_7_4
        have q395 : h228 ((h 61 1) + 7) 2 = h126 ((h 61 1) + 7) 2 := jK 0 f230 (rg_T7_2_0_1 t1) (by first | decide | omega) (by first | decide | omega) (by decide)
        have q396 : h126 ((h 61 1) + 7) 2 = h114 ((h 61 1) + 7) 2 := jK 0 f128 (rg_T7_2_0_1 t1) (by first | decide | omega) (by first | decide | omega) (by decide)
        have q397 : h114 ((h 61 1) + 7) 2 = h73 ((h 61 1) + 7) 2 := by rw [← e116]; exact x_up_k tof_7_4
        have q398 : h73 ((h 61 1) + 7) 2 = h54 ((h 61 1) + 7) 2 := jK 0 f75 (rg_T7_2_0_1 t1) (by first | decide | omega) (by first | decide | omega) (by decide)
        have q399 : h54 ((h 61 1) + 7) 2 = h8 ((h 61 1) + 7) 2 := by rw [← e56]; exact x_up_k tof_7_4
        have e400 : rv h285 5 = (h8 ((h 61 1) + 7) 2) := (congrArg (fun z => svq h285 z 5) (((((((q385.trans q386).trans q387).trans q388).trans q389).trans q390).trans q391).trans q392)).trans ((((((q393.trans q394).trans q395).trans q396).trans q397).trans q398).trans q399)
        have q401 : h54 1 2 = h8 1 2 := by rw [← e56]; exact x_up_k (Ne.symm (tne_4_1 t1))
        have q402 : h8 1 2 = h 1 2 := jK 0 f10 rg_1_2_0_1 (by first | decide | omega) (by first | decide | omega) (by decide)
        have q403 : h114 1 2 = h73 1 2 := by rw [← e116]; exact x_up_k (Ne.symm (tne_4_1 t1))
        obtain ⟨w404, e405⟩ := Tk.yes c132 (by first | decide | omega)
        have q406 : h273 1 2 = h228 1 2 := by rw [← e275]; exact x_up_k (Ne.symm (tne_4_1 t1))
        obtain ⟨w407, e408⟩ := Tk.no c291 (by first | decide | omega)
        have m409 : Ot (h 61 1) h h8 := Ot.trans Ot.refl (c19)
        have m410 : Ot (h 61 1) h h54 := by rw [← e56]; exact Ot.up (o := 4) m409 t1 (by decide) rfl
        have m411 : Ot (h 61 1) h h73 := Ot.fr m410 f75 (by decide)
        have m412 : Ot (h 61 1) h h114 := by rw [← e116]; exact Ot.up (o := 4) m411 t1 (by decide) rfl
        have m413 : Ot (h 61 1) h h126 := Ot.fr m412 f128 (by decide)
        have m414 : Ot (h 61 1) h h228 := Ot.fr m413 f230 (by decide)
        have m415 : Ot (h 61 1) h h273 := by rw [← e275]; exact Ot.up (o := 4) m414 t1 (by decide) rfl
        have m416 : Ot (h 61 1) h h285 := Ot.fr m415 f287 (by decide)
        refine x_retI (np := 129) (x := 0) (by decide +kernel) (by decide) (Or.inr ⟨by decide +kernel, by first | decide | omega, by first | decide | omega⟩) ⟨_, rfl, (by decide), ?_⟩
        exact ⟨j286, f292, (by first | decide | omega), (by first | decide | omega), (by first | decide | omega), (by first | decide | omega), (fun z => by first | decide | omega), (by first | decide | omega), (by first | decide | omega), (nm9.y c80 (by first | decide | omega) (by first | decide | omega) (show h54 1 2 = h 1 2 by first | decide | omega) (by first | decide | omega) rfl (wd9.y w404 (show h114 1 2 = h73 1 2 by first | decide | omega) e405 rfl (nm9.y c235 (by first | decide | omega) (by first | decide | omega) rfl (by first | decide | omega) rfl (wd9.f w407 (show h273 1 2 = h228 1 2 by first | decide | omega) (by first | decide | omega))))), m416, (fun z => absurd z (by first | decide | omega))⟩
      have q298 : ¬ (v280 = 2147483648) := q298
      have b417 := c289 (by first | decide | omega)
      refine x_aload (np := 94) (x := 0) (by decide +kernel) rfl (x_nc_le (by decide)) ?_
      refine x_aload (np := 95) (x := 0) (by decide +kernel) rfl (x_nc_le (by decide)) ?_
      have q418 : h285 61 1 = h273 61 1 := f287 61 1 (by decide +kernel)
      have q419 : h273 61 1 = h228 61 1 := by rw [← e275]; exact x_up_k (Ne.symm (tne_4_61 t1))
      have q420 : h228 61 1 = h126 61 1 := f230 61 1 (by decide +kernel)
      have q421 : h126 61 1 = h114 61 1 := f128 61 1 (by decide +kernel)
      have q422 : h114 61 1 = h73 61 1 := by rw [← e116]; exact x_up_k (Ne.symm (tne_4_61 t1))
      have q423 : h73 61 1 = h54 61 1 := f75 61 1 (by decide +kernel)
      have q424 : h54 61 1 = h8 61 1 := by rw [← e56]; exact x_up_k (Ne.symm (tne_4_61 t1))
      have q425 : h8 61 1 = h 61 1 := f10 61 1 (by decide +kernel)
      refine x_getR (np := 98) (x := 577) (f := 1) (q := (h 61 1)) (by decide +kernel) (by decide) (by decide +kernel) (((((((q418.trans q419).trans q420).trans q421).trans q422).trans q423).trans q424).trans q425) ?_
      have q426 : h285 (h 61 1) 1 = ((h 61 1) + 3) := tf_0_1 j286 t1
      refine x_getR (np := 101) (x := 513) (f := 1) (q := ((h 61 1) + 3)) (by decide +kernel) (by decide) (tg_0_513_1_1 t1) q426 ?_
      refine x_iload (np := 102) (x := 1) (by decide +kernel) rfl l6 ?_
      refine x_const (np := 103) (x := 9223372047592194050) (a := 2147483650) (by decide +kernel) (by decide) (by decide) ?_
      refine x_aload (np := 104) (x := 0) (by decide +kernel) rfl (x_nc_le (by decide)) ?_
      have q427 : h285 61 1 = h273 61 1 := f287 61 1 (by decide +kernel)
      have q428 : h273 61 1 = h228 61 1 := by rw [← e275]; exact x_up_k (Ne.symm (tne_4_61 t1))
      have q429 : h228 61 1 = h126 61 1 := f230 61 1 (by decide +kernel)
      have q430 : h126 61 1 = h114 61 1 := f128 61 1 (by decide +kernel)
      have q431 : h114 61 1 = h73 61 1 := by rw [← e116]; exact x_up_k (Ne.symm (tne_4_61 t1))
      have q432 : h73 61 1 = h54 61 1 := f75 61 1 (by decide +kernel)
      have q433 : h54 61 1 = h8 61 1 := by rw [← e56]; exact x_up_k (Ne.symm (tne_4_61 t1))
      have q434 : h8 61 1 = h 61 1 := f10 61 1 (by decide +kernel)
      refine x_getR (np := 107) (x := 577) (f := 1) (q := (h 61 1)) (by decide +kernel) (by decide) (by decide +kernel) (((((((q427.trans q428).trans q429).trans q430).trans q431).trans q432).trans q433).trans q434) ?_
      have q435 : h285 (h 61 1) 1 = ((h 61 1) + 3) := tf_0_1 j286 t1
      refine x_getR (np := 110) (x := 513) (f := 1) (q := ((h 61 1) + 3)) (by decide +kernel) (by decide) (tg_0_513_1_1 t1) q435 ?_
      refine x_iload (np := 111) (x := 1) (by decide +kernel) rfl l6 ?_
      refine x_const (np := 112) (x := 9223372043297226753) (a := 2147483649) (by decide +kernel) (by decide) (by decide) ?_
      refine x_nI (t := 6) (mj := 68) (n := 3) (rc := 7) (ml := 4) (nr := 4) (np := 115) (as := [x_r ((h 61 1) + 3), iv_c v5, iv_c 2147483649]) (rest := [iv_c 2147483650, iv_c v5, x_r ((h 61 1) + 3), x_r 61]) (lo1 := [x_r ((h 61 1) + 3), iv_c v5, iv_c 2147483649, 147573952589676412928]) (by decide +kernel) (by decide) (by decide +kernel) (x_rb_of (tr_3_7 t1)) rfl rfl (x_wr (tn_3 t1) (x_wi l6 (x_wi (by decide) x_wn))) (x_wi (by decide) (x_wi l6 (x_wr (tn_3 t1) (x_wr (by decide) x_wn)))) (by decide) rfl ?_
      refine x_iload (np := 1) (x := 1) (by decide +kernel) rfl l6 ?_
      refine x_ifz (k := 2) (tg := 28) (np := 4) (by decide +kernel) (by decide) l6 (fun q443 => ?_) (fun q444 => ?_)
      · have q443 : v5 < 2147483648 := q443
        exfalso; omega
      have q444 : ¬ (v5 < 2147483648) := q444
      refine x_iload (np := 5) (x := 1) (by decide +kernel) rfl l6 ?_
      refine x_aload (np := 6) (x := 0) (by decide +kernel) rfl (x_nc_le (tn_3 t1)) ?_
      have q445 : h285 ((h 61 1) + 3) 2 = h273 ((h 61 1) + 3) 2 := jK 0 f287 (rg_T3_2_0_1 t1) (by first | decide | omega) (by first | decide | omega) (by decide)
      have q446 : h273 ((h 61 1) + 3) 2 = h228 ((h 61 1) + 3) 2 := by rw [← e275]; exact x_up_k tof_3_4
      have q447 : h228 ((h 61 1) + 3) 2 = h126 ((h 61 1) + 3) 2 := jK 0 f230 (rg_T3_2_0_1 t1) (by first | decide | omega) (by first | decide | omega) (by decide)
      have q448 : h126 ((h 61 1) + 3) 2 = h114 ((h 61 1) + 3) 2 := jK 0 f128 (rg_T3_2_0_1 t1) (by first | decide | omega) (by first | decide | omega) (by decide)
      have q449 : h114 ((h 61 1) + 3) 2 = h73 ((h 61 1) + 3) 2 := by rw [← e116]; exact x_up_k tof_3_4
      have q450 : h73 ((h 61 1) + 3) 2 = h54 ((h 61 1) + 3) 2 := jK 0 f75 (rg_T3_2_0_1 t1) (by first | decide | omega) (by first | decide | omega) (by decide)
      have q451 : h54 ((h 61 1) + 3) 2 = h8 ((h 61 1) + 3) 2 := by rw [← e56]; exact x_up_k tof_3_4
      refine x_getC (np := 9) (x := 386) (f := 2) (q := (h8 ((h 61 1) + 3) 2)) (by decide +kernel) (by decide) (tg_3_386_2_0 t1) ((((((q445.trans q446).trans q447).trans q448).trans q449).trans q450).trans q451) (fun l452 => ?_)
      refine x_icmp (k := 3) (tg := 28) (np := 12) (by decide +kernel) (by decide) l6 l35 (fun q453 => ?_) (fun q454 => ?_)
      · have q453 : (h8 ((h 61 1) + 3) 2) ≤ v5 := q453
        exfalso; omega
      have q454 : ¬ ((h8 ((h 61 1) + 3) 2) ≤ v5) := q454
      refine x_iload (np := 13) (x := 2) (by decide +kernel) rfl (by decide) ?_
      refine x_ifz (k := 2) (tg := 28) (np := 16) (by decide +kernel) (by decide) (by decide) (fun q455 => ?_) (fun q456 => ?_)
      · have q455 : 2147483649 < 2147483648 := q455
        exfalso; omega
      have q456 : ¬ (2147483649 < 2147483648) := q456
      refine x_iload (np := 17) (x := 2) (by decide +kernel) rfl (by decide) ?_
      refine x_aload (np := 18) (x := 0) (by decide +kernel) rfl (x_nc_le (tn_3 t1)) ?_
      have q457 : h285 ((h 61 1) + 3) 0 = h273 ((h 61 1) + 3) 0 := jK 0 f287 (rg_T3_0_0_1 t1) (by first | decide | omega) (by first | decide | omega) (by decide)
      have q458 : h273 ((h 61 1) + 3) 0 = h228 ((h 61 1) + 3) 0 := by rw [← e275]; exact x_up_k tof_3_4
      have q459 : h228 ((h 61 1) + 3) 0 = h126 ((h 61 1) + 3) 0 := jK 0 f230 (rg_T3_0_0_1 t1) (by first | decide | omega) (by first | decide | omega) (by decide)
      have q460 : h126 ((h 61 1) + 3) 0 = h114 ((h 61 1) + 3) 0 := jK 0 f128 (rg_T3_0_0_1 t1) (by first | decide | omega) (by first | decide | omega) (by decide)
      have q461 : h114 ((h 61 1) + 3) 0 = h73 ((h 61 1) + 3) 0 := by rw [← e116]; exact x_up_k tof_3_4
      have q462 : h73 ((h 61 1) + 3) 0 = h54 ((h 61 1) + 3) 0 := jK 0 f75 (rg_T3_0_0_1 t1) (by first | decide | omega) (by first | decide | omega) (by decide)
      have q463 : h54 ((h 61 1) + 3) 0 = h8 ((h 61 1) + 3) 0 := by rw [← e56]; exact x_up_k tof_3_4
      have q464 : h8 ((h 61 1) + 3) 0 = h ((h 61 1) + 3) 0 := jK 0 f10 (rg_T3_0_0_1 t1) (by first | decide | omega) (by first | decide | omega) (by decide)
      refine x_getC (np := 21) (x := 384) (f := 0) (q := 2147483652) (by decide +kernel) (by decide) (tg_3_384_0_0 t1) ((((((((q457.trans q458).trans q459).trans q460).trans q461).trans q462).trans q463).trans q464).trans q42) (fun l465 => ?_)
      refine x_icmp (k := 3) (tg := 28) (np := 24) (by decide +kernel) (by decide) (by decide) (by decide) (fun q466 => ?_) (fun q467 => ?_)
      · have q466 : 2147483652 ≤ 2147483649 := q466
        exfalso; omega
      have q467 : ¬ (2147483652 ≤ 2147483649) := q467
      refine x_const (np := 25) (x := 9223372043297226753) (a := 2147483649) (by decide +kernel) (by decide) (by decide) ?_
      refine x_goto (np := 28) (x := 29) (by decide +kernel) ?_
      refine x_istore (np := 30) (x := 3) (lo' := [x_r ((h 61 1) + 3), iv_c v5, iv_c 2147483649, iv_c 2147483649]) (by decide +kernel) (by decide) (Nat.le_of_ble_eq_true rfl) rfl ?_
      refine x_iload (np := 31) (x := 3) (by decide +kernel) rfl (by decide) ?_
      refine x_ifz (k := 0) (tg := 50) (np := 34) (by decide +kernel) (by decide) (by decide) (fun q468 => ?_) (fun q469 => ?_)
      · have q468 : 2147483649 = 2147483648 := q468
        exfalso; omega
      have q469 : ¬ (2147483649 = 2147483648) := q469
      refine x_aload (np := 35) (x := 0) (by decide +kernel) rfl (x_nc_le (tn_3 t1)) ?_
      have q470 : h285 ((h 61 1) + 3) 1 = ((h 61 1) + 4) := tf_3_1 j286 t1
      refine x_getR (np := 38) (x := 385) (f := 1) (q := ((h 61 1) + 4)) (by decide +kernel) (by decide) (tg_3_385_1_1 t1) q470 ?_
      refine x_iload (np := 39) (x := 1) (by decide +kernel) rfl l6 ?_
      refine x_aload (np := 40) (x := 0) (by decide +kernel) rfl (x_nc_le (tn_3 t1)) ?_
      have q471 : h285 ((h 61 1) + 3) 0 = h273 ((h 61 1) + 3) 0 := jK 0 f287 (rg_T3_0_0_1 t1) (by first | decide | omega) (by first | decide | omega) (by decide)
      have q472 : h273 ((h 61 1) + 3) 0 = h228 ((h 61 1) + 3) 0 := by rw [← e275]; exact x_up_k tof_3_4
      have q473 : h228 ((h 61 1) + 3) 0 = h126 ((h 61 1) + 3) 0 := jK 0 f230 (rg_T3_0_0_1 t1) (by first | decide | omega) (by first | decide | omega) (by decide)
      have q474 : h126 ((h 61 1) + 3) 0 = h114 ((h 61 1) + 3) 0 := jK 0 f128 (rg_T3_0_0_1 t1) (by first | decide | omega) (by first | decide | omega) (by decide)
      have q475 : h114 ((h 61 1) + 3) 0 = h73 ((h 61 1) + 3) 0 := by rw [← e116]; exact x_up_k tof_3_4
      have q476 : h73 ((h 61 1) + 3) 0 = h54 ((h 61 1) + 3) 0 := jK 0 f75 (rg_T3_0_0_1 t1) (by first | decide | omega) (by first | decide | omega) (by decide)
      have q477 : h54 ((h 61 1) + 3) 0 = h8 ((h 61 1) + 3) 0 := by rw [← e56]; exact x_up_k tof_3_4
      have q478 : h8 ((h 61 1) + 3) 0 = h ((h 61 1) + 3) 0 := jK 0 f10 (rg_T3_0_0_1 t1) (by first | decide | omega) (by first | decide | omega) (by decide)
      refine x_getC (np := 43) (x := 384) (f := 0) (q := 2147483652) (by decide +kernel) (by decide) (tg_3_384_0_0 t1) ((((((((q471.trans q472).trans q473).trans q474).trans q475).trans q476).trans q477).trans q478).trans q42) (fun l479 => ?_)
      refine x_imul (np := 44) (x := 0) (i := u51) (j := 4) (v := (2147483648 + 4 * u51)) (by decide +kernel) (by first | decide | omega) (by first | decide | omega) (by first | decide | omega) (by first | decide | omega) l6 (by decide) ?_
      refine x_iload (np := 45) (x := 2) (by decide +kernel) rfl (by decide) ?_
      refine x_iadd (np := 46) (x := 0) (v := (2147483649 + 4 * u51)) (by decide +kernel) (by first | decide | omega) (by decide) (by first | decide | omega) (by first | decide | omega) ?_
      have q481 : h285 ((h 61 1) + 4) (1 + 4 * u51) = h273 ((h 61 1) + 4) (1 + 4 * u51) := jK u51 f287 (rg_T4_1_4_10 t1) (by first | decide | omega) (by first | decide | omega) (by decide)
      have q482 : h273 ((h 61 1) + 4) (1 + 4 * u51) = v224 := by rw [← e275]; exact x_up_at
      refine x_aldC (np := 47) (x := 0) (n := 40) (i := (1 + 4 * u51)) (q := v224) (by decide +kernel) (ta_4_40 t1) (by first | decide | omega) (by first | decide | omega) (by decide) (q481.trans q482) (fun l483 => ?_)
      refine x_goto (np := 50) (x := 51) (by decide +kernel) ?_
      refine x_retI (np := 52) (x := 0) (by decide +kernel) l225 (Or.inl (by decide +kernel)) ⟨_, rfl, l225, ?_⟩
      refine x_const (np := 117) (x := 9223372086246899723) (a := 2147483659) (by decide +kernel) (by decide) (by decide) ?_
      refine x_nI (t := 6) (mj := 102) (n := 6) (rc := 10) (ml := 7) (nr := 0) (np := 120) (as := [x_r 61, x_r ((h 61 1) + 3), iv_c v5, iv_c 2147483650, iv_c v224, iv_c 2147483659]) (rest := []) (lo1 := [x_r 61, x_r ((h 61 1) + 3), iv_c v5, iv_c 2147483650, iv_c v224, iv_c 2147483659, 147573952589676412928]) (by decide +kernel) (by decide) (by decide +kernel) (x_rb_of (by decide +kernel)) rfl rfl (x_wr (by decide) (x_wr (tn_3 t1) (x_wi l6 (x_wi (by decide) (x_wi l225 (x_wi (by decide) x_wn)))))) x_wn (by decide) rfl ?_
      refine x_aload (np := 1) (x := 0) (by decide +kernel) rfl (x_nc_le (by decide)) ?_
      have q484 : h285 61 0 = 1 := by have z := jB (e := 0) 0 j286 rg_61_0_0_1 (by decide) (by decide); omega
      refine x_getR (np := 4) (x := 576) (f := 0) (q := 1) (by decide +kernel) (by decide) (by decide +kernel) q484 ?_
      refine x_iload (np := 6) (x := 4) (by decide +kernel) rfl l225 ?_
      refine x_iload (np := 8) (x := 5) (by decide +kernel) rfl (by decide) ?_
      have m488 := Tp.fr m283 f287 (by decide) (by decide)
      refine x_cI (t := 6) (mj := 79) (n := 3) (rc := 8) (ml := 5) (nr := 0) (np := 11) (as := [x_r 1, iv_c v224, iv_c 2147483659]) (rest := []) (lo1 := [x_r 1, iv_c v224, iv_c 2147483659, 147573952589676412928, 147573952589676412928]) (by decide +kernel) (by decide) (by decide +kernel) (x_rb_of (by decide +kernel)) rfl rfl (x_wr (by decide) (x_wi l225 (x_wi (by decide) x_wn))) x_wn (by decide) rfl (c79_1 j286  (by first | decide | omega) (by first | decide | omega) m488) (fun v485 h489 l486 q487 => ?_)
      obtain ⟨j490, f491, b492, c493, c494, c495, c496⟩ := q487
      have f497 := Fr.trans f292 f491 (by decide)
      have b498 := jB (e := 2) 0 j490 rg_1_2_0_1 (by first | decide | omega) (by first | decide | omega)
      refine x_istore (np := 13) (x := 6) (lo' := [x_r 61, x_r ((h 61 1) + 3), iv_c v5, iv_c 2147483650, iv_c v224, iv_c 2147483659, iv_c v485]) (by decide +kernel) l486 (Nat.le_of_ble_eq_true rfl) rfl ?_
      refine x_iload (np := 15) (x := 6) (by decide +kernel) rfl l486 ?_
      refine x_const (np := 16) (x := 9223372034707292159) (a := 2147483647) (by decide +kernel) (by decide) (by decide) ?_
      refine x_icmp (k := 1) (tg := 21) (np := 19) (by decide +kernel) (by decide) l486 (by decide) (fun q499 => ?_) (fun q500 => ?_)
      · have q499 : v485 ≠ 2147483647 := q499
        have b501 := c494 (by first | decide | omega)
        refine x_aload (np := 22) (x := 1) (by decide +kernel) rfl (x_nc_le (tn_3 t1)) ?_
        refine x_iload (np := 23) (x := 2) (by decide +kernel) rfl l6 ?_
        refine x_iload (np := 24) (x := 3) (by decide +kernel) rfl (by decide) ?_
        refine x_iload (np := 26) (x := 6) (by decide +kernel) rfl l486 ?_
        refine x_nV (t := 6) (mj := 69) (n := 4) (rc := 7) (ml := 5) (nr := 0) (np := 29) (as := [x_r ((h 61 1) + 3), iv_c v5, iv_c 2147483650, iv_c v485]) (rest := []) (lo1 := [x_r ((h 61 1) + 3), iv_c v5, iv_c 2147483650, iv_c v485, 147573952589676412928]) (by decide +kernel) (by decide) (by decide +kernel) (x_rb_of (tr_3_7 t1)) rfl rfl (x_wr (tn_3 t1) (x_wi l6 (x_wi (by decide) (x_wi l486 x_wn)))) x_wn (by decide) rfl ?_
        refine x_iload (np := 1) (x := 1) (by decide +kernel) rfl l6 ?_
        refine x_ifz (k := 2) (tg := 28) (np := 4) (by decide +kernel) (by decide) l6 (fun q502 => ?_) (fun q503 => ?_)
        · have q502 : v5 < 2147483648 := q502
          exfalso; omega
        have q503 : ¬ (v5 < 2147483648) := q503
        refine x_iload (np := 5) (x := 1) (by decide +kernel) rfl l6 ?_
        refine x_aload (np := 6) (x := 0) (by decide +kernel) rfl (x_nc_le (tn_3 t1)) ?_
        have q504 : h489 ((h 61 1) + 3) 2 = h285 ((h 61 1) + 3) 2 := jK 0 f491 (rg_T3_2_0_1 t1) (by first | decide | omega) (by first | decide | omega) (by decide)
        have q505 : h285 ((h 61 1) + 3) 2 = h273 ((h 61 1) + 3) 2 := jK 0 f287 (rg_T3_2_0_1 t1) (by first | decide | omega) (by first | decide | omega) (by decide)
        have q506 : h273 ((h 61 1) + 3) 2 = h228 ((h 61 1) + 3) 2 := by rw [← e275]; exact x_up_k tof_3_4
        have q507 : h228 ((h 61 1) + 3) 2 = h126 ((h 61 1) + 3) 2 := jK 0 f230 (rg_T3_2_0_1 t1) (by first | decide | omega) (by first | decide | omega) (by decide)
        have q508 : h126 ((h 61 1) + 3) 2 = h114 ((h 61 1) + 3) 2 := jK 0 f128 (rg_T3_2_0_1 t1) (by first | decide | omega) (by first | decide | omega) (by decide)
        have q509 : h114 ((h 61 1) + 3) 2 = h73 ((h 61 1) + 3) 2 := by rw [← e116]; exact x_up_k tof_3_4
        have q510 : h73 ((h 61 1) + 3) 2 = h54 ((h 61 1) + 3) 2 := jK 0 f75 (rg_T3_2_0_1 t1) (by first | decide | omega) (by first | decide | omega) (by decide)
        have q511 : h54 ((h 61 1) + 3) 2 = h8 ((h 61 1) + 3) 2 := by rw [← e56]; exact x_up_k tof_3_4
        refine x_getC (np := 9) (x := 386) (f := 2) (q := (h8 ((h 61 1) + 3) 2)) (by decide +kernel) (by decide) (tg_3_386_2_0 t1) (((((((q504.trans q505).trans q506).trans q507).trans q508).trans q509).trans q510).trans q511) (fun l512 => ?_)
        refine x_icmp (k := 3) (tg := 28) (np := 12) (by decide +kernel) (by decide) l6 l35 (fun q513 => ?_) (fun q514 => ?_)
        · have q513 : (h8 ((h 61 1) + 3) 2) ≤ v5 := q513
          exfalso; omega
        have q514 : ¬ ((h8 ((h 61 1) + 3) 2) ≤ v5) := q514
        refine x_iload (np := 13) (x := 2) (by decide +kernel) rfl (by decide) ?_
        refine x_ifz (k := 2) (tg := 28) (np := 16) (by decide +kernel) (by decide) (by decide) (fun q515 => ?_) (fun q516 => ?_)
        · have q515 : 2147483650 < 2147483648 := q515
          exfalso; omega
        have q516 : ¬ (2147483650 < 2147483648) := q516
        refine x_iload (np := 17) (x := 2) (by decide +kernel) rfl (by decide) ?_
        refine x_aload (np := 18) (x := 0) (by decide +kernel) rfl (x_nc_le (tn_3 t1)) ?_
        have q517 : h489 ((h 61 1) + 3) 0 = h285 ((h 61 1) + 3) 0 := jK 0 f491 (rg_T3_0_0_1 t1) (by first | decide | omega) (by first | decide | omega) (by decide)
        have q518 : h285 ((h 61 1) + 3) 0 = h273 ((h 61 1) + 3) 0 := jK 0 f287 (rg_T3_0_0_1 t1) (by first | decide | omega) (by first | decide | omega) (by decide)
        have q519 : h273 ((h 61 1) + 3) 0 = h228 ((h 61 1) + 3) 0 := by rw [← e275]; exact x_up_k tof_3_4
        have q520 : h228 ((h 61 1) + 3) 0 = h126 ((h 61 1) + 3) 0 := jK 0 f230 (rg_T3_0_0_1 t1) (by first | decide | omega) (by first | decide | omega) (by decide)
        have q521 : h126 ((h 61 1) + 3) 0 = h114 ((h 61 1) + 3) 0 := jK 0 f128 (rg_T3_0_0_1 t1) (by first | decide | omega) (by first | decide | omega) (by decide)
        have q522 : h114 ((h 61 1) + 3) 0 = h73 ((h 61 1) + 3) 0 := by rw [← e116]; exact x_up_k tof_3_4
        have q523 : h73 ((h 61 1) + 3) 0 = h54 ((h 61 1) + 3) 0 := jK 0 f75 (rg_T3_0_0_1 t1) (by first | decide | omega) (by first | decide | omega) (by decide)
        have q524 : h54 ((h 61 1) + 3) 0 = h8 ((h 61 1) + 3) 0 := by rw [← e56]; exact x_up_k tof_3_4
        have q525 : h8 ((h 61 1) + 3) 0 = h ((h 61 1) + 3) 0 := jK 0 f10 (rg_T3_0_0_1 t1) (by first | decide | omega) (by first | decide | omega) (by decide)
        refine x_getC (np := 21) (x := 384) (f := 0) (q := 2147483652) (by decide +kernel) (by decide) (tg_3_384_0_0 t1) (((((((((q517.trans q518).trans q519).trans q520).trans q521).trans q522).trans q523).trans q524).trans q525).trans q42) (fun l526 => ?_)
        refine x_icmp (k := 3) (tg := 28) (np := 24) (by decide +kernel) (by decide) (by decide) (by decide) (fun q527 => ?_) (fun q528 => ?_)
        · have q527 : 2147483652 ≤ 2147483650 := q527
          exfalso; omega
        have q528 : ¬ (2147483652 ≤ 2147483650) := q528
        refine x_const (np := 25) (x := 9223372043297226753) (a := 2147483649) (by decide +kernel) (by decide) (by decide) ?_
        refine x_goto (np := 28) (x := 29) (by decide +kernel) ?_
        refine x_istore (np := 31) (x := 4) (lo' := [x_r ((h 61 1) + 3), iv_c v5, iv_c 2147483650, iv_c v485, iv_c 2147483649]) (by decide +kernel) (by decide) (Nat.le_of_ble_eq_true rfl) rfl ?_
        refine x_iload (np := 33) (x := 4) (by decide +kernel) rfl (by decide) ?_
        refine x_ifz (k := 0) (tg := 50) (np := 36) (by decide +kernel) (by decide) (by decide) (fun q529 => ?_) (fun q530 => ?_)
        · have q529 : 2147483649 = 2147483648 := q529
          exfalso; omega
        have q530 : ¬ (2147483649 = 2147483648) := q530
        refine x_aload (np := 37) (x := 0) (by decide +kernel) rfl (x_nc_le (tn_3 t1)) ?_
        have q531 : h489 ((h 61 1) + 3) 1 = ((h 61 1) + 4) := tf_3_1 j490 t1
        refine x_getR (np := 40) (x := 385) (f := 1) (q := ((h 61 1) + 4)) (by decide +kernel) (by decide) (tg_3_385_1_1 t1) q531 ?_
        refine x_iload (np := 41) (x := 1) (by decide +kernel) rfl l6 ?_
        refine x_aload (np := 42) (x := 0) (by decide +kernel) rfl (x_nc_le (tn_3 t1)) ?_
        have q532 : h489 ((h 61 1) + 3) 0 = h285 ((h 61 1) + 3) 0 := jK 0 f491 (rg_T3_0_0_1 t1) (by first | decide | omega) (by first | decide | omega) (by decide)
        have q533 : h285 ((h 61 1) + 3) 0 = h273 ((h 61 1) + 3) 0 := jK 0 f287 (rg_T3_0_0_1 t1) (by first | decide | omega) (by first | decide | omega) (by decide)
        have q534 : h273 ((h 61 1) + 3) 0 = h228 ((h 61 1) + 3) 0 := by rw [← e275]; exact x_up_k tof_3_4
        have q535 : h228 ((h 61 1) + 3) 0 = h126 ((h 61 1) + 3) 0 := jK 0 f230 (rg_T3_0_0_1 t1) (by first | decide | omega) (by first | decide | omega) (by decide)
        have q536 : h126 ((h 61 1) + 3) 0 = h114 ((h 61 1) + 3) 0 := jK 0 f128 (rg_T3_0_0_1 t1) (by first | decide | omega) (by first | decide | omega) (by decide)
        have q537 : h114 ((h 61 1) + 3) 0 = h73 ((h 61 1) + 3) 0 := by rw [← e116]; exact x_up_k tof_3_4
        have q538 : h73 ((h 61 1) + 3) 0 = h54 ((h 61 1) + 3) 0 := jK 0 f75 (rg_T3_0_0_1 t1) (by first | decide | omega) (by first | decide | omega) (by decide)
        have q539 : h54 ((h 61 1) + 3) 0 = h8 ((h 61 1) + 3) 0 := by rw [← e56]; exact x_up_k tof_3_4
        have q540 : h8 ((h 61 1) + 3) 0 = h ((h 61 1) + 3) 0 := jK 0 f10 (rg_T3_0_0_1 t1) (by first | decide | omega) (by first | decide | omega) (by decide)
        refine x_getC (np := 45) (x := 384) (f := 0) (q := 2147483652) (by decide +kernel) (by decide) (tg_3_384_0_0 t1) (((((((((q532.trans q533).trans q534).trans q535).trans q536).trans q537).trans q538).trans q539).trans q540).trans q42) (fun l541 => ?_)
        refine x_imul (np := 46) (x := 0) (i := u51) (j := 4) (v := (2147483648 + 4 * u51)) (by decide +kernel) (by first | decide | omega) (by first | decide | omega) (by first | decide | omega) (by first | decide | omega) l6 (by decide) ?_
        refine x_iload (np := 47) (x := 2) (by decide +kernel) rfl (by decide) ?_
        refine x_iadd (np := 48) (x := 0) (v := (2147483650 + 4 * u51)) (by decide +kernel) (by first | decide | omega) (by decide) (by first | decide | omega) (by first | decide | omega) ?_
        refine x_iload (np := 49) (x := 3) (by decide +kernel) rfl l486 ?_
        refine x_ast (np := 50) (x := 0) (kd := 1) (n := 40) (i := (2 + 4 * u51)) (by decide +kernel) (Or.inl rfl) (ta_4_40 t1) (by first | decide | omega) (by first | decide | omega) (by decide) l486 (fun z => absurd z (by decide)) ?_
        have j544 := jU (e := (2 + 4 * u51)) (v := v485) u51 j490 (rg_T4_2_4_10 t1) (by first | decide | omega) (by first | decide | omega) (by first | decide | omega)
        have f546 := jF (e := (2 + 4 * u51)) (v := v485) u51 f497 (rg_T4_2_4_10 t1) (by first | decide | omega) (by first | decide | omega) (by decide)
        generalize e545 : x_up h489 ((h 61 1) + 4) (2 + 4 * u51) v485 = h543 at j544 f546 ⊢
        refine x_retV (np := 51) (x := 0) (by decide +kernel) (by decide +kernel) ⟨rfl, ?_⟩
        refine x_const (np := 30) (x := 9223372043297226753) (a := 2147483649) (by decide +kernel) (by decide) (by decide) ?_
        refine x_retI (np := 31) (x := 0) (by decide +kernel) (by decide) (Or.inr ⟨by decide +kernel, by first | decide | omega, by first | decide | omega⟩) ⟨_, rfl, (by decide), ?_⟩
        refine x_ifz (k := 0) (tg := 127) (np := 123) (by decide +kernel) (by decide) (by decide) (fun q547 => ?_) (fun q548 => ?_)
        · have q547 : 2147483649 = 2147483648 := q547
          exfalso; omega
        have q548 : ¬ (2147483649 = 2147483648) := q548
        refine x_const (np := 124) (x := 9223372043297226753) (a := 2147483649) (by decide +kernel) (by decide) (by decide) ?_
        refine x_goto (np := 127) (x := 128) (by decide +kernel) ?_
        have e549 : rv h 0 = (h (h 61 1) 7) := (congrArg (fun z => svq h z 0) rfl).trans rfl
        have q550 : h543 61 1 = h489 61 1 := by rw [← e545]; exact x_up_k (Ne.symm (tne_4_61 t1))
        have q551 : h489 61 1 = h285 61 1 := f491 61 1 (by decide +kernel)
        have q552 : h285 61 1 = h273 61 1 := f287 61 1 (by decide +kernel)
        have q553 : h273 61 1 = h228 61 1 := by rw [← e275]; exact x_up_k (Ne.symm (tne_4_61 t1))
        have q554 : h228 61 1 = h126 61 1 := f230 61 1 (by decide +kernel)
        have q555 : h126 61 1 = h114 61 1 := f128 61 1 (by decide +kernel)
        have q556 : h114 61 1 = h73 61 1 := by rw [← e116]; exact x_up_k (Ne.symm (tne_4_61 t1))
        have q557 : h73 61 1 = h54 61 1 := f75 61 1 (by decide +kernel)
        have q558 : h54 61 1 = h8 61 1 := by rw [← e56]; exact x_up_k (Ne.symm (tne_4_61 t1))
        have q559 : h8 61 1 = h 61 1 := f10 61 1 (by decide +kernel)
        have q560 : h543 (h 61 1) 7 = h489 (h 61 1) 7 := by rw [← e545]; exact x_up_k tof_0_4
        have q561 : h489 (h 61 1) 7 = h285 (h 61 1) 7 := jK 0 f491 (rg_T0_7_0_1 t1) (by first | decide | omega) (by first | decide | omega) (by decide)
        have q562 : h285 (h 61 1) 7 = h273 (h 61 1) 7 := jK 0 f287 (rg_T0_7_0_1 t1) (by first | decide | omega) (by first | decide | omega) (by decide)
        have q563 : h273 (h 61 1) 7 = h228 (h 61 1) 7 := by rw [← e275]; exact x_up_k tof_0_4
        have q564 : h228 (h 61 1) 7 = h126 (h 61 1) 7 := jK 0 f230 (rg_T0_7_0_1 t1) (by first | decide | omega) (by first | decide | omega) (by decide)
        have q565 : h126 (h 61 1) 7 = h114 (h 61 1) 7 := jK 0 f128 (rg_T0_7_0_1 t1) (by first | decide | omega) (by first | decide | omega) (by decide)
        have q566 : h114 (h 61 1) 7 = h73 (h 61 1) 7 := by rw [← e116]; exact x_up_k tof_0_4
        have q567 : h73 (h 61 1) 7 = h54 (h 61 1) 7 := jK 0 f75 (rg_T0_7_0_1 t1) (by first | decide | omega) (by first | decide | omega) (by decide)
        have q568 : h54 (h 61 1) 7 = h8 (h 61 1) 7 := by rw [← e56]; exact x_up_k tof_0_4
        have e569 : rv h543 0 = (h8 (h 61 1) 7) := (congrArg (fun z => svq h543 z 0) (((((((((q550.trans q551).trans q552).trans q553).trans q554).trans q555).trans q556).trans q557).trans q558).trans q559)).trans ((((((((q560.trans q561).trans q562).trans q563).trans q564).trans q565).trans q566).trans q567).trans q568)
        have e570 : rv h 1 = (h (h 61 1) 8) := (congrArg (fun z => svq h z 1) rfl).trans rfl
        have q571 : h543 61 1 = h489 61 1 := by rw [← e545]; exact x_up_k (Ne.symm (tne_4_61 t1))
        have q572 : h489 61 1 = h285 61 1 := f491 61 1 (by decide +kernel)
        have q573 : h285 61 1 = h273 61 1 := f287 61 1 (by decide +kernel)
        have q574 : h273 61 1 = h228 61 1 := by rw [← e275]; exact x_up_k (Ne.symm (tne_4_61 t1))
        have q575 : h228 61 1 = h126 61 1 := f230 61 1 (by decide +kernel)
        have q576 : h126 61 1 = h114 61 1 := f128 61 1 (by decide +kernel)
        have q577 : h114 61 1 = h73 61 1 := by rw [← e116]; exact x_up_k (Ne.symm (tne_4_61 t1))
        have q578 : h73 61 1 = h54 61 1 := f75 61 1 (by decide +kernel)
        have q579 : h54 61 1 = h8 61 1 := by rw [← e56]; exact x_up_k (Ne.symm (tne_4_61 t1))
        have q580 : h8 61 1 = h 61 1 := f10 61 1 (by decide +kernel)
        have q581 : h543 (h 61 1) 8 = h489 (h 61 1) 8 := by rw [← e545]; exact x_up_k tof_0_4
        have q582 : h489 (h 61 1) 8 = h285 (h 61 1) 8 := jK 0 f491 (rg_T0_8_0_1 t1) (by first | decide | omega) (by first | decide | omega) (by decide)
        have q583 : h285 (h 61 1) 8 = h273 (h 61 1) 8 := jK 0 f287 (rg_T0_8_0_1 t1) (by first | decide | omega) (by first | decide | omega) (by decide)
        have q584 : h273 (h 61 1) 8 = h228 (h 61 1) 8 := by rw [← e275]; exact x_up_k tof_0_4
        have q585 : h228 (h 61 1) 8 = h126 (h 61 1) 8 := jK 0 f230 (rg_T0_8_0_1 t1) (by first | decide | omega) (by first | decide | omega) (by decide)
        have q586 : h126 (h 61 1) 8 = h114 (h 61 1) 8 := jK 0 f128 (rg_T0_8_0_1 t1) (by first | decide | omega) (by first | decide | omega) (by decide)
        have q587 : h114 (h 61 1) 8 = h73 (h 61 1) 8 := by rw [← e116]; exact x_up_k tof_0_4
        have q588 : h73 (h 61 1) 8 = h54 (h 61 1) 8 := jK 0 f75 (rg_T0_8_0_1 t1) (by first | decide | omega) (by first | decide | omega) (by decide)
        have q589 : h54 (h 61 1) 8 = h8 (h 61 1) 8 := by rw [← e56]; exact x_up_k tof_0_4
        have e590 : rv h543 1 = (h8 (h 61 1) 8) := (congrArg (fun z => svq h543 z 1) (((((((((q571.trans q572).trans q573).trans q574).trans q575).trans q576).trans q577).trans q578).trans q579).trans q580)).trans ((((((((q581.trans q582).trans q583).trans q584).trans q585).trans q586).trans q587).trans q588).trans q589)
        have e591 : rv h 2 = (h ((h 61 1) + 1) 2) := (congrArg (fun z => svq h z 2) rfl).trans rfl
        have q592 : h543 61 1 = h489 61 1 := by rw [← e545]; exact x_up_k (Ne.symm (tne_4_61 t1))
        have q593 : h489 61 1 = h285 61 1 := f491 61 1 (by decide +kernel)
        have q594 : h285 61 1 = h273 61 1 := f287 61 1 (by decide +kernel)
        have q595 : h273 61 1 = h228 61 1 := by rw [← e275]; exact x_up_k (Ne.symm (tne_4_61 t1))
        have q596 : h228 61 1 = h126 61 1 := f230 61 1 (by decide +kernel)
        have q597 : h126 61 1 = h114 61 1 := f128 61 1 (by decide +kernel)
        have q598 : h114 61 1 = h73 61 1 := by rw [← e116]; exact x_up_k (Ne.symm (tne_4_61 t1))
        have q599 : h73 61 1 = h54 61 1 := f75 61 1 (by decide +kernel)
        have q600 : h54 61 1 = h8 61 1 := by rw [← e56]; exact x_up_k (Ne.symm (tne_4_61 t1))
        have q601 : h8 61 1 = h 61 1 := f10 61 1 (by decide +kernel)
        have q602 : h543 ((h 61 1) + 1) 2 = h489 ((h 61 1) + 1) 2 := by rw [← e545]; exact x_up_k tof_1_4
        have q603 : h489 ((h 61 1) + 1) 2 = h285 ((h 61 1) + 1) 2 := jK 0 f491 (rg_T1_2_0_1 t1) (by first | decide | omega) (by first | decide | omega) (by decide)
        have q604 : h285 ((h 61 1) + 1) 2 = h273 ((h 61 1) + 1) 2 := jK 0 f287 (rg_T1_2_0_1 t1) (by first | decide | omega) (by first | decide | omega) (by decide)
        have q605 : h273 ((h 61 1) + 1) 2 = h228 ((h 61 1) + 1) 2 := by rw [← e275]; exact x_up_k tof_1_4
        have q606 : h228 ((h 61 1) + 1) 2 = h126 ((h 61 1) + 1) 2 := jK 0 f230 (rg_T1_2_0_1 t1) (by first | decide | omega) (by first | decide | omega) (by decide)
        have q607 : h126 ((h 61 1) + 1) 2 = h114 ((h 61 1) + 1) 2 := jK 0 f128 (rg_T1_2_0_1 t1) (by first | decide | omega) (by first | decide | omega) (by decide)
        have q608 : h114 ((h 61 1) + 1) 2 = h73 ((h 61 1) + 1) 2 := by rw [← e116]; exact x_up_k tof_1_4
        have q609 : h73 ((h 61 1) + 1) 2 = h54 ((h 61 1) + 1) 2 := jK 0 f75 (rg_T1_2_0_1 t1) (by first | decide | omega) (by first | decide | omega) (by decide)
        have q610 : h54 ((h 61 1) + 1) 2 = h8 ((h 61 1) + 1) 2 := by rw [← e56]; exact x_up_k tof_1_4
        have e611 : rv h543 2 = (h8 ((h 61 1) + 1) 2) := (congrArg (fun z => svq h543 z 2) (((((((((q592.trans q593).trans q594).trans q595).trans q596).trans q597).trans q598).trans q599).trans q600).trans q601)).trans ((((((((q602.trans q603).trans q604).trans q605).trans q606).trans q607).trans q608).trans q609).trans q610)
        have q612 : h543 61 1 = h489 61 1 := by rw [← e545]; exact x_up_k (Ne.symm (tne_4_61 t1))
        have q613 : h489 61 1 = h285 61 1 := f491 61 1 (by decide +kernel)
        have q614 : h285 61 1 = h273 61 1 := f287 61 1 (by decide +kernel)
        have q615 : h273 61 1 = h228 61 1 := by rw [← e275]; exact x_up_k (Ne.symm (tne_4_61 t1))
        have q616 : h228 61 1 = h126 61 1 := f230 61 1 (by decide +kernel)
        have q617 : h126 61 1 = h114 61 1 := f128 61 1 (by decide +kernel)
        have q618 : h114 61 1 = h73 61 1 := by rw [← e116]; exact x_up_k (Ne.symm (tne_4_61 t1))
        have q619 : h73 61 1 = h54 61 1 := f75 61 1 (by decide +kernel)
        have q620 : h54 61 1 = h8 61 1 := by rw [← e56]; exact x_up_k (Ne.symm (tne_4_61 t1))
        have q621 : h8 61 1 = h 61 1 := f10 61 1 (by decide +kernel)
        have q622 : h543 ((h 61 1) + 3) 2 = h489 ((h 61 1) + 3) 2 := by rw [← e545]; exact x_up_k tof_3_4
        have q623 : h489 ((h 61 1) + 3) 2 = h285 ((h 61 1) + 3) 2 := jK 0 f491 (rg_T3_2_0_1 t1) (by first | decide | omega) (by first | decide | omega) (by decide)
        have q624 : h285 ((h 61 1) + 3) 2 = h273 ((h 61 1) + 3) 2 := jK 0 f287 (rg_T3_2_0_1 t1) (by first | decide | omega) (by first | decide | omega) (by decide)
        have q625 : h273 ((h 61 1) + 3) 2 = h228 ((h 61 1) + 3) 2 := by rw [← e275]; exact x_up_k tof_3_4
        have q626 : h228 ((h 61 1) + 3) 2 = h126 ((h 61 1) + 3) 2 := jK 0 f230 (rg_T3_2_0_1 t1) (by first | decide | omega) (by first | decide | omega) (by decide)
        have q627 : h126 ((h 61 1) + 3) 2 = h114 ((h 61 1) + 3) 2 := jK 0 f128 (rg_T3_2_0_1 t1) (by first | decide | omega) (by first | decide | omega) (by decide)
        have q628 : h114 ((h 61 1) + 3) 2 = h73 ((h 61 1) + 3) 2 := by rw [← e116]; exact x_up_k tof_3_4
        have q629 : h73 ((h 61 1) + 3) 2 = h54 ((h 61 1) + 3) 2 := jK 0 f75 (rg_T3_2_0_1 t1) (by first | decide | omega) (by first | decide | omega) (by decide)
        have q630 : h54 ((h 61 1) + 3) 2 = h8 ((h 61 1) + 3) 2 := by rw [← e56]; exact x_up_k tof_3_4
        have e631 : rv h543 3 = (h8 ((h 61 1) + 3) 2) := (congrArg (fun z => svq h543 z 3) (((((((((q612.trans q613).trans q614).trans q615).trans q616).trans q617).trans q618).trans q619).trans q620).trans q621)).trans ((((((((q622.trans q623).trans q624).trans q625).trans q626).trans q627).trans q628).trans q629).trans q630)
        have e632 : rv h 4 = (h ((h 61 1) + 5) 2) := (congrArg (fun z => svq h z 4) rfl).trans rfl
        have q633 : h543 61 1 = h489 61 1 := by rw [← e545]; exact x_up_k (Ne.symm (tne_4_61 t1))
        have q634 : h489 61 1 = h285 61 1 := f491 61 1 (by decide +kernel)
        have q635 : h285 61 1 = h273 61 1 := f287 61 1 (by decide +kernel)
        have q636 : h273 61 1 = h228 61 1 := by rw [← e275]; exact x_up_k (Ne.symm (tne_4_61 t1))
        have q637 : h228 61 1 = h126 61 1 := f230 61 1 (by decide +kernel)
        have q638 : h126 61 1 = h114 61 1 := f128 61 1 (by decide +kernel)
        have q639 : h114 61 1 = h73 61 1 := by rw [← e116]; exact x_up_k (Ne.symm (tne_4_61 t1))
        have q640 : h73 61 1 = h54 61 1 := f75 61 1 (by decide +kernel)
        have q641 : h54 61 1 = h8 61 1 := by rw [← e56]; exact x_up_k (Ne.symm (tne_4_61 t1))
        have q642 : h8 61 1 = h 61 1 := f10 61 1 (by decide +kernel)
        have q643 : h543 ((h 61 1) + 5) 2 = h489 ((h 61 1) + 5) 2 := by rw [← e545]; exact x_up_k tof_5_4
        have q644 : h489 ((h 61 1) + 5) 2 = h285 ((h 61 1) + 5) 2 := jK 0 f491 (rg_T5_2_0_1 t1) (by first | decide | omega) (by first | decide | omega) (by decide)
        have q645 : h285 ((h 61 1) + 5) 2 = h273 ((h 61 1) + 5) 2 := jK 0 f287 (rg_T5_2_0_1 t1) (by first | decide | omega) (by first | decide | omega) (by decide)
        have q646 : h273 ((h 61 1) + 5) 2 = h228 ((h 61 1) + 5) 2 := by rw [← e275]; exact x_up_k tof_5_4
        have q647 : h228 ((h 61 1) + 5) 2 = h126 ((h 61 1) + 5) 2 := jK 0 f230 (rg_T5_2_0_1 t1) (by first | decide | omega) (by first | decide | omega) (by decide)
        have q648 : h126 ((h 61 1) + 5) 2 = h114 ((h 61 1) + 5) 2 := jK 0 f128 (rg_T5_2_0_1 t1) (by first | decide | omega) (by first | decide | omega) (by decide)
        have q649 : h114 ((h 61 1) + 5) 2 = h73 ((h 61 1) + 5) 2 := by rw [← e116]; exact x_up_k tof_5_4
        have q650 : h73 ((h 61 1) + 5) 2 = h54 ((h 61 1) + 5) 2 := jK 0 f75 (rg_T5_2_0_1 t1) (by first | decide | omega) (by first | decide | omega) (by decide)
        have q651 : h54 ((h 61 1) + 5) 2 = h8 ((h 61 1) + 5) 2 := by rw [← e56]; exact x_up_k tof_5_4
        have e652 : rv h543 4 = (h8 ((h 61 1) + 5) 2) := (congrArg (fun z => svq h543 z 4) (((((((((q633.trans q634).trans q635).trans q636).trans q637).trans q638).trans q639).trans q640).trans q641).trans q642)).trans ((((((((q643.trans q644).trans q645).trans q646).trans q647).trans q648).trans q649).trans q650).trans q651)
        have e653 : rv h 5 = (h ((h 61 1) + 7) 2) := (congrArg (fun z => svq h z 5) rfl).trans rfl
        have q654 : h543 61 1 = h489 61 1 := by rw [← e545]; exact x_up_k (Ne.symm (tne_4_61 t1))
        have q655 : h489 61 1 = h285 61 1 := f491 61 1 (by decide +kernel)
        have q656 : h285 61 1 = h273 61 1 := f287 61 1 (by decide +kernel)
        have q657 : h273 61 1 = h228 61 1 := by rw [← e275]; exact x_up_k (Ne.symm (tne_4_61 t1))
        have q658 : h228 61 1 = h126 61 1 := f230 61 1 (by decide +kernel)
        have q659 : h126 61 1 = h114 61 1 := f128 61 1 (by decide +kernel)
        have q660 : h114 61 1 = h73 61 1 := by rw [← e116]; exact x_up_k (Ne.symm (tne_4_61 t1))
        have q661 : h73 61 1 = h54 61 1 := f75 61 1 (by decide +kernel)
        have q662 : h54 61 1 = h8 61 1 := by rw [← e56]; exact x_up_k (Ne.symm (tne_4_61 t1))
        have q663 : h8 61 1 = h 61 1 := f10 61 1 (by decide +kernel)
        have q664 : h543 ((h 61 1) + 7) 2 = h489 ((h 61 1) + 7) 2 := by rw [← e545]; exact x_up_k tof_7_4
        have q665 : h489 ((h 61 1) + 7) 2 = h285 ((h 61 1) + 7) 2 := jK 0 f491 (rg_T7_2_0_1 t1) (by first | decide | omega) (by first | decide | omega) (by decide)
        have q666 : h285 ((h 61 1) + 7) 2 = h273 ((h 61 1) + 7) 2 := jK 0 f287 (rg_T7_2_0_1 t1) (by first | decide | omega) (by first | decide | omega) (by decide)
        have q667 : h273 ((h 61 1) + 7) 2 = h228 ((h 61 1) + 7) 2 := by rw [← e275]; exact x_up_k tof_7_4
        have q668 : h228 ((h 61 1) + 7) 2 = h126 ((h 61 1) + 7) 2 := jK 0 f230 (rg_T7_2_0_1 t1) (by first | decide | omega) (by first | decide | omega) (by decide)
        have q669 : h126 ((h 61 1) + 7) 2 = h114 ((h 61 1) + 7) 2 := jK 0 f128 (rg_T7_2_0_1 t1) (by first | decide | omega) (by first | decide | omega) (by decide)
        have q670 : h114 ((h 61 1) + 7) 2 = h73 ((h 61 1) + 7) 2 := by rw [← e116]; exact x_up_k tof_7_4
        have q671 : h73 ((h 61 1) + 7) 2 = h54 ((h 61 1) + 7) 2 := jK 0 f75 (rg_T7_2_0_1 t1) (by first | decide | omega) (by first | decide | omega) (by decide)
        have q672 : h54 ((h 61 1) + 7) 2 = h8 ((h 61 1) + 7) 2 := by rw [← e56]; exact x_up_k tof_7_4
        have e673 : rv h543 5 = (h8 ((h 61 1) + 7) 2) := (congrArg (fun z => svq h543 z 5) (((((((((q654.trans q655).trans q656).trans q657).trans q658).trans q659).trans q660).trans q661).trans q662).trans q663)).trans ((((((((q664.trans q665).trans q666).trans q667).trans q668).trans q669).trans q670).trans q671).trans q672)
        have q674 : h54 1 2 = h8 1 2 := by rw [← e56]; exact x_up_k (Ne.symm (tne_4_1 t1))
        have q675 : h8 1 2 = h 1 2 := jK 0 f10 rg_1_2_0_1 (by first | decide | omega) (by first | decide | omega) (by decide)
        have q676 : h114 1 2 = h73 1 2 := by rw [← e116]; exact x_up_k (Ne.symm (tne_4_1 t1))
        obtain ⟨w677, e678⟩ := Tk.yes c132 (by first | decide | omega)
        have q679 : h273 1 2 = h228 1 2 := by rw [← e275]; exact x_up_k (Ne.symm (tne_4_1 t1))
        obtain ⟨w680, e681⟩ := Tk.yes c291 (by first | decide | omega)
        have q682 : h543 1 2 = h489 1 2 := by rw [← e545]; exact x_up_k (Ne.symm (tne_4_1 t1))
        have m683 : Ot (h 61 1) h h8 := Ot.trans Ot.refl (c19)
        have m684 : Ot (h 61 1) h h54 := by rw [← e56]; exact Ot.up (o := 4) m683 t1 (by decide) rfl
        have m685 : Ot (h 61 1) h h73 := Ot.fr m684 f75 (by decide)
        have m686 : Ot (h 61 1) h h114 := by rw [← e116]; exact Ot.up (o := 4) m685 t1 (by decide) rfl
        have m687 : Ot (h 61 1) h h126 := Ot.fr m686 f128 (by decide)
        have m688 : Ot (h 61 1) h h228 := Ot.fr m687 f230 (by decide)
        have m689 : Ot (h 61 1) h h273 := by rw [← e275]; exact Ot.up (o := 4) m688 t1 (by decide) rfl
        have m690 : Ot (h 61 1) h h285 := Ot.fr m689 f287 (by decide)
        have m691 : Ot (h 61 1) h h489 := Ot.fr m690 f491 (by decide)
        have m692 : Ot (h 61 1) h h543 := by rw [← e545]; exact Ot.up (o := 4) m691 t1 (by decide) rfl
        have q693 : h543 61 1 = h489 61 1 := by rw [← e545]; exact x_up_k (Ne.symm (tne_4_61 t1))
        have q694 : h489 61 1 = h285 61 1 := f491 61 1 (by decide +kernel)
        have q695 : h285 61 1 = h273 61 1 := f287 61 1 (by decide +kernel)
        have q696 : h273 61 1 = h228 61 1 := by rw [← e275]; exact x_up_k (Ne.symm (tne_4_61 t1))
        have q697 : h228 61 1 = h126 61 1 := f230 61 1 (by decide +kernel)
        have q698 : h126 61 1 = h114 61 1 := f128 61 1 (by decide +kernel)
        have q699 : h114 61 1 = h73 61 1 := by rw [← e116]; exact x_up_k (Ne.symm (tne_4_61 t1))
        have q700 : h73 61 1 = h54 61 1 := f75 61 1 (by decide +kernel)
        have q701 : h54 61 1 = h8 61 1 := by rw [← e56]; exact x_up_k (Ne.symm (tne_4_61 t1))
        have q702 : h8 61 1 = h 61 1 := f10 61 1 (by decide +kernel)
        have q703 : h543 ((h 61 1) + 3) 2 = h489 ((h 61 1) + 3) 2 := by rw [← e545]; exact x_up_k tof_3_4
        have q704 : h489 ((h 61 1) + 3) 2 = h285 ((h 61 1) + 3) 2 := jK 0 f491 (rg_T3_2_0_1 t1) (by first | decide | omega) (by first | decide | omega) (by decide)
        have q705 : h285 ((h 61 1) + 3) 2 = h273 ((h 61 1) + 3) 2 := jK 0 f287 (rg_T3_2_0_1 t1) (by first | decide | omega) (by first | decide | omega) (by decide)
        have q706 : h273 ((h 61 1) + 3) 2 = h228 ((h 61 1) + 3) 2 := by rw [← e275]; exact x_up_k tof_3_4
        have q707 : h228 ((h 61 1) + 3) 2 = h126 ((h 61 1) + 3) 2 := jK 0 f230 (rg_T3_2_0_1 t1) (by first | decide | omega) (by first | decide | omega) (by decide)
        have q708 : h126 ((h 61 1) + 3) 2 = h114 ((h 61 1) + 3) 2 := jK 0 f128 (rg_T3_2_0_1 t1) (by first | decide | omega) (by first | decide | omega) (by decide)
        have q709 : h114 ((h 61 1) + 3) 2 = h73 ((h 61 1) + 3) 2 := by rw [← e116]; exact x_up_k tof_3_4
        have q710 : h73 ((h 61 1) + 3) 2 = h54 ((h 61 1) + 3) 2 := jK 0 f75 (rg_T3_2_0_1 t1) (by first | decide | omega) (by first | decide | omega) (by decide)
        have q711 : h54 ((h 61 1) + 3) 2 = h8 ((h 61 1) + 3) 2 := by rw [← e56]; exact x_up_k tof_3_4
        have q712 : h543 ((h 61 1) + 4) (3 + 4 * u51) = h489 ((h 61 1) + 4) (3 + 4 * u51) := by rw [← e545]; exact x_up_i (by first | decide | omega)
        have q713 : h489 ((h 61 1) + 4) (3 + 4 * u51) = h285 ((h 61 1) + 4) (3 + 4 * u51) := jK u51 f491 (rg_T4_3_4_10 t1) (by first | decide | omega) (by first | decide | omega) (by decide)
        have q714 : h285 ((h 61 1) + 4) (3 + 4 * u51) = h273 ((h 61 1) + 4) (3 + 4 * u51) := jK u51 f287 (rg_T4_3_4_10 t1) (by first | decide | omega) (by first | decide | omega) (by decide)
        have q715 : h273 ((h 61 1) + 4) (3 + 4 * u51) = h228 ((h 61 1) + 4) (3 + 4 * u51) := by rw [← e275]; exact x_up_i (by first | decide | omega)
        have q716 : h228 ((h 61 1) + 4) (3 + 4 * u51) = h126 ((h 61 1) + 4) (3 + 4 * u51) := jK u51 f230 (rg_T4_3_4_10 t1) (by first | decide | omega) (by first | decide | omega) (by decide)
        have q717 : h126 ((h 61 1) + 4) (3 + 4 * u51) = h114 ((h 61 1) + 4) (3 + 4 * u51) := jK u51 f128 (rg_T4_3_4_10 t1) (by first | decide | omega) (by first | decide | omega) (by decide)
        have q718 : h114 ((h 61 1) + 4) (3 + 4 * u51) = h73 ((h 61 1) + 4) (3 + 4 * u51) := by rw [← e116]; exact x_up_i (by first | decide | omega)
        have q719 : h73 ((h 61 1) + 4) (3 + 4 * u51) = h54 ((h 61 1) + 4) (3 + 4 * u51) := jK u51 f75 (rg_T4_3_4_10 t1) (by first | decide | omega) (by first | decide | omega) (by decide)
        have q720 : h54 ((h 61 1) + 4) (3 + 4 * u51) = 2147483647 := by rw [← e56]; exact x_up_at
        have m721 : ∀ u, u < 10 → u ≠ u51 → wq h543 (h 61 1) u = wq h (h 61 1) u := fun u hu hne => (Eq.trans (show wq h543 (h 61 1) u = wq h489 (h 61 1) u by rw [← e545]; exact wq_i (by first | decide | omega)) (Eq.trans (wq_gr t1 f491 (by decide) u hu) (Eq.trans (wq_gr t1 f287 (by decide) u hu) (Eq.trans (show wq h273 (h 61 1) u = wq h228 (h 61 1) u by rw [← e275]; exact wq_i (by first | decide | omega)) (Eq.trans (wq_gr t1 f230 (by decide) u hu) (Eq.trans (wq_gr t1 f128 (by decide) u hu) (Eq.trans (show wq h114 (h 61 1) u = wq h73 (h 61 1) u by rw [← e116]; exact wq_i (by first | decide | omega)) (Eq.trans (wq_gr t1 f75 (by decide) u hu) (Eq.trans (show wq h54 (h 61 1) u = wq h8 (h 61 1) u by rw [← e56]; exact wq_i (by first | decide | omega)) (c20 u hu (by first | decide | omega)))))))))))
        refine x_retI (np := 129) (x := 0) (by decide +kernel) (by decide) (Or.inr ⟨by decide +kernel, by first | decide | omega, by first | decide | omega⟩) ⟨_, rfl, (by decide), ?_⟩
        exact ⟨j544, f546, (by first | decide | omega), (by first | decide | omega), (by first | decide | omega), (by first | decide | omega), (fun z => by first | decide | omega), (by first | decide | omega), (by first | decide | omega), (nm9.y c80 (by first | decide | omega) (by first | decide | omega) (show h54 1 2 = h 1 2 by first | decide | omega) (by first | decide | omega) rfl (wd9.y w677 (show h114 1 2 = h73 1 2 by first | decide | omega) e678 rfl (nm9.y c235 (by first | decide | omega) (by first | decide | omega) rfl (by first | decide | omega) rfl (wd9.y w680 (show h273 1 2 = h228 1 2 by first | decide | omega) e681 rfl (nm9.y c496 (by first | decide | omega) (by first | decide | omega) rfl (by first | decide | omega) rfl (fin9.mk (by first | decide | omega) (show h489 1 2 = h543 1 2 by first | decide | omega))))))), m692, (fun _ => Wl.one (u0 := u51) (by first | decide | omega) (by first | decide | omega) (show h543 ((h 61 1) + 4) (3 + 4 * u51) = 2147483647 by first | decide | omega) m721)⟩
      have q500 : ¬ (v485 ≠ 2147483647) := q500
      have b722 := c495 (by first | decide | omega)
      refine x_const (np := 20) (x := 9223372039002259456) (a := 2147483648) (by decide +kernel) (by decide) (by decide) ?_
      refine x_retI (np := 21) (x := 0) (by decide +kernel) (by decide) (Or.inr ⟨by decide +kernel, by first | decide | omega, by first | decide | omega⟩) ⟨_, rfl, (by decide), ?_⟩
      refine x_ifz (k := 0) (tg := 127) (np := 123) (by decide +kernel) (by decide) (by decide) (fun q723 => ?_) (fun q724 => ?_)
      · have q723 : 2147483648 = 2147483648 := q723
        refine x_const (np := 128) (x := 9223372039002259456) (a := 2147483648) (by decide +kernel) (by decide) (by decide) ?_
        have e725 : rv h 0 = (h (h 61 1) 7) := (congrArg (fun z => svq h z 0) rfl).trans rfl
        have q726 : h489 61 1 = h285 61 1 := f491 61 1 (by decide +kernel)
        have q727 : h285 61 1 = h273 61 1 := f287 61 1 (by decide +kernel)
        have q728 : h273 61 1 = h228 61 1 := by rw [← e275]; exact x_up_k (Ne.symm (tne_4_61 t1))
        have q729 : h228 61 1 = h126 61 1 := f230 61 1 (by decide +kernel)
        have q730 : h126 61 1 = h114 61 1 := f128 61 1 (by decide +kernel)
        have q731 : h114 61 1 = h73 61 1 := by rw [← e116]; exact x_up_k (Ne.symm (tne_4_61 t1))
        have q732 : h73 61 1 = h54 61 1 := f75 61 1 (by decide +kernel)
        have q733 : h54 61 1 = h8 61 1 := by rw [← e56]; exact x_up_k (Ne.symm (tne_4_61 t1))
        have q734 : h8 61 1 = h 61 1 := f10 61 1 (by decide +kernel)
        have q735 : h489 (h 61 1) 7 = h285 (h 61 1) 7 := jK 0 f491 (rg_T0_7_0_1 t1) (by first | decide | omega) (by first | decide | omega) (by decide)
        have q736 : h285 (h 61 1) 7 = h273 (h 61 1) 7 := jK 0 f287 (rg_T0_7_0_1 t1) (by first | decide | omega) (by first | decide | omega) (by decide)
        have q737 : h273 (h 61 1) 7 = h228 (h 61 1) 7 := by rw [← e275]; exact x_up_k tof_0_4
        have q738 : h228 (h 61 1) 7 = h126 (h 61 1) 7 := jK 0 f230 (rg_T0_7_0_1 t1) (by first | decide | omega) (by first | decide | omega) (by decide)
        have q739 : h126 (h 61 1) 7 = h114 (h 61 1) 7 := jK 0 f128 (rg_T0_7_0_1 t1) (by first | decide | omega) (by first | decide | omega) (by decide)
        have q740 : h114 (h 61 1) 7 = h73 (h 61 1) 7 := by rw [← e116]; exact x_up_k tof_0_4
        have q741 : h73 (h 61 1) 7 = h54 (h 61 1) 7 := jK 0 f75 (rg_T0_7_0_1 t1) (by first | decide | omega) (by first | decide | omega) (by decide)
        have q742 : h54 (h 61 1) 7 = h8 (h 61 1) 7 := by rw [← e56]; exact x_up_k tof_0_4
        have e743 : rv h489 0 = (h8 (h 61 1) 7) := (congrArg (fun z => svq h489 z 0) ((((((((q726.trans q727).trans q728).trans q729).trans q730).trans q731).trans q732).trans q733).trans q734)).trans (((((((q735.trans q736).trans q737).trans q738).trans q739).trans q740).trans q741).trans q742)
        have e744 : rv h 1 = (h (h 61 1) 8) := (congrArg (fun z => svq h z 1) rfl).trans rfl
        have q745 : h489 61 1 = h285 61 1 := f491 61 1 (by decide +kernel)
        have q746 : h285 61 1 = h273 61 1 := f287 61 1 (by decide +kernel)
        have q747 : h273 61 1 = h228 61 1 := by rw [← e275]; exact x_up_k (Ne.symm (tne_4_61 t1))
        have q748 : h228 61 1 = h126 61 1 := f230 61 1 (by decide +kernel)
        have q749 : h126 61 1 = h114 61 1 := f128 61 1 (by decide +kernel)
        have q750 : h114 61 1 = h73 61 1 := by rw [← e116]; exact x_up_k (Ne.symm (tne_4_61 t1))
        have q751 : h73 61 1 = h54 61 1 := f75 61 1 (by decide +kernel)
        have q752 : h54 61 1 = h8 61 1 := by rw [← e56]; exact x_up_k (Ne.symm (tne_4_61 t1))
        have q753 : h8 61 1 = h 61 1 := f10 61 1 (by decide +kernel)
        have q754 : h489 (h 61 1) 8 = h285 (h 61 1) 8 := jK 0 f491 (rg_T0_8_0_1 t1) (by first | decide | omega) (by first | decide | omega) (by decide)
        have q755 : h285 (h 61 1) 8 = h273 (h 61 1) 8 := jK 0 f287 (rg_T0_8_0_1 t1) (by first | decide | omega) (by first | decide | omega) (by decide)
        have q756 : h273 (h 61 1) 8 = h228 (h 61 1) 8 := by rw [← e275]; exact x_up_k tof_0_4
        have q757 : h228 (h 61 1) 8 = h126 (h 61 1) 8 := jK 0 f230 (rg_T0_8_0_1 t1) (by first | decide | omega) (by first | decide | omega) (by decide)
        have q758 : h126 (h 61 1) 8 = h114 (h 61 1) 8 := jK 0 f128 (rg_T0_8_0_1 t1) (by first | decide | omega) (by first | decide | omega) (by decide)
        have q759 : h114 (h 61 1) 8 = h73 (h 61 1) 8 := by rw [← e116]; exact x_up_k tof_0_4
        have q760 : h73 (h 61 1) 8 = h54 (h 61 1) 8 := jK 0 f75 (rg_T0_8_0_1 t1) (by first | decide | omega) (by first | decide | omega) (by decide)
        have q761 : h54 (h 61 1) 8 = h8 (h 61 1) 8 := by rw [← e56]; exact x_up_k tof_0_4
        have e762 : rv h489 1 = (h8 (h 61 1) 8) := (congrArg (fun z => svq h489 z 1) ((((((((q745.trans q746).trans q747).trans q748).trans q749).trans q750).trans q751).trans q752).trans q753)).trans (((((((q754.trans q755).trans q756).trans q757).trans q758).trans q759).trans q760).trans q761)
        have e763 : rv h 2 = (h ((h 61 1) + 1) 2) := (congrArg (fun z => svq h z 2) rfl).trans rfl
        have q764 : h489 61 1 = h285 61 1 := f491 61 1 (by decide +kernel)
        have q765 : h285 61 1 = h273 61 1 := f287 61 1 (by decide +kernel)
        have q766 : h273 61 1 = h228 61 1 := by rw [← e275]; exact x_up_k (Ne.symm (tne_4_61 t1))
        have q767 : h228 61 1 = h126 61 1 := f230 61 1 (by decide +kernel)
        have q768 : h126 61 1 = h114 61 1 := f128 61 1 (by decide +kernel)
        have q769 : h114 61 1 = h73 61 1 := by rw [← e116]; exact x_up_k (Ne.symm (tne_4_61 t1))
        have q770 : h73 61 1 = h54 61 1 := f75 61 1 (by decide +kernel)
        have q771 : h54 61 1 = h8 61 1 := by rw [← e56]; exact x_up_k (Ne.symm (tne_4_61 t1))
        have q772 : h8 61 1 = h 61 1 := f10 61 1 (by decide +kernel)
        have q773 : h489 ((h 61 1) + 1) 2 = h285 ((h 61 1) + 1) 2 := jK 0 f491 (rg_T1_2_0_1 t1) (by first | decide | omega) (by first | decide | omega) (by decide)
        have q774 : h285 ((h 61 1) + 1) 2 = h273 ((h 61 1) + 1) 2 := jK 0 f287 (rg_T1_2_0_1 t1) (by first | decide | omega) (by first | decide | omega) (by decide)
        have q775 : h273 ((h 61 1) + 1) 2 = h228 ((h 61 1) + 1) 2 := by rw [← e275]; exact x_up_k tof_1_4
        have q776 : h228 ((h 61 1) + 1) 2 = h126 ((h 61 1) + 1) 2 := jK 0 f230 (rg_T1_2_0_1 t1) (by first | decide | omega) (by first | decide | omega) (by decide)
        have q777 : h126 ((h 61 1) + 1) 2 = h114 ((h 61 1) + 1) 2 := jK 0 f128 (rg_T1_2_0_1 t1) (by first | decide | omega) (by first | decide | omega) (by decide)
        have q778 : h114 ((h 61 1) + 1) 2 = h73 ((h 61 1) + 1) 2 := by rw [← e116]; exact x_up_k tof_1_4
        have q779 : h73 ((h 61 1) + 1) 2 = h54 ((h 61 1) + 1) 2 := jK 0 f75 (rg_T1_2_0_1 t1) (by first | decide | omega) (by first | decide | omega) (by decide)
        have q780 : h54 ((h 61 1) + 1) 2 = h8 ((h 61 1) + 1) 2 := by rw [← e56]; exact x_up_k tof_1_4
        have e781 : rv h489 2 = (h8 ((h 61 1) + 1) 2) := (congrArg (fun z => svq h489 z 2) ((((((((q764.trans q765).trans q766).trans q767).trans q768).trans q769).trans q770).trans q771).trans q772)).trans (((((((q773.trans q774).trans q775).trans q776).trans q777).trans q778).trans q779).trans q780)
        have q782 : h489 61 1 = h285 61 1 := f491 61 1 (by decide +kernel)
        have q783 : h285 61 1 = h273 61 1 := f287 61 1 (by decide +kernel)
        have q784 : h273 61 1 = h228 61 1 := by rw [← e275]; exact x_up_k (Ne.symm (tne_4_61 t1))
        have q785 : h228 61 1 = h126 61 1 := f230 61 1 (by decide +kernel)
        have q786 : h126 61 1 = h114 61 1 := f128 61 1 (by decide +kernel)
        have q787 : h114 61 1 = h73 61 1 := by rw [← e116]; exact x_up_k (Ne.symm (tne_4_61 t1))
        have q788 : h73 61 1 = h54 61 1 := f75 61 1 (by decide +kernel)
        have q789 : h54 61 1 = h8 61 1 := by rw [← e56]; exact x_up_k (Ne.symm (tne_4_61 t1))
        have q790 : h8 61 1 = h 61 1 := f10 61 1 (by decide +kernel)
        have q791 : h489 ((h 61 1) + 3) 2 = h285 ((h 61 1) + 3) 2 := jK 0 f491 (rg_T3_2_0_1 t1) (by first | decide | omega) (by first | decide | omega) (by decide)
        have q792 : h285 ((h 61 1) + 3) 2 = h273 ((h 61 1) + 3) 2 := jK 0 f287 (rg_T3_2_0_1 t1) (by first | decide | omega) (by first | decide | omega) (by decide)
        have q793 : h273 ((h 61 1) + 3) 2 = h228 ((h 61 1) + 3) 2 := by rw [← e275]; exact x_up_k tof_3_4
        have q794 : h228 ((h 61 1) + 3) 2 = h126 ((h 61 1) + 3) 2 := jK 0 f230 (rg_T3_2_0_1 t1) (by first | decide | omega) (by first | decide | omega) (by decide)
        have q795 : h126 ((h 61 1) + 3) 2 = h114 ((h 61 1) + 3) 2 := jK 0 f128 (rg_T3_2_0_1 t1) (by first | decide | omega) (by first | decide | omega) (by decide)
        have q796 : h114 ((h 61 1) + 3) 2 = h73 ((h 61 1) + 3) 2 := by rw [← e116]; exact x_up_k tof_3_4
        have q797 : h73 ((h 61 1) + 3) 2 = h54 ((h 61 1) + 3) 2 := jK 0 f75 (rg_T3_2_0_1 t1) (by first | decide | omega) (by first | decide | omega) (by decide)
        have q798 : h54 ((h 61 1) + 3) 2 = h8 ((h 61 1) + 3) 2 := by rw [← e56]; exact x_up_k tof_3_4
        have e799 : rv h489 3 = (h8 ((h 61 1) + 3) 2) := (congrArg (fun z => svq h489 z 3) ((((((((q782.trans q783).trans q784).trans q785).trans q786).trans q787).trans q788).trans q789).trans q790)).trans (((((((q791.trans q792).trans q793).trans q794).trans q795).trans q796).trans q797).trans q798)
        have e800 : rv h 4 = (h ((h 61 1) + 5) 2) := (congrArg (fun z => svq h z 4) rfl).trans rfl
        have q801 : h489 61 1 = h285 61 1 := f491 61 1 (by decide +kernel)
        have q802 : h285 61 1 = h273 61 1 := f287 61 1 (by decide +kernel)
        have q803 : h273 61 1 = h228 61 1 := by rw [← e275]; exact x_up_k (Ne.symm (tne_4_61 t1))
        have q804 : h228 61 1 = h126 61 1 := f230 61 1 (by decide +kernel)
        have q805 : h126 61 1 = h114 61 1 := f128 61 1 (by decide +kernel)
        have q806 : h114 61 1 = h73 61 1 := by rw [← e116]; exact x_up_k (Ne.symm (tne_4_61 t1))
        have q807 : h73 61 1 = h54 61 1 := f75 61 1 (by decide +kernel)
        have q808 : h54 61 1 = h8 61 1 := by rw [← e56]; exact x_up_k (Ne.symm (tne_4_61 t1))
        have q809 : h8 61 1 = h 61 1 := f10 61 1 (by decide +kernel)
        have q810 : h489 ((h 61 1) + 5) 2 = h285 ((h 61 1) + 5) 2 := jK 0 f491 (rg_T5_2_0_1 t1) (by first | decide | omega) (by first | decide | omega) (by decide)
        have q811 : h285 ((h 61 1) + 5) 2 = h273 ((h 61 1) + 5) 2 := jK 0 f287 (rg_T5_2_0_1 t1) (by first | decide | omega) (by first | decide | omega) (by decide)
        have q812 : h273 ((h 61 1) + 5) 2 = h228 ((h 61 1) + 5) 2 := by rw [← e275]; exact x_up_k tof_5_4
        have q813 : h228 ((h 61 1) + 5) 2 = h126 ((h 61 1) + 5) 2 := jK 0 f230 (rg_T5_2_0_1 t1) (by first | decide | omega) (by first | decide | omega) (by decide)
        have q814 : h126 ((h 61 1) + 5) 2 = h114 ((h 61 1) + 5) 2 := jK 0 f128 (rg_T5_2_0_1 t1) (by first | decide | omega) (by first | decide | omega) (by decide)
        have q815 : h114 ((h 61 1) + 5) 2 = h73 ((h 61 1) + 5) 2 := by rw [← e116]; exact x_up_k tof_5_4
        have q816 : h73 ((h 61 1) + 5) 2 = h54 ((h 61 1) + 5) 2 := jK 0 f75 (rg_T5_2_0_1 t1) (by first | decide | omega) (by first | decide | omega) (by decide)
        have q817 : h54 ((h 61 1) + 5) 2 = h8 ((h 61 1) + 5) 2 := by rw [← e56]; exact x_up_k tof_5_4
        have e818 : rv h489 4 = (h8 ((h 61 1) + 5) 2) := (congrArg (fun z => svq h489 z 4) ((((((((q801.trans q802).trans q803).trans q804).trans q805).trans q806).trans q807).trans q808).trans q809)).trans (((((((q810.trans q811).trans q812).trans q813).trans q814).trans q815).trans q816).trans q817)
        have e819 : rv h 5 = (h ((h 61 1) + 7) 2) := (congrArg (fun z => svq h z 5) rfl).trans rfl
        have q820 : h489 61 1 = h285 61 1 := f491 61 1 (by decide +kernel)
        have q821 : h285 61 1 = h273 61 1 := f287 61 1 (by decide +kernel)
        have q822 : h273 61 1 = h228 61 1 := by rw [← e275]; exact x_up_k (Ne.symm (tne_4_61 t1))
        have q823 : h228 61 1 = h126 61 1 := f230 61 1 (by decide +kernel)
        have q824 : h126 61 1 = h114 61 1 := f128 61 1 (by decide +kernel)
        have q825 : h114 61 1 = h73 61 1 := by rw [← e116]; exact x_up_k (Ne.symm (tne_4_61 t1))
        have q826 : h73 61 1 = h54 61 1 := f75 61 1 (by decide +kernel)
        have q827 : h54 61 1 = h8 61 1 := by rw [← e56]; exact x_up_k (Ne.symm (tne_4_61 t1))
        have q828 : h8 61 1 = h 61 1 := f10 61 1 (by decide +kernel)
        have q829 : h489 ((h 61 1) + 7) 2 = h285 ((h 61 1) + 7) 2 := jK 0 f491 (rg_T7_2_0_1 t1) (by first | decide | omega) (by first | decide | omega) (by decide)
        have q830 : h285 ((h 61 1) + 7) 2 = h273 ((h 61 1) + 7) 2 := jK 0 f287 (rg_T7_2_0_1 t1) (by first | decide | omega) (by first | decide | omega) (by decide)
        have q831 : h273 ((h 61 1) + 7) 2 = h228 ((h 61 1) + 7) 2 := by rw [← e275]; exact x_up_k tof_7_4
        have q832 : h228 ((h 61 1) + 7) 2 = h126 ((h 61 1) + 7) 2 := jK 0 f230 (rg_T7_2_0_1 t1) (by first | decide | omega) (by first | decide | omega) (by decide)
        have q833 : h126 ((h 61 1) + 7) 2 = h114 ((h 61 1) + 7) 2 := jK 0 f128 (rg_T7_2_0_1 t1) (by first | decide | omega) (by first | decide | omega) (by decide)
        have q834 : h114 ((h 61 1) + 7) 2 = h73 ((h 61 1) + 7) 2 := by rw [← e116]; exact x_up_k tof_7_4
        have q835 : h73 ((h 61 1) + 7) 2 = h54 ((h 61 1) + 7) 2 := jK 0 f75 (rg_T7_2_0_1 t1) (by first | decide | omega) (by first | decide | omega) (by decide)
        have q836 : h54 ((h 61 1) + 7) 2 = h8 ((h 61 1) + 7) 2 := by rw [← e56]; exact x_up_k tof_7_4
        have e837 : rv h489 5 = (h8 ((h 61 1) + 7) 2) := (congrArg (fun z => svq h489 z 5) ((((((((q820.trans q821).trans q822).trans q823).trans q824).trans q825).trans q826).trans q827).trans q828)).trans (((((((q829.trans q830).trans q831).trans q832).trans q833).trans q834).trans q835).trans q836)
        have q838 : h54 1 2 = h8 1 2 := by rw [← e56]; exact x_up_k (Ne.symm (tne_4_1 t1))
        have q839 : h8 1 2 = h 1 2 := jK 0 f10 rg_1_2_0_1 (by first | decide | omega) (by first | decide | omega) (by decide)
        have q840 : h114 1 2 = h73 1 2 := by rw [← e116]; exact x_up_k (Ne.symm (tne_4_1 t1))
        obtain ⟨w841, e842⟩ := Tk.yes c132 (by first | decide | omega)
        have q843 : h273 1 2 = h228 1 2 := by rw [← e275]; exact x_up_k (Ne.symm (tne_4_1 t1))
        obtain ⟨w844, e845⟩ := Tk.yes c291 (by first | decide | omega)
        have m846 : Ot (h 61 1) h h8 := Ot.trans Ot.refl (c19)
        have m847 : Ot (h 61 1) h h54 := by rw [← e56]; exact Ot.up (o := 4) m846 t1 (by decide) rfl
        have m848 : Ot (h 61 1) h h73 := Ot.fr m847 f75 (by decide)
        have m849 : Ot (h 61 1) h h114 := by rw [← e116]; exact Ot.up (o := 4) m848 t1 (by decide) rfl
        have m850 : Ot (h 61 1) h h126 := Ot.fr m849 f128 (by decide)
        have m851 : Ot (h 61 1) h h228 := Ot.fr m850 f230 (by decide)
        have m852 : Ot (h 61 1) h h273 := by rw [← e275]; exact Ot.up (o := 4) m851 t1 (by decide) rfl
        have m853 : Ot (h 61 1) h h285 := Ot.fr m852 f287 (by decide)
        have m854 : Ot (h 61 1) h h489 := Ot.fr m853 f491 (by decide)
        refine x_retI (np := 129) (x := 0) (by decide +kernel) (by decide) (Or.inr ⟨by decide +kernel, by first | decide | omega, by first | decide | omega⟩) ⟨_, rfl, (by decide), ?_⟩
        exact ⟨j490, f497, (by first | decide | omega), (by first | decide | omega), (by first | decide | omega), (by first | decide | omega), (fun z => by first | decide | omega), (by first | decide | omega), (by first | decide | omega), (nm9.y c80 (by first | decide | omega) (by first | decide | omega) (show h54 1 2 = h 1 2 by first | decide | omega) (by first | decide | omega) rfl (wd9.y w841 (show h114 1 2 = h73 1 2 by first | decide | omega) e842 rfl (nm9.y c235 (by first | decide | omega) (by first | decide | omega) rfl (by first | decide | omega) rfl (wd9.y w844 (show h273 1 2 = h228 1 2 by first | decide | omega) e845 rfl (nm9.f c496 (by first | decide | omega) (by first | decide | omega) rfl (by first | decide | omega) (by first | decide | omega)))))), m854, (fun z => absurd z (by first | decide | omega))⟩
      have q724 : ¬ (2147483648 = 2147483648) := q724
      exfalso; omega
    have q239 : ¬ (v224 ≠ 2147483647) := q239
    have b855 := c234 (by first | decide | omega)
    refine x_const (np := 20) (x := 9223372039002259456) (a := 2147483648) (by decide +kernel) (by decide) (by decide) ?_
    refine x_retI (np := 21) (x := 0) (by decide +kernel) (by decide) (Or.inr ⟨by decide +kernel, by first | decide | omega, by first | decide | omega⟩) ⟨_, rfl, (by decide), ?_⟩
    refine x_ifz (k := 0) (tg := 127) (np := 81) (by decide +kernel) (by decide) (by decide) (fun q856 => ?_) (fun q857 => ?_)
    · have q856 : 2147483648 = 2147483648 := q856
      refine x_const (np := 128) (x := 9223372039002259456) (a := 2147483648) (by decide +kernel) (by decide) (by decide) ?_
      have e858 : rv h 0 = (h (h 61 1) 7) := (congrArg (fun z => svq h z 0) rfl).trans rfl
      have q859 : h228 61 1 = h126 61 1 := f230 61 1 (by decide +kernel)
      have q860 : h126 61 1 = h114 61 1 := f128 61 1 (by decide +kernel)
      have q861 : h114 61 1 = h73 61 1 := by rw [← e116]; exact x_up_k (Ne.symm (tne_4_61 t1))
      have q862 : h73 61 1 = h54 61 1 := f75 61 1 (by decide +kernel)
      have q863 : h54 61 1 = h8 61 1 := by rw [← e56]; exact x_up_k (Ne.symm (tne_4_61 t1))
      have q864 : h8 61 1 = h 61 1 := f10 61 1 (by decide +kernel)
      have q865 : h228 (h 61 1) 7 = h126 (h 61 1) 7 := jK 0 f230 (rg_T0_7_0_1 t1) (by first | decide | omega) (by first | decide | omega) (by decide)
      have q866 : h126 (h 61 1) 7 = h114 (h 61 1) 7 := jK 0 f128 (rg_T0_7_0_1 t1) (by first | decide | omega) (by first | decide | omega) (by decide)
      have q867 : h114 (h 61 1) 7 = h73 (h 61 1) 7 := by rw [← e116]; exact x_up_k tof_0_4
      have q868 : h73 (h 61 1) 7 = h54 (h 61 1) 7 := jK 0 f75 (rg_T0_7_0_1 t1) (by first | decide | omega) (by first | decide | omega) (by decide)
      have q869 : h54 (h 61 1) 7 = h8 (h 61 1) 7 := by rw [← e56]; exact x_up_k tof_0_4
      have e870 : rv h228 0 = (h8 (h 61 1) 7) := (congrArg (fun z => svq h228 z 0) (((((q859.trans q860).trans q861).trans q862).trans q863).trans q864)).trans ((((q865.trans q866).trans q867).trans q868).trans q869)
      have e871 : rv h 1 = (h (h 61 1) 8) := (congrArg (fun z => svq h z 1) rfl).trans rfl
      have q872 : h228 61 1 = h126 61 1 := f230 61 1 (by decide +kernel)
      have q873 : h126 61 1 = h114 61 1 := f128 61 1 (by decide +kernel)
      have q874 : h114 61 1 = h73 61 1 := by rw [← e116]; exact x_up_k (Ne.symm (tne_4_61 t1))
      have q875 : h73 61 1 = h54 61 1 := f75 61 1 (by decide +kernel)
      have q876 : h54 61 1 = h8 61 1 := by rw [← e56]; exact x_up_k (Ne.symm (tne_4_61 t1))
      have q877 : h8 61 1 = h 61 1 := f10 61 1 (by decide +kernel)
      have q878 : h228 (h 61 1) 8 = h126 (h 61 1) 8 := jK 0 f230 (rg_T0_8_0_1 t1) (by first | decide | omega) (by first | decide | omega) (by decide)
      have q879 : h126 (h 61 1) 8 = h114 (h 61 1) 8 := jK 0 f128 (rg_T0_8_0_1 t1) (by first | decide | omega) (by first | decide | omega) (by decide)
      have q880 : h114 (h 61 1) 8 = h73 (h 61 1) 8 := by rw [← e116]; exact x_up_k tof_0_4
      have q881 : h73 (h 61 1) 8 = h54 (h 61 1) 8 := jK 0 f75 (rg_T0_8_0_1 t1) (by first | decide | omega) (by first | decide | omega) (by decide)
      have q882 : h54 (h 61 1) 8 = h8 (h 61 1) 8 := by rw [← e56]; exact x_up_k tof_0_4
      have e883 : rv h228 1 = (h8 (h 61 1) 8) := (congrArg (fun z => svq h228 z 1) (((((q872.trans q873).trans q874).trans q875).trans q876).trans q877)).trans ((((q878.trans q879).trans q880).trans q881).trans q882)
      have e884 : rv h 2 = (h ((h 61 1) + 1) 2) := (congrArg (fun z => svq h z 2) rfl).trans rfl
      have q885 : h228 61 1 = h126 61 1 := f230 61 1 (by decide +kernel)
      have q886 : h126 61 1 = h114 61 1 := f128 61 1 (by decide +kernel)
      have q887 : h114 61 1 = h73 61 1 := by rw [← e116]; exact x_up_k (Ne.symm (tne_4_61 t1))
      have q888 : h73 61 1 = h54 61 1 := f75 61 1 (by decide +kernel)
      have q889 : h54 61 1 = h8 61 1 := by rw [← e56]; exact x_up_k (Ne.symm (tne_4_61 t1))
      have q890 : h8 61 1 = h 61 1 := f10 61 1 (by decide +kernel)
      have q891 : h228 ((h 61 1) + 1) 2 = h126 ((h 61 1) + 1) 2 := jK 0 f230 (rg_T1_2_0_1 t1) (by first | decide | omega) (by first | decide | omega) (by decide)
      have q892 : h126 ((h 61 1) + 1) 2 = h114 ((h 61 1) + 1) 2 := jK 0 f128 (rg_T1_2_0_1 t1) (by first | decide | omega) (by first | decide | omega) (by decide)
      have q893 : h114 ((h 61 1) + 1) 2 = h73 ((h 61 1) + 1) 2 := by rw [← e116]; exact x_up_k tof_1_4
      have q894 : h73 ((h 61 1) + 1) 2 = h54 ((h 61 1) + 1) 2 := jK 0 f75 (rg_T1_2_0_1 t1) (by first | decide | omega) (by first | decide | omega) (by decide)
      have q895 : h54 ((h 61 1) + 1) 2 = h8 ((h 61 1) + 1) 2 := by rw [← e56]; exact x_up_k tof_1_4
      have e896 : rv h228 2 = (h8 ((h 61 1) + 1) 2) := (congrArg (fun z => svq h228 z 2) (((((q885.trans q886).trans q887).trans q888).trans q889).trans q890)).trans ((((q891.trans q892).trans q893).trans q894).trans q895)
      have q897 : h228 61 1 = h126 61 1 := f230 61 1 (by decide +kernel)
      have q898 : h126 61 1 = h114 61 1 := f128 61 1 (by decide +kernel)
      have q899 : h114 61 1 = h73 61 1 := by rw [← e116]; exact x_up_k (Ne.symm (tne_4_61 t1))
      have q900 : h73 61 1 = h54 61 1 := f75 61 1 (by decide +kernel)
      have q901 : h54 61 1 = h8 61 1 := by rw [← e56]; exact x_up_k (Ne.symm (tne_4_61 t1))
      have q902 : h8 61 1 = h 61 1 := f10 61 1 (by decide +kernel)
      have q903 : h228 ((h 61 1) + 3) 2 = h126 ((h 61 1) + 3) 2 := jK 0 f230 (rg_T3_2_0_1 t1) (by first | decide | omega) (by first | decide | omega) (by decide)
      have q904 : h126 ((h 61 1) + 3) 2 = h114 ((h 61 1) + 3) 2 := jK 0 f128 (rg_T3_2_0_1 t1) (by first | decide | omega) (by first | decide | omega) (by decide)
      have q905 : h114 ((h 61 1) + 3) 2 = h73 ((h 61 1) + 3) 2 := by rw [← e116]; exact x_up_k tof_3_4
      have q906 : h73 ((h 61 1) + 3) 2 = h54 ((h 61 1) + 3) 2 := jK 0 f75 (rg_T3_2_0_1 t1) (by first | decide | omega) (by first | decide | omega) (by decide)
      have q907 : h54 ((h 61 1) + 3) 2 = h8 ((h 61 1) + 3) 2 := by rw [← e56]; exact x_up_k tof_3_4
      have e908 : rv h228 3 = (h8 ((h 61 1) + 3) 2) := (congrArg (fun z => svq h228 z 3) (((((q897.trans q898).trans q899).trans q900).trans q901).trans q902)).trans ((((q903.trans q904).trans q905).trans q906).trans q907)
      have e909 : rv h 4 = (h ((h 61 1) + 5) 2) := (congrArg (fun z => svq h z 4) rfl).trans rfl
      have q910 : h228 61 1 = h126 61 1 := f230 61 1 (by decide +kernel)
      have q911 : h126 61 1 = h114 61 1 := f128 61 1 (by decide +kernel)
      have q912 : h114 61 1 = h73 61 1 := by rw [← e116]; exact x_up_k (Ne.symm (tne_4_61 t1))
      have q913 : h73 61 1 = h54 61 1 := f75 61 1 (by decide +kernel)
      have q914 : h54 61 1 = h8 61 1 := by rw [← e56]; exact x_up_k (Ne.symm (tne_4_61 t1))
      have q915 : h8 61 1 = h 61 1 := f10 61 1 (by decide +kernel)
      have q916 : h228 ((h 61 1) + 5) 2 = h126 ((h 61 1) + 5) 2 := jK 0 f230 (rg_T5_2_0_1 t1) (by first | decide | omega) (by first | decide | omega) (by decide)
      have q917 : h126 ((h 61 1) + 5) 2 = h114 ((h 61 1) + 5) 2 := jK 0 f128 (rg_T5_2_0_1 t1) (by first | decide | omega) (by first | decide | omega) (by decide)
      have q918 : h114 ((h 61 1) + 5) 2 = h73 ((h 61 1) + 5) 2 := by rw [← e116]; exact x_up_k tof_5_4
      have q919 : h73 ((h 61 1) + 5) 2 = h54 ((h 61 1) + 5) 2 := jK 0 f75 (rg_T5_2_0_1 t1) (by first | decide | omega) (by first | decide | omega) (by decide)
      have q920 : h54 ((h 61 1) + 5) 2 = h8 ((h 61 1) + 5) 2 := by rw [← e56]; exact x_up_k tof_5_4
      have e921 : rv h228 4 = (h8 ((h 61 1) + 5) 2) := (congrArg (fun z => svq h228 z 4) (((((q910.trans q911).trans q912).trans q913).trans q914).trans q915)).trans ((((q916.trans q917).trans q918).trans q919).trans q920)
      have e922 : rv h 5 = (h ((h 61 1) + 7) 2) := (congrArg (fun z => svq h z 5) rfl).trans rfl
      have q923 : h228 61 1 = h126 61 1 := f230 61 1 (by decide +kernel)
      have q924 : h126 61 1 = h114 61 1 := f128 61 1 (by decide +kernel)
      have q925 : h114 61 1 = h73 61 1 := by rw [← e116]; exact x_up_k (Ne.symm (tne_4_61 t1))
      have q926 : h73 61 1 = h54 61 1 := f75 61 1 (by decide +kernel)
      have q927 : h54 61 1 = h8 61 1 := by rw [← e56]; exact x_up_k (Ne.symm (tne_4_61 t1))
      have q928 : h8 61 1 = h 61 1 := f10 61 1 (by decide +kernel)
      have q929 : h228 ((h 61 1) + 7) 2 = h126 ((h 61 1) + 7) 2 := jK 0 f230 (rg_T7_2_0_1 t1) (by first | decide | omega) (by first | decide | omega) (by decide)
      have q930 : h126 ((h 61 1) + 7) 2 = h114 ((h 61 1) + 7) 2 := jK 0 f128 (rg_T7_2_0_1 t1) (by first | decide | omega) (by first | decide | omega) (by decide)
      have q931 : h114 ((h 61 1) + 7) 2 = h73 ((h 61 1) + 7) 2 := by rw [← e116]; exact x_up_k tof_7_4
      have q932 : h73 ((h 61 1) + 7) 2 = h54 ((h 61 1) + 7) 2 := jK 0 f75 (rg_T7_2_0_1 t1) (by first | decide | omega) (by first | decide | omega) (by decide)
      have q933 : h54 ((h 61 1) + 7) 2 = h8 ((h 61 1) + 7) 2 := by rw [← e56]; exact x_up_k tof_7_4
      have e934 : rv h228 5 = (h8 ((h 61 1) + 7) 2) := (congrArg (fun z => svq h228 z 5) (((((q923.trans q924).trans q925).trans q926).trans q927).trans q928)).trans ((((q929.trans q930).trans q931).trans q932).trans q933)
      have q935 : h54 1 2 = h8 1 2 := by rw [← e56]; exact x_up_k (Ne.symm (tne_4_1 t1))
      have q936 : h8 1 2 = h 1 2 := jK 0 f10 rg_1_2_0_1 (by first | decide | omega) (by first | decide | omega) (by decide)
      have q937 : h114 1 2 = h73 1 2 := by rw [← e116]; exact x_up_k (Ne.symm (tne_4_1 t1))
      obtain ⟨w938, e939⟩ := Tk.yes c132 (by first | decide | omega)
      have m940 : Ot (h 61 1) h h8 := Ot.trans Ot.refl (c19)
      have m941 : Ot (h 61 1) h h54 := by rw [← e56]; exact Ot.up (o := 4) m940 t1 (by decide) rfl
      have m942 : Ot (h 61 1) h h73 := Ot.fr m941 f75 (by decide)
      have m943 : Ot (h 61 1) h h114 := by rw [← e116]; exact Ot.up (o := 4) m942 t1 (by decide) rfl
      have m944 : Ot (h 61 1) h h126 := Ot.fr m943 f128 (by decide)
      have m945 : Ot (h 61 1) h h228 := Ot.fr m944 f230 (by decide)
      refine x_retI (np := 129) (x := 0) (by decide +kernel) (by decide) (Or.inr ⟨by decide +kernel, by first | decide | omega, by first | decide | omega⟩) ⟨_, rfl, (by decide), ?_⟩
      exact ⟨j229, f236, (by first | decide | omega), (by first | decide | omega), (by first | decide | omega), (by first | decide | omega), (fun z => by first | decide | omega), (by first | decide | omega), (by first | decide | omega), (nm9.y c80 (by first | decide | omega) (by first | decide | omega) (show h54 1 2 = h 1 2 by first | decide | omega) (by first | decide | omega) rfl (wd9.y w938 (show h114 1 2 = h73 1 2 by first | decide | omega) e939 rfl (nm9.f c235 (by first | decide | omega) (by first | decide | omega) rfl (by first | decide | omega) (by first | decide | omega)))), m945, (fun z => absurd z (by first | decide | omega))⟩
    have q857 : ¬ (2147483648 = 2147483648) := q857
    exfalso; omega
  have q89 : ¬ (v68 ≠ 2147483647) := q89
  have b946 := c79 (by first | decide | omega)
  refine x_const (np := 20) (x := 9223372039002259456) (a := 2147483648) (by decide +kernel) (by decide) (by decide) ?_
  refine x_retI (np := 21) (x := 0) (by decide +kernel) (by decide) (Or.inr ⟨by decide +kernel, by first | decide | omega, by first | decide | omega⟩) ⟨_, rfl, (by decide), ?_⟩
  refine x_ifz (k := 0) (tg := 127) (np := 50) (by decide +kernel) (by decide) (by decide) (fun q947 => ?_) (fun q948 => ?_)
  · have q947 : 2147483648 = 2147483648 := q947
    refine x_const (np := 128) (x := 9223372039002259456) (a := 2147483648) (by decide +kernel) (by decide) (by decide) ?_
    have e949 : rv h 0 = (h (h 61 1) 7) := (congrArg (fun z => svq h z 0) rfl).trans rfl
    have q950 : h73 61 1 = h54 61 1 := f75 61 1 (by decide +kernel)
    have q951 : h54 61 1 = h8 61 1 := by rw [← e56]; exact x_up_k (Ne.symm (tne_4_61 t1))
    have q952 : h8 61 1 = h 61 1 := f10 61 1 (by decide +kernel)
    have q953 : h73 (h 61 1) 7 = h54 (h 61 1) 7 := jK 0 f75 (rg_T0_7_0_1 t1) (by first | decide | omega) (by first | decide | omega) (by decide)
    have q954 : h54 (h 61 1) 7 = h8 (h 61 1) 7 := by rw [← e56]; exact x_up_k tof_0_4
    have e955 : rv h73 0 = (h8 (h 61 1) 7) := (congrArg (fun z => svq h73 z 0) ((q950.trans q951).trans q952)).trans (q953.trans q954)
    have e956 : rv h 1 = (h (h 61 1) 8) := (congrArg (fun z => svq h z 1) rfl).trans rfl
    have q957 : h73 61 1 = h54 61 1 := f75 61 1 (by decide +kernel)
    have q958 : h54 61 1 = h8 61 1 := by rw [← e56]; exact x_up_k (Ne.symm (tne_4_61 t1))
    have q959 : h8 61 1 = h 61 1 := f10 61 1 (by decide +kernel)
    have q960 : h73 (h 61 1) 8 = h54 (h 61 1) 8 := jK 0 f75 (rg_T0_8_0_1 t1) (by first | decide | omega) (by first | decide | omega) (by decide)
    have q961 : h54 (h 61 1) 8 = h8 (h 61 1) 8 := by rw [← e56]; exact x_up_k tof_0_4
    have e962 : rv h73 1 = (h8 (h 61 1) 8) := (congrArg (fun z => svq h73 z 1) ((q957.trans q958).trans q959)).trans (q960.trans q961)
    have e963 : rv h 2 = (h ((h 61 1) + 1) 2) := (congrArg (fun z => svq h z 2) rfl).trans rfl
    have q964 : h73 61 1 = h54 61 1 := f75 61 1 (by decide +kernel)
    have q965 : h54 61 1 = h8 61 1 := by rw [← e56]; exact x_up_k (Ne.symm (tne_4_61 t1))
    have q966 : h8 61 1 = h 61 1 := f10 61 1 (by decide +kernel)
    have q967 : h73 ((h 61 1) + 1) 2 = h54 ((h 61 1) + 1) 2 := jK 0 f75 (rg_T1_2_0_1 t1) (by first | decide | omega) (by first | decide | omega) (by decide)
    have q968 : h54 ((h 61 1) + 1) 2 = h8 ((h 61 1) + 1) 2 := by rw [← e56]; exact x_up_k tof_1_4
    have e969 : rv h73 2 = (h8 ((h 61 1) + 1) 2) := (congrArg (fun z => svq h73 z 2) ((q964.trans q965).trans q966)).trans (q967.trans q968)
    have q970 : h73 61 1 = h54 61 1 := f75 61 1 (by decide +kernel)
    have q971 : h54 61 1 = h8 61 1 := by rw [← e56]; exact x_up_k (Ne.symm (tne_4_61 t1))
    have q972 : h8 61 1 = h 61 1 := f10 61 1 (by decide +kernel)
    have q973 : h73 ((h 61 1) + 3) 2 = h54 ((h 61 1) + 3) 2 := jK 0 f75 (rg_T3_2_0_1 t1) (by first | decide | omega) (by first | decide | omega) (by decide)
    have q974 : h54 ((h 61 1) + 3) 2 = h8 ((h 61 1) + 3) 2 := by rw [← e56]; exact x_up_k tof_3_4
    have e975 : rv h73 3 = (h8 ((h 61 1) + 3) 2) := (congrArg (fun z => svq h73 z 3) ((q970.trans q971).trans q972)).trans (q973.trans q974)
    have e976 : rv h 4 = (h ((h 61 1) + 5) 2) := (congrArg (fun z => svq h z 4) rfl).trans rfl
    have q977 : h73 61 1 = h54 61 1 := f75 61 1 (by decide +kernel)
    have q978 : h54 61 1 = h8 61 1 := by rw [← e56]; exact x_up_k (Ne.symm (tne_4_61 t1))
    have q979 : h8 61 1 = h 61 1 := f10 61 1 (by decide +kernel)
    have q980 : h73 ((h 61 1) + 5) 2 = h54 ((h 61 1) + 5) 2 := jK 0 f75 (rg_T5_2_0_1 t1) (by first | decide | omega) (by first | decide | omega) (by decide)
    have q981 : h54 ((h 61 1) + 5) 2 = h8 ((h 61 1) + 5) 2 := by rw [← e56]; exact x_up_k tof_5_4
    have e982 : rv h73 4 = (h8 ((h 61 1) + 5) 2) := (congrArg (fun z => svq h73 z 4) ((q977.trans q978).trans q979)).trans (q980.trans q981)
    have e983 : rv h 5 = (h ((h 61 1) + 7) 2) := (congrArg (fun z => svq h z 5) rfl).trans rfl
    have q984 : h73 61 1 = h54 61 1 := f75 61 1 (by decide +kernel)
    have q985 : h54 61 1 = h8 61 1 := by rw [← e56]; exact x_up_k (Ne.symm (tne_4_61 t1))
    have q986 : h8 61 1 = h 61 1 := f10 61 1 (by decide +kernel)
    have q987 : h73 ((h 61 1) + 7) 2 = h54 ((h 61 1) + 7) 2 := jK 0 f75 (rg_T7_2_0_1 t1) (by first | decide | omega) (by first | decide | omega) (by decide)
    have q988 : h54 ((h 61 1) + 7) 2 = h8 ((h 61 1) + 7) 2 := by rw [← e56]; exact x_up_k tof_7_4
    have e989 : rv h73 5 = (h8 ((h 61 1) + 7) 2) := (congrArg (fun z => svq h73 z 5) ((q984.trans q985).trans q986)).trans (q987.trans q988)
    have q990 : h54 1 2 = h8 1 2 := by rw [← e56]; exact x_up_k (Ne.symm (tne_4_1 t1))
    have q991 : h8 1 2 = h 1 2 := jK 0 f10 rg_1_2_0_1 (by first | decide | omega) (by first | decide | omega) (by decide)
    have m992 : Ot (h 61 1) h h8 := Ot.trans Ot.refl (c19)
    have m993 : Ot (h 61 1) h h54 := by rw [← e56]; exact Ot.up (o := 4) m992 t1 (by decide) rfl
    have m994 : Ot (h 61 1) h h73 := Ot.fr m993 f75 (by decide)
    refine x_retI (np := 129) (x := 0) (by decide +kernel) (by decide) (Or.inr ⟨by decide +kernel, by first | decide | omega, by first | decide | omega⟩) ⟨_, rfl, (by decide), ?_⟩
    exact ⟨j74, f81, (by first | decide | omega), (by first | decide | omega), (by first | decide | omega), (by first | decide | omega), (fun z => by first | decide | omega), (by first | decide | omega), (by first | decide | omega), (nm9.f c80 (by first | decide | omega) (by first | decide | omega) (show h54 1 2 = h 1 2 by first | decide | omega) (by first | decide | omega) (by first | decide | omega)), m994, (fun z => absurd z (by first | decide | omega))⟩
  have q948 : ¬ (2147483648 = 2147483648) := q948
  exfalso; omega
set_option maxHeartbeats 0 in
/-- LentNames$Table.addRow()I -/
theorem c67_T1 {sc : Nat × Nat} {d ra0 : Nat} {h : xh} (hJ : J h) (ta0 : tw ra0) (hr0 : (h (ra0 + 1) 2) + 1 ≤ 2147483668) : X sc 67 (d + 1) (xI fun r h' => J h' ∧ Fr 281474976710784 h h' ∧ (2147483648 ≤ r ∧ r ≤ 2147483667) ∧ (h' ra0 7 = h ra0 7) ∧ (h' ra0 8 = h ra0 8) ∧ (h' (ra0 + 1) 2 = h (ra0 + 1) 2 + 1) ∧ (h' (ra0 + 3) 2 = h (ra0 + 3) 2) ∧ (h' (ra0 + 5) 2 = h (ra0 + 5) 2) ∧ (h' (ra0 + 7) 2 = h (ra0 + 7) 2) ∧ (r + 1 = h' (ra0 + 1) 2) ∧ Ot ra0 h h') 0 0 0 [x_r (ra0 + 1), 147573952589676412928] [] h := by
  have hF := Fr.refl 281474976710784 h
  have b1 := jB (e := 2) 0 hJ (rg_T1_2_0_1 ta0) (by first | decide | omega) (by first | decide | omega)
  refine x_aload (np := 1) (x := 0) (by decide +kernel) rfl (x_nc_le (tn_1 ta0)) ?_
  refine x_nI (t := 6) (mj := 66) (n := 1) (rc := 7) (ml := 1) (nr := 0) (np := 4) (as := [x_r (ra0 + 1)]) (rest := []) (lo1 := [x_r (ra0 + 1)]) (by decide +kernel) (by decide) (by decide +kernel) (x_rb_of (tr_1_7 ta0)) rfl rfl (x_wr (tn_1 ta0) x_wn) x_wn (by decide) rfl ?_
  refine x_aload (np := 1) (x := 0) (by decide +kernel) rfl (x_nc_le (tn_1 ta0)) ?_
  refine x_getC (np := 4) (x := 386) (f := 2) (q := (h (ra0 + 1) 2)) (by decide +kernel) (by decide) (tg_1_386_2_0 ta0) rfl (fun l2 => ?_)
  refine x_const (np := 5) (x := 9223372043297226753) (a := 2147483649) (by decide +kernel) (by decide) (by decide) ?_
  refine x_iadd (np := 6) (x := 0) (v := (1 + (h (ra0 + 1) 2))) (by decide +kernel) l2 (by decide) (by first | decide | omega) (by first | decide | omega) ?_
  refine x_aload (np := 7) (x := 0) (by decide +kernel) rfl (x_nc_le (tn_1 ta0)) ?_
  have b3 := jB (e := 0) 0 hJ (rg_T1_0_0_1 ta0) (by first | decide | omega) (by first | decide | omega)
  have q4 : (h (ra0 + 1) 0) = 2147483655 := by first | decide | omega
  refine x_getC (np := 10) (x := 384) (f := 0) (q := 2147483655) (by decide +kernel) (by decide) (tg_1_384_0_0 ta0) q4 (fun l5 => ?_)
  obtain ⟨u6, q7⟩ : ∃ z, (h (ra0 + 1) 2) = 2147483648 + z := ⟨(h (ra0 + 1) 2) - 2147483648, by first | decide | omega⟩
  refine x_imul (np := 11) (x := 0) (i := (1 + u6)) (j := 7) (v := (2147483655 + 7 * u6)) (by decide +kernel) (by first | decide | omega) (by first | decide | omega) (by first | decide | omega) (by first | decide | omega) (by first | decide | omega) (by decide) ?_
  refine x_aload (np := 12) (x := 0) (by decide +kernel) rfl (x_nc_le (tn_1 ta0)) ?_
  have q9 : h (ra0 + 1) 1 = (ra0 + 2) := tf_1_1 hJ ta0
  refine x_getR (np := 15) (x := 385) (f := 1) (q := (ra0 + 2)) (by decide +kernel) (by decide) (tg_1_385_1_1 ta0) q9 ?_
  refine x_alen (np := 16) (x := 0) (n := 140) (by decide +kernel) (tn_2 ta0) (tl_2 ta0).1 (tl_2 ta0).2 (by decide) ?_
  show X _ _ _ _ _ _ _ _ [iv_c 2147483788, iv_c (2147483655 + 7 * u6)] _
  refine x_icmp (k := 5) (tg := 23) (np := 19) (by decide +kernel) (by decide) (by first | decide | omega) (by decide) (fun q10 => ?_) (fun q11 => ?_)
  · have q10 : (2147483655 + 7 * u6) ≤ 2147483788 := q10
    refine x_const (np := 24) (x := 9223372039002259456) (a := 2147483648) (by decide +kernel) (by decide) (by decide) ?_
    refine x_retI (np := 25) (x := 0) (by decide +kernel) (by decide) (Or.inr ⟨by decide +kernel, by first | decide | omega, by first | decide | omega⟩) ⟨_, rfl, (by decide), ?_⟩
    refine x_ifz (k := 0) (tg := 9) (np := 7) (by decide +kernel) (by decide) (by decide) (fun q12 => ?_) (fun q13 => ?_)
    · have q12 : 2147483648 = 2147483648 := q12
      refine x_aload (np := 10) (x := 0) (by decide +kernel) rfl (x_nc_le (tn_1 ta0)) ?_
      refine x_dup (np := 11) (x := 0) (by decide +kernel) (by have z := x_nc_le (k := (ra0 + 1)) (tn_1 ta0); unfold x_r; omega) ?_
      refine x_getC (np := 14) (x := 386) (f := 2) (q := (h (ra0 + 1) 2)) (by decide +kernel) (by decide) (tg_1_386_2_0 ta0) rfl (fun l14 => ?_)
      refine x_const (np := 15) (x := 9223372043297226753) (a := 2147483649) (by decide +kernel) (by decide) (by decide) ?_
      refine x_iadd (np := 16) (x := 0) (v := (1 + (h (ra0 + 1) 2))) (by decide +kernel) l2 (by decide) (by first | decide | omega) (by first | decide | omega) ?_
      refine x_putI (np := 19) (x := 386) (f := 2) (by decide +kernel) (tg_1_386_2_0 ta0) (by first | decide | omega) (Or.inl (by decide)) ?_
      have j16 := jU (e := 2) (v := (1 + (h (ra0 + 1) 2))) 0 hJ (rg_T1_2_0_1 ta0) (by first | decide | omega) (by first | decide | omega) (by first | decide | omega)
      have f18 := jF (e := 2) (v := (1 + (h (ra0 + 1) 2))) 0 hF (rg_T1_2_0_1 ta0) (by first | decide | omega) (by first | decide | omega) (by decide)
      generalize e17 : x_up h (ra0 + 1) 2 (1 + (h (ra0 + 1) 2)) = h15 at j16 f18 ⊢
      refine x_const (np := 20) (x := 9223372039002259456) (a := 2147483648) (by decide +kernel) (by decide) (by decide) ?_
      refine x_istore (np := 21) (x := 1) (lo' := [x_r (ra0 + 1), iv_c 2147483648]) (by decide +kernel) (by decide) (Nat.le_of_ble_eq_true rfl) rfl ?_
      have p279 : ∀ (n : Nat) (v274 : Nat) (h276 : xh), 4294967296 - v274 < n → (2147483648 ≤ v274 ∧ v274 ≤ 2147483655) → J h276 → Fr 128 h15 h276 → Ot ra0 h h276 → X sc 67 (d + 1) (xI fun r h' => J h' ∧ Fr 281474976710784 h h' ∧ (2147483648 ≤ r ∧ r ≤ 2147483667) ∧ (h' ra0 7 = h ra0 7) ∧ (h' ra0 8 = h ra0 8) ∧ (h' (ra0 + 1) 2 = h (ra0 + 1) 2 + 1) ∧ (h' (ra0 + 3) 2 = h (ra0 + 3) 2) ∧ (h' (ra0 + 5) 2 = h (ra0 + 5) 2) ∧ (h' (ra0 + 7) 2 = h (ra0 + 7) 2) ∧ (r + 1 = h' (ra0 + 1) 2) ∧ Ot ra0 h h') 0 0 21 [x_r (ra0 + 1), iv_c v274] [] h276 := by
        intro n
        induction n with
        | zero => intro v274 h276 q281; exact absurd q281 (Nat.not_lt_zero _)
        | succ n i282 =>
          intro v274 h276 q281 b275 j278 f277 m280
          have f283 := Fr.trans f18 f277 (by decide)
          refine x_iload (np := 22) (x := 1) (by decide +kernel) rfl (by first | decide | omega) ?_
          refine x_aload (np := 23) (x := 0) (by decide +kernel) rfl (x_nc_le (tn_1 ta0)) ?_
          have b284 := jB (e := 0) 0 j278 (rg_T1_0_0_1 ta0) (by first | decide | omega) (by first | decide | omega)
          have q285 : (h276 (ra0 + 1) 0) = 2147483655 := by first | decide | omega
          refine x_getC (np := 26) (x := 384) (f := 0) (q := 2147483655) (by decide +kernel) (by decide) (tg_1_384_0_0 ta0) q285 (fun l286 => ?_)
          refine x_icmp (k := 3) (tg := 47) (np := 29) (by decide +kernel) (by decide) (by first | decide | omega) (by decide) (fun q287 => ?_) (fun q288 => ?_)
          · have q287 : 2147483655 ≤ v274 := q287
            refine x_aload (np := 48) (x := 0) (by decide +kernel) rfl (x_nc_le (tn_1 ta0)) ?_
            have q289 : h276 (ra0 + 1) 2 = h15 (ra0 + 1) 2 := jK 0 f277 (rg_T1_2_0_1 ta0) (by first | decide | omega) (by first | decide | omega) (by decide)
            have q290 : h15 (ra0 + 1) 2 = (1 + (h (ra0 + 1) 2)) := by rw [← e17]; exact x_up_at
            refine x_getC (np := 51) (x := 386) (f := 2) (q := (1 + (h (ra0 + 1) 2))) (by decide +kernel) (by decide) (tg_1_386_2_0 ta0) (q289.trans q290) (fun l291 => ?_)
            refine x_const (np := 52) (x := 9223372043297226753) (a := 2147483649) (by decide +kernel) (by decide) (by decide) ?_
            refine x_isub (np := 53) (x := 0) (v := (h (ra0 + 1) 2)) (by decide +kernel) (by first | decide | omega) (by decide) (by first | decide | omega) (by first | decide | omega) ?_
            have b292 := jB (e := 7) 0 hJ (rg_T0_7_0_1 ta0) (by first | decide | omega) (by first | decide | omega)
            have q293 : h276 ra0 7 = h15 ra0 7 := jK 0 f277 (rg_T0_7_0_1 ta0) (by first | decide | omega) (by first | decide | omega) (by decide)
            have q294 : h15 ra0 7 = h ra0 7 := by rw [← e17]; exact x_up_k tof_0_1
            have q295 : h276 ra0 8 = h15 ra0 8 := jK 0 f277 (rg_T0_8_0_1 ta0) (by first | decide | omega) (by first | decide | omega) (by decide)
            have q296 : h15 ra0 8 = h ra0 8 := by rw [← e17]; exact x_up_k tof_0_1
            have q297 : h276 (ra0 + 1) 2 = h15 (ra0 + 1) 2 := jK 0 f277 (rg_T1_2_0_1 ta0) (by first | decide | omega) (by first | decide | omega) (by decide)
            have q298 : h15 (ra0 + 1) 2 = (1 + (h (ra0 + 1) 2)) := by rw [← e17]; exact x_up_at
            have b299 := jB (e := 2) 0 hJ (rg_T3_2_0_1 ta0) (by first | decide | omega) (by first | decide | omega)
            have q300 : h276 (ra0 + 3) 2 = h15 (ra0 + 3) 2 := jK 0 f277 (rg_T3_2_0_1 ta0) (by first | decide | omega) (by first | decide | omega) (by decide)
            have q301 : h15 (ra0 + 3) 2 = h (ra0 + 3) 2 := by rw [← e17]; exact x_up_k tof_3_1
            have b302 := jB (e := 2) 0 hJ (rg_T5_2_0_1 ta0) (by first | decide | omega) (by first | decide | omega)
            have q303 : h276 (ra0 + 5) 2 = h15 (ra0 + 5) 2 := jK 0 f277 (rg_T5_2_0_1 ta0) (by first | decide | omega) (by first | decide | omega) (by decide)
            have q304 : h15 (ra0 + 5) 2 = h (ra0 + 5) 2 := by rw [← e17]; exact x_up_k tof_5_1
            have b305 := jB (e := 2) 0 hJ (rg_T7_2_0_1 ta0) (by first | decide | omega) (by first | decide | omega)
            have q306 : h276 (ra0 + 7) 2 = h15 (ra0 + 7) 2 := jK 0 f277 (rg_T7_2_0_1 ta0) (by first | decide | omega) (by first | decide | omega) (by decide)
            have q307 : h15 (ra0 + 7) 2 = h (ra0 + 7) 2 := by rw [← e17]; exact x_up_k tof_7_1
            have q308 : h276 (ra0 + 1) 2 = h15 (ra0 + 1) 2 := jK 0 f277 (rg_T1_2_0_1 ta0) (by first | decide | omega) (by first | decide | omega) (by decide)
            have q309 : h15 (ra0 + 1) 2 = (1 + (h (ra0 + 1) 2)) := by rw [← e17]; exact x_up_at
            refine x_retI (np := 54) (x := 0) (by decide +kernel) l2 (Or.inl (by decide +kernel)) ⟨_, rfl, l2, ?_⟩
            exact ⟨j278, f283, (by first | decide | omega), (by first | decide | omega), (by first | decide | omega), (by first | decide | omega), (by first | decide | omega), (by first | decide | omega), (by first | decide | omega), (by first | decide | omega), m280⟩
          have q288 : ¬ (2147483655 ≤ v274) := q288
          refine x_aload (np := 30) (x := 0) (by decide +kernel) rfl (x_nc_le (tn_1 ta0)) ?_
          refine x_aload (np := 31) (x := 0) (by decide +kernel) rfl (x_nc_le (tn_1 ta0)) ?_
          have q310 : h276 (ra0 + 1) 2 = h15 (ra0 + 1) 2 := jK 0 f277 (rg_T1_2_0_1 ta0) (by first | decide | omega) (by first | decide | omega) (by decide)
          have q311 : h15 (ra0 + 1) 2 = (1 + (h (ra0 + 1) 2)) := by rw [← e17]; exact x_up_at
          refine x_getC (np := 34) (x := 386) (f := 2) (q := (1 + (h (ra0 + 1) 2))) (by decide +kernel) (by decide) (tg_1_386_2_0 ta0) (q310.trans q311) (fun l312 => ?_)
          refine x_const (np := 35) (x := 9223372043297226753) (a := 2147483649) (by decide +kernel) (by decide) (by decide) ?_
          refine x_isub (np := 36) (x := 0) (v := (h (ra0 + 1) 2)) (by decide +kernel) (by first | decide | omega) (by decide) (by first | decide | omega) (by first | decide | omega) ?_
          refine x_iload (np := 37) (x := 1) (by decide +kernel) rfl (by first | decide | omega) ?_
          refine x_const (np := 38) (x := 9223372039002259456) (a := 2147483648) (by decide +kernel) (by decide) (by decide) ?_
          refine x_nV (t := 6) (mj := 69) (n := 4) (rc := 7) (ml := 5) (nr := 0) (np := 41) (as := [x_r (ra0 + 1), iv_c (h (ra0 + 1) 2), iv_c v274, iv_c 2147483648]) (rest := []) (lo1 := [x_r (ra0 + 1), iv_c (h (ra0 + 1) 2), iv_c v274, iv_c 2147483648, 147573952589676412928]) (by decide +kernel) (by decide) (by decide +kernel) (x_rb_of (tr_1_7 ta0)) rfl rfl (x_wr (tn_1 ta0) (x_wi l2 (x_wi (by first | decide | omega) (x_wi (by decide) x_wn)))) x_wn (by decide) rfl ?_
          refine x_iload (np := 1) (x := 1) (by decide +kernel) rfl l2 ?_
          refine x_ifz (k := 2) (tg := 28) (np := 4) (by decide +kernel) (by decide) l2 (fun q313 => ?_) (fun q314 => ?_)
          · have q313 : (h (ra0 + 1) 2) < 2147483648 := q313
            exfalso; omega
          have q314 : ¬ ((h (ra0 + 1) 2) < 2147483648) := q314
          refine x_iload (np := 5) (x := 1) (by decide +kernel) rfl l2 ?_
          refine x_aload (np := 6) (x := 0) (by decide +kernel) rfl (x_nc_le (tn_1 ta0)) ?_
          have q315 : h276 (ra0 + 1) 2 = h15 (ra0 + 1) 2 := jK 0 f277 (rg_T1_2_0_1 ta0) (by first | decide | omega) (by first | decide | omega) (by decide)
          have q316 : h15 (ra0 + 1) 2 = (1 + (h (ra0 + 1) 2)) := by rw [← e17]; exact x_up_at
          refine x_getC (np := 9) (x := 386) (f := 2) (q := (1 + (h (ra0 + 1) 2))) (by decide +kernel) (by decide) (tg_1_386_2_0 ta0) (q315.trans q316) (fun l317 => ?_)
          refine x_icmp (k := 3) (tg := 28) (np := 12) (by decide +kernel) (by decide) l2 (by first | decide | omega) (fun q318 => ?_) (fun q319 => ?_)
          · have q318 : (1 + (h (ra0 + 1) 2)) ≤ (h (ra0 + 1) 2) := q318
            exfalso; omega
          have q319 : ¬ ((1 + (h (ra0 + 1) 2)) ≤ (h (ra0 + 1) 2)) := q319
          refine x_iload (np := 13) (x := 2) (by decide +kernel) rfl (by first | decide | omega) ?_
          refine x_ifz (k := 2) (tg := 28) (np := 16) (by decide +kernel) (by decide) (by first | decide | omega) (fun q320 => ?_) (fun q321 => ?_)
          · have q320 : v274 < 2147483648 := q320
            exfalso; omega
          have q321 : ¬ (v274 < 2147483648) := q321
          refine x_iload (np := 17) (x := 2) (by decide +kernel) rfl (by first | decide | omega) ?_
          refine x_aload (np := 18) (x := 0) (by decide +kernel) rfl (x_nc_le (tn_1 ta0)) ?_
          refine x_getC (np := 21) (x := 384) (f := 0) (q := 2147483655) (by decide +kernel) (by decide) (tg_1_384_0_0 ta0) q285 (fun l322 => ?_)
          refine x_icmp (k := 3) (tg := 28) (np := 24) (by decide +kernel) (by decide) (by first | decide | omega) (by decide) (fun q323 => ?_) (fun q324 => ?_)
          · have q323 : 2147483655 ≤ v274 := q323
            exfalso; omega
          have q324 : ¬ (2147483655 ≤ v274) := q324
          refine x_const (np := 25) (x := 9223372043297226753) (a := 2147483649) (by decide +kernel) (by decide) (by decide) ?_
          refine x_goto (np := 28) (x := 29) (by decide +kernel) ?_
          refine x_istore (np := 31) (x := 4) (lo' := [x_r (ra0 + 1), iv_c (h (ra0 + 1) 2), iv_c v274, iv_c 2147483648, iv_c 2147483649]) (by decide +kernel) (by decide) (Nat.le_of_ble_eq_true rfl) rfl ?_
          refine x_iload (np := 33) (x := 4) (by decide +kernel) rfl (by decide) ?_
          refine x_ifz (k := 0) (tg := 50) (np := 36) (by decide +kernel) (by decide) (by decide) (fun q325 => ?_) (fun q326 => ?_)
          · have q325 : 2147483649 = 2147483648 := q325
            exfalso; omega
          have q326 : ¬ (2147483649 = 2147483648) := q326
          refine x_aload (np := 37) (x := 0) (by decide +kernel) rfl (x_nc_le (tn_1 ta0)) ?_
          have q327 : h276 (ra0 + 1) 1 = (ra0 + 2) := tf_1_1 j278 ta0
          refine x_getR (np := 40) (x := 385) (f := 1) (q := (ra0 + 2)) (by decide +kernel) (by decide) (tg_1_385_1_1 ta0) q327 ?_
          refine x_iload (np := 41) (x := 1) (by decide +kernel) rfl l2 ?_
          refine x_aload (np := 42) (x := 0) (by decide +kernel) rfl (x_nc_le (tn_1 ta0)) ?_
          refine x_getC (np := 45) (x := 384) (f := 0) (q := 2147483655) (by decide +kernel) (by decide) (tg_1_384_0_0 ta0) q285 (fun l328 => ?_)
          refine x_imul (np := 46) (x := 0) (i := u6) (j := 7) (v := (2147483648 + 7 * u6)) (by decide +kernel) (by first | decide | omega) (by first | decide | omega) (by first | decide | omega) (by first | decide | omega) l2 (by decide) ?_
          refine x_iload (np := 47) (x := 2) (by decide +kernel) rfl (by first | decide | omega) ?_
          refine x_iadd (np := 48) (x := 0) (v := (7 * u6 + v274)) (by decide +kernel) (by first | decide | omega) (by first | decide | omega) (by first | decide | omega) (by first | decide | omega) ?_
          refine x_iload (np := 49) (x := 3) (by decide +kernel) rfl (by decide) ?_
          obtain ⟨u330, q331⟩ : ∃ z, v274 = 2147483648 + z := ⟨v274 - 2147483648, by first | decide | omega⟩
          refine x_ast (np := 50) (x := 0) (kd := 1) (n := 140) (i := (7 * u6 + u330)) (by decide +kernel) (Or.inl rfl) (ta_2_140 ta0) (by first | decide | omega) (by first | decide | omega) (by decide) (by decide) (fun z => absurd z (by decide)) ?_
          have j333 := jUw (e := (7 * u6 + u330)) (v := 2147483648) j278 (rw_T2 ta0) (by first | decide | omega) (by first | decide | omega)
          have f335 := jFw (e := (7 * u6 + u330)) (v := 2147483648) f283 (rw_T2 ta0) (by first | decide | omega) (by decide)
          have f336 := jFw (e := (7 * u6 + u330)) (v := 2147483648) f277 (rw_T2 ta0) (by first | decide | omega) (by decide)
          generalize e334 : x_up h276 (ra0 + 2) (7 * u6 + u330) 2147483648 = h332 at j333 f335 f336 ⊢
          refine x_retV (np := 51) (x := 0) (by decide +kernel) (by decide +kernel) ⟨rfl, ?_⟩
          refine x_iinc (np := 44) (i := 1) (j := 2147483649) (v := (1 + v274)) (lo' := [x_r (ra0 + 1), iv_c (1 + v274)]) (by decide +kernel) (by decide) (by decide) rfl (by first | decide | omega) (by first | decide | omega) (by first | decide | omega) rfl ?_
          refine x_goto (np := 47) (x := 21) (by decide +kernel) ?_
          have m337 : Ot ra0 h h332 := by rw [← e334]; exact Ot.up (o := 2) m280 ta0 (by decide) rfl
          exact i282 (1 + v274) h332 (by first | decide | omega) (by first | decide | omega) j333 f336 m337
      have m338 : Ot ra0 h h15 := by rw [← e17]; exact Ot.up (o := 1) Ot.refl ta0 (by decide) rfl
      exact p279 _ 2147483648 h15 (Nat.lt_succ_self _) (by first | decide | omega) j16 (Fr.refl _ _) m338
    have q13 : ¬ (2147483648 = 2147483648) := q13
    exfalso; omega
  have q11 : ¬ ((2147483655 + 7 * u6) ≤ 2147483788) := q11
  exfalso; omega
set_option maxHeartbeats 0 in
/-- LentNames$Table.put(III)V -/
theorem c69_T1_c0 {sc : Nat × Nat} {d ra0 a1 a3 : Nat} {h : xh} (hJ : J h) (ta0 : tw ra0) (ba1 : 2147483648 ≤ a1 ∧ a1 ≤ 2147483667) (ba3 : 2147483648 ≤ a3 ∧ a3 ≤ 2147483653) : X sc 69 d (xV fun h' => J h' ∧ Fr 129 h h') 0 0 0 [x_r (ra0 + 1), iv_c a1, iv_c 2147483648, iv_c a3, 147573952589676412928] [] h := by
  have la1 : a1 < 4294967296 := by first | decide | omega
  have la3 : a3 < 4294967296 := by first | decide | omega
  have hF := Fr.refl 129 h
  refine x_iload (np := 1) (x := 1) (by decide +kernel) rfl la1 ?_
  refine x_ifz (k := 2) (tg := 28) (np := 4) (by decide +kernel) (by decide) la1 (fun q1 => ?_) (fun q2 => ?_)
  · have q1 : a1 < 2147483648 := q1
    exfalso; omega
  have q2 : ¬ (a1 < 2147483648) := q2
  refine x_iload (np := 5) (x := 1) (by decide +kernel) rfl la1 ?_
  refine x_aload (np := 6) (x := 0) (by decide +kernel) rfl (x_nc_le (tn_1 ta0)) ?_
  have b3 := jB (e := 2) 0 hJ (rg_T1_2_0_1 ta0) (by first | decide | omega) (by first | decide | omega)
  refine x_getC (np := 9) (x := 386) (f := 2) (q := (h (ra0 + 1) 2)) (by decide +kernel) (by decide) (tg_1_386_2_0 ta0) rfl (fun l4 => ?_)
  refine x_icmp (k := 3) (tg := 28) (np := 12) (by decide +kernel) (by decide) la1 l4 (fun q5 => ?_) (fun q6 => ?_)
  · have q5 : (h (ra0 + 1) 2) ≤ a1 := q5
    refine x_const (np := 29) (x := 9223372039002259456) (a := 2147483648) (by decide +kernel) (by decide) (by decide) ?_
    refine x_istore (np := 31) (x := 4) (lo' := [x_r (ra0 + 1), iv_c a1, iv_c 2147483648, iv_c a3, iv_c 2147483648]) (by decide +kernel) (by decide) (Nat.le_of_ble_eq_true rfl) rfl ?_
    refine x_iload (np := 33) (x := 4) (by decide +kernel) rfl (by decide) ?_
    refine x_ifz (k := 0) (tg := 50) (np := 36) (by decide +kernel) (by decide) (by decide) (fun q7 => ?_) (fun q8 => ?_)
    · have q7 : 2147483648 = 2147483648 := q7
      refine x_retV (np := 51) (x := 0) (by decide +kernel) (by decide +kernel) ⟨rfl, ?_⟩
      exact ⟨hJ, hF⟩
    have q8 : ¬ (2147483648 = 2147483648) := q8
    exfalso; omega
  have q6 : ¬ ((h (ra0 + 1) 2) ≤ a1) := q6
  refine x_iload (np := 13) (x := 2) (by decide +kernel) rfl (by decide) ?_
  refine x_ifz (k := 2) (tg := 28) (np := 16) (by decide +kernel) (by decide) (by decide) (fun q9 => ?_) (fun q10 => ?_)
  · have q9 : 2147483648 < 2147483648 := q9
    exfalso; omega
  have q10 : ¬ (2147483648 < 2147483648) := q10
  refine x_iload (np := 17) (x := 2) (by decide +kernel) rfl (by decide) ?_
  refine x_aload (np := 18) (x := 0) (by decide +kernel) rfl (x_nc_le (tn_1 ta0)) ?_
  have b11 := jB (e := 0) 0 hJ (rg_T1_0_0_1 ta0) (by first | decide | omega) (by first | decide | omega)
  have q12 : (h (ra0 + 1) 0) = 2147483655 := by first | decide | omega
  refine x_getC (np := 21) (x := 384) (f := 0) (q := 2147483655) (by decide +kernel) (by decide) (tg_1_384_0_0 ta0) q12 (fun l13 => ?_)
  refine x_icmp (k := 3) (tg := 28) (np := 24) (by decide +kernel) (by decide) (by decide) (by decide) (fun q14 => ?_) (fun q15 => ?_)
  · have q14 : 2147483655 ≤ 2147483648 := q14
    exfalso; omega
  have q15 : ¬ (2147483655 ≤ 2147483648) := q15
  refine x_const (np := 25) (x := 9223372043297226753) (a := 2147483649) (by decide +kernel) (by decide) (by decide) ?_
  refine x_goto (np := 28) (x := 29) (by decide +kernel) ?_
  refine x_istore (np := 31) (x := 4) (lo' := [x_r (ra0 + 1), iv_c a1, iv_c 2147483648, iv_c a3, iv_c 2147483649]) (by decide +kernel) (by decide) (Nat.le_of_ble_eq_true rfl) rfl ?_
  refine x_iload (np := 33) (x := 4) (by decide +kernel) rfl (by decide) ?_
  refine x_ifz (k := 0) (tg := 50) (np := 36) (by decide +kernel) (by decide) (by decide) (fun q16 => ?_) (fun q17 => ?_)
  · have q16 : 2147483649 = 2147483648 := q16
    exfalso; omega
  have q17 : ¬ (2147483649 = 2147483648) := q17
  refine x_aload (np := 37) (x := 0) (by decide +kernel) rfl (x_nc_le (tn_1 ta0)) ?_
  have q18 : h (ra0 + 1) 1 = (ra0 + 2) := tf_1_1 hJ ta0
  refine x_getR (np := 40) (x := 385) (f := 1) (q := (ra0 + 2)) (by decide +kernel) (by decide) (tg_1_385_1_1 ta0) q18 ?_
  refine x_iload (np := 41) (x := 1) (by decide +kernel) rfl la1 ?_
  refine x_aload (np := 42) (x := 0) (by decide +kernel) rfl (x_nc_le (tn_1 ta0)) ?_
  refine x_getC (np := 45) (x := 384) (f := 0) (q := 2147483655) (by decide +kernel) (by decide) (tg_1_384_0_0 ta0) q12 (fun l19 => ?_)
  obtain ⟨u20, q21⟩ : ∃ z, a1 = 2147483648 + z := ⟨a1 - 2147483648, by first | decide | omega⟩
  refine x_imul (np := 46) (x := 0) (i := u20) (j := 7) (v := (2147483648 + 7 * u20)) (by decide +kernel) (by first | decide | omega) (by first | decide | omega) (by first | decide | omega) (by first | decide | omega) la1 (by decide) ?_
  refine x_iload (np := 47) (x := 2) (by decide +kernel) rfl (by decide) ?_
  refine x_iadd (np := 48) (x := 0) (v := (2147483648 + 7 * u20)) (by decide +kernel) (by first | decide | omega) (by decide) (by first | decide | omega) (by first | decide | omega) ?_
  refine x_iload (np := 49) (x := 3) (by decide +kernel) rfl la3 ?_
  refine x_ast (np := 50) (x := 0) (kd := 1) (n := 140) (i := (7 * u20)) (by decide +kernel) (Or.inl rfl) (ta_2_140 ta0) (by first | decide | omega) (by first | decide | omega) (by decide) la3 (fun z => absurd z (by decide)) ?_
  have j24 := jU (e := (7 * u20)) (v := a3) u20 hJ (rg_T2_0_7_20 ta0) (by first | decide | omega) (by first | decide | omega) (by first | decide | omega)
  have f26 := jF (e := (7 * u20)) (v := a3) u20 hF (rg_T2_0_7_20 ta0) (by first | decide | omega) (by first | decide | omega) (by decide)
  generalize e25 : x_up h (ra0 + 2) (7 * u20) a3 = h23 at j24 f26 ⊢
  refine x_retV (np := 51) (x := 0) (by decide +kernel) (by decide +kernel) ⟨rfl, ?_⟩
  exact ⟨j24, f26⟩
set_option maxHeartbeats 0 in
/-- LentNames$Table.put(III)V -/
theorem c69_T1_c1 {sc : Nat × Nat} {d ra0 a1 a3 : Nat} {h : xh} (hJ : J h) (ta0 : tw ra0) (ba1 : 2147483648 ≤ a1 ∧ a1 ≤ 2147483667) (ba3 : 2147483648 ≤ a3 ∧ a3 ≤ 2147483653) : X sc 69 d (xV fun h' => J h' ∧ Fr 129 h h') 0 0 0 [x_r (ra0 + 1), iv_c a1, iv_c 2147483649, iv_c a3, 147573952589676412928] [] h := by
  have la1 : a1 < 4294967296 := by first | decide | omega
  have la3 : a3 < 4294967296 := by first | decide | omega
  have hF := Fr.refl 129 h
  refine x_iload (np := 1) (x := 1) (by decide +kernel) rfl la1 ?_
  refine x_ifz (k := 2) (tg := 28) (np := 4) (by decide +kernel) (by decide) la1 (fun q1 => ?_) (fun q2 => ?_)
  · have q1 : a1 < 2147483648 := q1
    exfalso; omega
  have q2 : ¬ (a1 < 2147483648) := q2
  refine x_iload (np := 5) (x := 1) (by decide +kernel) rfl la1 ?_
  refine x_aload (np := 6) (x := 0) (by decide +kernel) rfl (x_nc_le (tn_1 ta0)) ?_
  have b3 := jB (e := 2) 0 hJ (rg_T1_2_0_1 ta0) (by first | decide | omega) (by first | decide | omega)
  refine x_getC (np := 9) (x := 386) (f := 2) (q := (h (ra0 + 1) 2)) (by decide +kernel) (by decide) (tg_1_386_2_0 ta0) rfl (fun l4 => ?_)
  refine x_icmp (k := 3) (tg := 28) (np := 12) (by decide +kernel) (by decide) la1 l4 (fun q5 => ?_) (fun q6 => ?_)
  · have q5 : (h (ra0 + 1) 2) ≤ a1 := q5
    refine x_const (np := 29) (x := 9223372039002259456) (a := 2147483648) (by decide +kernel) (by decide) (by decide) ?_
    refine x_istore (np := 31) (x := 4) (lo' := [x_r (ra0 + 1), iv_c a1, iv_c 2147483649, iv_c a3, iv_c 2147483648]) (by decide +kernel) (by decide) (Nat.le_of_ble_eq_true rfl) rfl ?_
    refine x_iload (np := 33) (x := 4) (by decide +kernel) rfl (by decide) ?_
    refine x_ifz (k := 0) (tg := 50) (np := 36) (by decide +kernel) (by decide) (by decide) (fun q7 => ?_) (fun q8 => ?_)
    · have q7 : 2147483648 = 2147483648 := q7
      refine x_retV (np := 51) (x := 0) (by decide +kernel) (by decide +kernel) ⟨rfl, ?_⟩
      exact ⟨hJ, hF⟩
    have q8 : ¬ (2147483648 = 2147483648) := q8
    exfalso; omega
  have q6 : ¬ ((h (ra0 + 1) 2) ≤ a1) := q6
  refine x_iload (np := 13) (x := 2) (by decide +kernel) rfl (by decide) ?_
  refine x_ifz (k := 2) (tg := 28) (np := 16) (by decide +kernel) (by decide) (by decide) (fun q9 => ?_) (fun q10 => ?_)
  · have q9 : 2147483649 < 2147483648 := q9
    exfalso; omega
  have q10 : ¬ (2147483649 < 2147483648) := q10
  refine x_iload (np := 17) (x := 2) (by decide +kernel) rfl (by decide) ?_
  refine x_aload (np := 18) (x := 0) (by decide +kernel) rfl (x_nc_le (tn_1 ta0)) ?_
  have b11 := jB (e := 0) 0 hJ (rg_T1_0_0_1 ta0) (by first | decide | omega) (by first | decide | omega)
  have q12 : (h (ra0 + 1) 0) = 2147483655 := by first | decide | omega
  refine x_getC (np := 21) (x := 384) (f := 0) (q := 2147483655) (by decide +kernel) (by decide) (tg_1_384_0_0 ta0) q12 (fun l13 => ?_)
  refine x_icmp (k := 3) (tg := 28) (np := 24) (by decide +kernel) (by decide) (by decide) (by decide) (fun q14 => ?_) (fun q15 => ?_)
  · have q14 : 2147483655 ≤ 2147483649 := q14
    exfalso; omega
  have q15 : ¬ (2147483655 ≤ 2147483649) := q15
  refine x_const (np := 25) (x := 9223372043297226753) (a := 2147483649) (by decide +kernel) (by decide) (by decide) ?_
  refine x_goto (np := 28) (x := 29) (by decide +kernel) ?_
  refine x_istore (np := 31) (x := 4) (lo' := [x_r (ra0 + 1), iv_c a1, iv_c 2147483649, iv_c a3, iv_c 2147483649]) (by decide +kernel) (by decide) (Nat.le_of_ble_eq_true rfl) rfl ?_
  refine x_iload (np := 33) (x := 4) (by decide +kernel) rfl (by decide) ?_
  refine x_ifz (k := 0) (tg := 50) (np := 36) (by decide +kernel) (by decide) (by decide) (fun q16 => ?_) (fun q17 => ?_)
  · have q16 : 2147483649 = 2147483648 := q16
    exfalso; omega
  have q17 : ¬ (2147483649 = 2147483648) := q17
  refine x_aload (np := 37) (x := 0) (by decide +kernel) rfl (x_nc_le (tn_1 ta0)) ?_
  have q18 : h (ra0 + 1) 1 = (ra0 + 2) := tf_1_1 hJ ta0
  refine x_getR (np := 40) (x := 385) (f := 1) (q := (ra0 + 2)) (by decide +kernel) (by decide) (tg_1_385_1_1 ta0) q18 ?_
  refine x_iload (np := 41) (x := 1) (by decide +kernel) rfl la1 ?_
  refine x_aload (np := 42) (x := 0) (by decide +kernel) rfl (x_nc_le (tn_1 ta0)) ?_
  refine x_getC (np := 45) (x := 384) (f := 0) (q := 2147483655) (by decide +kernel) (by decide) (tg_1_384_0_0 ta0) q12 (fun l19 => ?_)
  obtain ⟨u20, q21⟩ : ∃ z, a1 = 2147483648 + z := ⟨a1 - 2147483648, by first | decide | omega⟩
  refine x_imul (np := 46) (x := 0) (i := u20) (j := 7) (v := (2147483648 + 7 * u20)) (by decide +kernel) (by first | decide | omega) (by first | decide | omega) (by first | decide | omega) (by first | decide | omega) la1 (by decide) ?_
  refine x_iload (np := 47) (x := 2) (by decide +kernel) rfl (by decide) ?_
  refine x_iadd (np := 48) (x := 0) (v := (2147483649 + 7 * u20)) (by decide +kernel) (by first | decide | omega) (by decide) (by first | decide | omega) (by first | decide | omega) ?_
  refine x_iload (np := 49) (x := 3) (by decide +kernel) rfl la3 ?_
  refine x_ast (np := 50) (x := 0) (kd := 1) (n := 140) (i := (1 + 7 * u20)) (by decide +kernel) (Or.inl rfl) (ta_2_140 ta0) (by first | decide | omega) (by first | decide | omega) (by decide) la3 (fun z => absurd z (by decide)) ?_
  have j24 := jU (e := (1 + 7 * u20)) (v := a3) u20 hJ (rg_T2_1_7_20 ta0) (by first | decide | omega) (by first | decide | omega) (by first | decide | omega)
  have f26 := jF (e := (1 + 7 * u20)) (v := a3) u20 hF (rg_T2_1_7_20 ta0) (by first | decide | omega) (by first | decide | omega) (by decide)
  generalize e25 : x_up h (ra0 + 2) (1 + 7 * u20) a3 = h23 at j24 f26 ⊢
  refine x_retV (np := 51) (x := 0) (by decide +kernel) (by decide +kernel) ⟨rfl, ?_⟩
  exact ⟨j24, f26⟩
set_option maxHeartbeats 0 in
/-- LentNames$Table.put(III)V -/
theorem c69_T1_c2 {sc : Nat × Nat} {d ra0 a1 a3 : Nat} {h : xh} (hJ : J h) (ta0 : tw ra0) (ba1 : 2147483648 ≤ a1 ∧ a1 ≤ 2147483667) (ba3 : 2147483648 ≤ a3 ∧ a3 ≤ 2147483659) : X sc 69 d (xV fun h' => J h' ∧ Fr 129 h h') 0 0 0 [x_r (ra0 + 1), iv_c a1, iv_c 2147483650, iv_c a3, 147573952589676412928] [] h := by
  have la1 : a1 < 4294967296 := by first | decide | omega
  have la3 : a3 < 4294967296 := by first | decide | omega
  have hF := Fr.refl 129 h
  refine x_iload (np := 1) (x := 1) (by decide +kernel) rfl la1 ?_
  refine x_ifz (k := 2) (tg := 28) (np := 4) (by decide +kernel) (by decide) la1 (fun q1 => ?_) (fun q2 => ?_)
  · have q1 : a1 < 2147483648 := q1
    exfalso; omega
  have q2 : ¬ (a1 < 2147483648) := q2
  refine x_iload (np := 5) (x := 1) (by decide +kernel) rfl la1 ?_
  refine x_aload (np := 6) (x := 0) (by decide +kernel) rfl (x_nc_le (tn_1 ta0)) ?_
  have b3 := jB (e := 2) 0 hJ (rg_T1_2_0_1 ta0) (by first | decide | omega) (by first | decide | omega)
  refine x_getC (np := 9) (x := 386) (f := 2) (q := (h (ra0 + 1) 2)) (by decide +kernel) (by decide) (tg_1_386_2_0 ta0) rfl (fun l4 => ?_)
  refine x_icmp (k := 3) (tg := 28) (np := 12) (by decide +kernel) (by decide) la1 l4 (fun q5 => ?_) (fun q6 => ?_)
  · have q5 : (h (ra0 + 1) 2) ≤ a1 := q5
    refine x_const (np := 29) (x := 9223372039002259456) (a := 2147483648) (by decide +kernel) (by decide) (by decide) ?_
    refine x_istore (np := 31) (x := 4) (lo' := [x_r (ra0 + 1), iv_c a1, iv_c 2147483650, iv_c a3, iv_c 2147483648]) (by decide +kernel) (by decide) (Nat.le_of_ble_eq_true rfl) rfl ?_
    refine x_iload (np := 33) (x := 4) (by decide +kernel) rfl (by decide) ?_
    refine x_ifz (k := 0) (tg := 50) (np := 36) (by decide +kernel) (by decide) (by decide) (fun q7 => ?_) (fun q8 => ?_)
    · have q7 : 2147483648 = 2147483648 := q7
      refine x_retV (np := 51) (x := 0) (by decide +kernel) (by decide +kernel) ⟨rfl, ?_⟩
      exact ⟨hJ, hF⟩
    have q8 : ¬ (2147483648 = 2147483648) := q8
    exfalso; omega
  have q6 : ¬ ((h (ra0 + 1) 2) ≤ a1) := q6
  refine x_iload (np := 13) (x := 2) (by decide +kernel) rfl (by decide) ?_
  refine x_ifz (k := 2) (tg := 28) (np := 16) (by decide +kernel) (by decide) (by decide) (fun q9 => ?_) (fun q10 => ?_)
  · have q9 : 2147483650 < 2147483648 := q9
    exfalso; omega
  have q10 : ¬ (2147483650 < 2147483648) := q10
  refine x_iload (np := 17) (x := 2) (by decide +kernel) rfl (by decide) ?_
  refine x_aload (np := 18) (x := 0) (by decide +kernel) rfl (x_nc_le (tn_1 ta0)) ?_
  have b11 := jB (e := 0) 0 hJ (rg_T1_0_0_1 ta0) (by first | decide | omega) (by first | decide | omega)
  have q12 : (h (ra0 + 1) 0) = 2147483655 := by first | decide | omega
  refine x_getC (np := 21) (x := 384) (f := 0) (q := 2147483655) (by decide +kernel) (by decide) (tg_1_384_0_0 ta0) q12 (fun l13 => ?_)
  refine x_icmp (k := 3) (tg := 28) (np := 24) (by decide +kernel) (by decide) (by decide) (by decide) (fun q14 => ?_) (fun q15 => ?_)
  · have q14 : 2147483655 ≤ 2147483650 := q14
    exfalso; omega
  have q15 : ¬ (2147483655 ≤ 2147483650) := q15
  refine x_const (np := 25) (x := 9223372043297226753) (a := 2147483649) (by decide +kernel) (by decide) (by decide) ?_
  refine x_goto (np := 28) (x := 29) (by decide +kernel) ?_
  refine x_istore (np := 31) (x := 4) (lo' := [x_r (ra0 + 1), iv_c a1, iv_c 2147483650, iv_c a3, iv_c 2147483649]) (by decide +kernel) (by decide) (Nat.le_of_ble_eq_true rfl) rfl ?_
  refine x_iload (np := 33) (x := 4) (by decide +kernel) rfl (by decide) ?_
  refine x_ifz (k := 0) (tg := 50) (np := 36) (by decide +kernel) (by decide) (by decide) (fun q16 => ?_) (fun q17 => ?_)
  · have q16 : 2147483649 = 2147483648 := q16
    exfalso; omega
  have q17 : ¬ (2147483649 = 2147483648) := q17
  refine x_aload (np := 37) (x := 0) (by decide +kernel) rfl (x_nc_le (tn_1 ta0)) ?_
  have q18 : h (ra0 + 1) 1 = (ra0 + 2) := tf_1_1 hJ ta0
  refine x_getR (np := 40) (x := 385) (f := 1) (q := (ra0 + 2)) (by decide +kernel) (by decide) (tg_1_385_1_1 ta0) q18 ?_
  refine x_iload (np := 41) (x := 1) (by decide +kernel) rfl la1 ?_
  refine x_aload (np := 42) (x := 0) (by decide +kernel) rfl (x_nc_le (tn_1 ta0)) ?_
  refine x_getC (np := 45) (x := 384) (f := 0) (q := 2147483655) (by decide +kernel) (by decide) (tg_1_384_0_0 ta0) q12 (fun l19 => ?_)
  obtain ⟨u20, q21⟩ : ∃ z, a1 = 2147483648 + z := ⟨a1 - 2147483648, by first | decide | omega⟩
  refine x_imul (np := 46) (x := 0) (i := u20) (j := 7) (v := (2147483648 + 7 * u20)) (by decide +kernel) (by first | decide | omega) (by first | decide | omega) (by first | decide | omega) (by first | decide | omega) la1 (by decide) ?_
  refine x_iload (np := 47) (x := 2) (by decide +kernel) rfl (by decide) ?_
  refine x_iadd (np := 48) (x := 0) (v := (2147483650 + 7 * u20)) (by decide +kernel) (by first | decide | omega) (by decide) (by first | decide | omega) (by first | decide | omega) ?_
  refine x_iload (np := 49) (x := 3) (by decide +kernel) rfl la3 ?_
  refine x_ast (np := 50) (x := 0) (kd := 1) (n := 140) (i := (2 + 7 * u20)) (by decide +kernel) (Or.inl rfl) (ta_2_140 ta0) (by first | decide | omega) (by first | decide | omega) (by decide) la3 (fun z => absurd z (by decide)) ?_
  have j24 := jU (e := (2 + 7 * u20)) (v := a3) u20 hJ (rg_T2_2_7_20 ta0) (by first | decide | omega) (by first | decide | omega) (by first | decide | omega)
  have f26 := jF (e := (2 + 7 * u20)) (v := a3) u20 hF (rg_T2_2_7_20 ta0) (by first | decide | omega) (by first | decide | omega) (by decide)
  generalize e25 : x_up h (ra0 + 2) (2 + 7 * u20) a3 = h23 at j24 f26 ⊢
  refine x_retV (np := 51) (x := 0) (by decide +kernel) (by decide +kernel) ⟨rfl, ?_⟩
  exact ⟨j24, f26⟩
set_option maxHeartbeats 0 in
/-- LentNames$Table.put(III)V -/
theorem c69_T1_c3 {sc : Nat × Nat} {d ra0 a1 a3 : Nat} {h : xh} (hJ : J h) (ta0 : tw ra0) (ba1 : 2147483648 ≤ a1 ∧ a1 ≤ 2147483667) (ba3 : 2147483648 ≤ a3 ∧ a3 ≤ 2147483660) : X sc 69 d (xV fun h' => J h' ∧ Fr 129 h h') 0 0 0 [x_r (ra0 + 1), iv_c a1, iv_c 2147483651, iv_c a3, 147573952589676412928] [] h := by
  have la1 : a1 < 4294967296 := by first | decide | omega
  have la3 : a3 < 4294967296 := by first | decide | omega
  have hF := Fr.refl 129 h
  refine x_iload (np := 1) (x := 1) (by decide +kernel) rfl la1 ?_
  refine x_ifz (k := 2) (tg := 28) (np := 4) (by decide +kernel) (by decide) la1 (fun q1 => ?_) (fun q2 => ?_)
  · have q1 : a1 < 2147483648 := q1
    exfalso; omega
  have q2 : ¬ (a1 < 2147483648) := q2
  refine x_iload (np := 5) (x := 1) (by decide +kernel) rfl la1 ?_
  refine x_aload (np := 6) (x := 0) (by decide +kernel) rfl (x_nc_le (tn_1 ta0)) ?_
  have b3 := jB (e := 2) 0 hJ (rg_T1_2_0_1 ta0) (by first | decide | omega) (by first | decide | omega)
  refine x_getC (np := 9) (x := 386) (f := 2) (q := (h (ra0 + 1) 2)) (by decide +kernel) (by decide) (tg_1_386_2_0 ta0) rfl (fun l4 => ?_)
  refine x_icmp (k := 3) (tg := 28) (np := 12) (by decide +kernel) (by decide) la1 l4 (fun q5 => ?_) (fun q6 => ?_)
  · have q5 : (h (ra0 + 1) 2) ≤ a1 := q5
    refine x_const (np := 29) (x := 9223372039002259456) (a := 2147483648) (by decide +kernel) (by decide) (by decide) ?_
    refine x_istore (np := 31) (x := 4) (lo' := [x_r (ra0 + 1), iv_c a1, iv_c 2147483651, iv_c a3, iv_c 2147483648]) (by decide +kernel) (by decide) (Nat.le_of_ble_eq_true rfl) rfl ?_
    refine x_iload (np := 33) (x := 4) (by decide +kernel) rfl (by decide) ?_
    refine x_ifz (k := 0) (tg := 50) (np := 36) (by decide +kernel) (by decide) (by decide) (fun q7 => ?_) (fun q8 => ?_)
    · have q7 : 2147483648 = 2147483648 := q7
      refine x_retV (np := 51) (x := 0) (by decide +kernel) (by decide +kernel) ⟨rfl, ?_⟩
      exact ⟨hJ, hF⟩
    have q8 : ¬ (2147483648 = 2147483648) := q8
    exfalso; omega
  have q6 : ¬ ((h (ra0 + 1) 2) ≤ a1) := q6
  refine x_iload (np := 13) (x := 2) (by decide +kernel) rfl (by decide) ?_
  refine x_ifz (k := 2) (tg := 28) (np := 16) (by decide +kernel) (by decide) (by decide) (fun q9 => ?_) (fun q10 => ?_)
  · have q9 : 2147483651 < 2147483648 := q9
    exfalso; omega
  have q10 : ¬ (2147483651 < 2147483648) := q10
  refine x_iload (np := 17) (x := 2) (by decide +kernel) rfl (by decide) ?_
  refine x_aload (np := 18) (x := 0) (by decide +kernel) rfl (x_nc_le (tn_1 ta0)) ?_
  have b11 := jB (e := 0) 0 hJ (rg_T1_0_0_1 ta0) (by first | decide | omega) (by first | decide | omega)
  have q12 : (h (ra0 + 1) 0) = 2147483655 := by first | decide | omega
  refine x_getC (np := 21) (x := 384) (f := 0) (q := 2147483655) (by decide +kernel) (by decide) (tg_1_384_0_0 ta0) q12 (fun l13 => ?_)
  refine x_icmp (k := 3) (tg := 28) (np := 24) (by decide +kernel) (by decide) (by decide) (by decide) (fun q14 => ?_) (fun q15 => ?_)
  · have q14 : 2147483655 ≤ 2147483651 := q14
    exfalso; omega
  have q15 : ¬ (2147483655 ≤ 2147483651) := q15
  refine x_const (np := 25) (x := 9223372043297226753) (a := 2147483649) (by decide +kernel) (by decide) (by decide) ?_
  refine x_goto (np := 28) (x := 29) (by decide +kernel) ?_
  refine x_istore (np := 31) (x := 4) (lo' := [x_r (ra0 + 1), iv_c a1, iv_c 2147483651, iv_c a3, iv_c 2147483649]) (by decide +kernel) (by decide) (Nat.le_of_ble_eq_true rfl) rfl ?_
  refine x_iload (np := 33) (x := 4) (by decide +kernel) rfl (by decide) ?_
  refine x_ifz (k := 0) (tg := 50) (np := 36) (by decide +kernel) (by decide) (by decide) (fun q16 => ?_) (fun q17 => ?_)
  · have q16 : 2147483649 = 2147483648 := q16
    exfalso; omega
  have q17 : ¬ (2147483649 = 2147483648) := q17
  refine x_aload (np := 37) (x := 0) (by decide +kernel) rfl (x_nc_le (tn_1 ta0)) ?_
  have q18 : h (ra0 + 1) 1 = (ra0 + 2) := tf_1_1 hJ ta0
  refine x_getR (np := 40) (x := 385) (f := 1) (q := (ra0 + 2)) (by decide +kernel) (by decide) (tg_1_385_1_1 ta0) q18 ?_
  refine x_iload (np := 41) (x := 1) (by decide +kernel) rfl la1 ?_
  refine x_aload (np := 42) (x := 0) (by decide +kernel) rfl (x_nc_le (tn_1 ta0)) ?_
  refine x_getC (np := 45) (x := 384) (f := 0) (q := 2147483655) (by decide +kernel) (by decide) (tg_1_384_0_0 ta0) q12 (fun l19 => ?_)
  obtain ⟨u20, q21⟩ : ∃ z, a1 = 2147483648 + z := ⟨a1 - 2147483648, by first | decide | omega⟩
  refine x_imul (np := 46) (x := 0) (i := u20) (j := 7) (v := (2147483648 + 7 * u20)) (by decide +kernel) (by first | decide | omega) (by first | decide | omega) (by first | decide | omega) (by first | decide | omega) la1 (by decide) ?_
  refine x_iload (np := 47) (x := 2) (by decide +kernel) rfl (by decide) ?_
  refine x_iadd (np := 48) (x := 0) (v := (2147483651 + 7 * u20)) (by decide +kernel) (by first | decide | omega) (by decide) (by first | decide | omega) (by first | decide | omega) ?_
  refine x_iload (np := 49) (x := 3) (by decide +kernel) rfl la3 ?_
  refine x_ast (np := 50) (x := 0) (kd := 1) (n := 140) (i := (3 + 7 * u20)) (by decide +kernel) (Or.inl rfl) (ta_2_140 ta0) (by first | decide | omega) (by first | decide | omega) (by decide) la3 (fun z => absurd z (by decide)) ?_
  have j24 := jU (e := (3 + 7 * u20)) (v := a3) u20 hJ (rg_T2_3_7_20 ta0) (by first | decide | omega) (by first | decide | omega) (by first | decide | omega)
  have f26 := jF (e := (3 + 7 * u20)) (v := a3) u20 hF (rg_T2_3_7_20 ta0) (by first | decide | omega) (by first | decide | omega) (by decide)
  generalize e25 : x_up h (ra0 + 2) (3 + 7 * u20) a3 = h23 at j24 f26 ⊢
  refine x_retV (np := 51) (x := 0) (by decide +kernel) (by decide +kernel) ⟨rfl, ?_⟩
  exact ⟨j24, f26⟩
set_option maxHeartbeats 0 in
/-- LentNames$Table.put(III)V -/
theorem c69_T1_c5 {sc : Nat × Nat} {d ra0 a1 a3 : Nat} {h : xh} (hJ : J h) (ta0 : tw ra0) (ba1 : 2147483648 ≤ a1 ∧ a1 ≤ 2147483667) (ba3 : 2147483648 ≤ a3 ∧ a3 ≤ 2147484769) : X sc 69 d (xV fun h' => J h' ∧ Fr 129 h h') 0 0 0 [x_r (ra0 + 1), iv_c a1, iv_c 2147483653, iv_c a3, 147573952589676412928] [] h := by
  have la1 : a1 < 4294967296 := by first | decide | omega
  have la3 : a3 < 4294967296 := by first | decide | omega
  have hF := Fr.refl 129 h
  refine x_iload (np := 1) (x := 1) (by decide +kernel) rfl la1 ?_
  refine x_ifz (k := 2) (tg := 28) (np := 4) (by decide +kernel) (by decide) la1 (fun q1 => ?_) (fun q2 => ?_)
  · have q1 : a1 < 2147483648 := q1
    exfalso; omega
  have q2 : ¬ (a1 < 2147483648) := q2
  refine x_iload (np := 5) (x := 1) (by decide +kernel) rfl la1 ?_
  refine x_aload (np := 6) (x := 0) (by decide +kernel) rfl (x_nc_le (tn_1 ta0)) ?_
  have b3 := jB (e := 2) 0 hJ (rg_T1_2_0_1 ta0) (by first | decide | omega) (by first | decide | omega)
  refine x_getC (np := 9) (x := 386) (f := 2) (q := (h (ra0 + 1) 2)) (by decide +kernel) (by decide) (tg_1_386_2_0 ta0) rfl (fun l4 => ?_)
  refine x_icmp (k := 3) (tg := 28) (np := 12) (by decide +kernel) (by decide) la1 l4 (fun q5 => ?_) (fun q6 => ?_)
  · have q5 : (h (ra0 + 1) 2) ≤ a1 := q5
    refine x_const (np := 29) (x := 9223372039002259456) (a := 2147483648) (by decide +kernel) (by decide) (by decide) ?_
    refine x_istore (np := 31) (x := 4) (lo' := [x_r (ra0 + 1), iv_c a1, iv_c 2147483653, iv_c a3, iv_c 2147483648]) (by decide +kernel) (by decide) (Nat.le_of_ble_eq_true rfl) rfl ?_
    refine x_iload (np := 33) (x := 4) (by decide +kernel) rfl (by decide) ?_
    refine x_ifz (k := 0) (tg := 50) (np := 36) (by decide +kernel) (by decide) (by decide) (fun q7 => ?_) (fun q8 => ?_)
    · have q7 : 2147483648 = 2147483648 := q7
      refine x_retV (np := 51) (x := 0) (by decide +kernel) (by decide +kernel) ⟨rfl, ?_⟩
      exact ⟨hJ, hF⟩
    have q8 : ¬ (2147483648 = 2147483648) := q8
    exfalso; omega
  have q6 : ¬ ((h (ra0 + 1) 2) ≤ a1) := q6
  refine x_iload (np := 13) (x := 2) (by decide +kernel) rfl (by decide) ?_
  refine x_ifz (k := 2) (tg := 28) (np := 16) (by decide +kernel) (by decide) (by decide) (fun q9 => ?_) (fun q10 => ?_)
  · have q9 : 2147483653 < 2147483648 := q9
    exfalso; omega
  have q10 : ¬ (2147483653 < 2147483648) := q10
  refine x_iload (np := 17) (x := 2) (by decide +kernel) rfl (by decide) ?_
  refine x_aload (np := 18) (x := 0) (by decide +kernel) rfl (x_nc_le (tn_1 ta0)) ?_
  have b11 := jB (e := 0) 0 hJ (rg_T1_0_0_1 ta0) (by first | decide | omega) (by first | decide | omega)
  have q12 : (h (ra0 + 1) 0) = 2147483655 := by first | decide | omega
  refine x_getC (np := 21) (x := 384) (f := 0) (q := 2147483655) (by decide +kernel) (by decide) (tg_1_384_0_0 ta0) q12 (fun l13 => ?_)
  refine x_icmp (k := 3) (tg := 28) (np := 24) (by decide +kernel) (by decide) (by decide) (by decide) (fun q14 => ?_) (fun q15 => ?_)
  · have q14 : 2147483655 ≤ 2147483653 := q14
    exfalso; omega
  have q15 : ¬ (2147483655 ≤ 2147483653) := q15
  refine x_const (np := 25) (x := 9223372043297226753) (a := 2147483649) (by decide +kernel) (by decide) (by decide) ?_
  refine x_goto (np := 28) (x := 29) (by decide +kernel) ?_
  refine x_istore (np := 31) (x := 4) (lo' := [x_r (ra0 + 1), iv_c a1, iv_c 2147483653, iv_c a3, iv_c 2147483649]) (by decide +kernel) (by decide) (Nat.le_of_ble_eq_true rfl) rfl ?_
  refine x_iload (np := 33) (x := 4) (by decide +kernel) rfl (by decide) ?_
  refine x_ifz (k := 0) (tg := 50) (np := 36) (by decide +kernel) (by decide) (by decide) (fun q16 => ?_) (fun q17 => ?_)
  · have q16 : 2147483649 = 2147483648 := q16
    exfalso; omega
  have q17 : ¬ (2147483649 = 2147483648) := q17
  refine x_aload (np := 37) (x := 0) (by decide +kernel) rfl (x_nc_le (tn_1 ta0)) ?_
  have q18 : h (ra0 + 1) 1 = (ra0 + 2) := tf_1_1 hJ ta0
  refine x_getR (np := 40) (x := 385) (f := 1) (q := (ra0 + 2)) (by decide +kernel) (by decide) (tg_1_385_1_1 ta0) q18 ?_
  refine x_iload (np := 41) (x := 1) (by decide +kernel) rfl la1 ?_
  refine x_aload (np := 42) (x := 0) (by decide +kernel) rfl (x_nc_le (tn_1 ta0)) ?_
  refine x_getC (np := 45) (x := 384) (f := 0) (q := 2147483655) (by decide +kernel) (by decide) (tg_1_384_0_0 ta0) q12 (fun l19 => ?_)
  obtain ⟨u20, q21⟩ : ∃ z, a1 = 2147483648 + z := ⟨a1 - 2147483648, by first | decide | omega⟩
  refine x_imul (np := 46) (x := 0) (i := u20) (j := 7) (v := (2147483648 + 7 * u20)) (by decide +kernel) (by first | decide | omega) (by first | decide | omega) (by first | decide | omega) (by first | decide | omega) la1 (by decide) ?_
  refine x_iload (np := 47) (x := 2) (by decide +kernel) rfl (by decide) ?_
  refine x_iadd (np := 48) (x := 0) (v := (2147483653 + 7 * u20)) (by decide +kernel) (by first | decide | omega) (by decide) (by first | decide | omega) (by first | decide | omega) ?_
  refine x_iload (np := 49) (x := 3) (by decide +kernel) rfl la3 ?_
  refine x_ast (np := 50) (x := 0) (kd := 1) (n := 140) (i := (5 + 7 * u20)) (by decide +kernel) (Or.inl rfl) (ta_2_140 ta0) (by first | decide | omega) (by first | decide | omega) (by decide) la3 (fun z => absurd z (by decide)) ?_
  have j24 := jU (e := (5 + 7 * u20)) (v := a3) u20 hJ (rg_T2_5_7_20 ta0) (by first | decide | omega) (by first | decide | omega) (by first | decide | omega)
  have f26 := jF (e := (5 + 7 * u20)) (v := a3) u20 hF (rg_T2_5_7_20 ta0) (by first | decide | omega) (by first | decide | omega) (by decide)
  generalize e25 : x_up h (ra0 + 2) (5 + 7 * u20) a3 = h23 at j24 f26 ⊢
  refine x_retV (np := 51) (x := 0) (by decide +kernel) (by decide +kernel) ⟨rfl, ?_⟩
  exact ⟨j24, f26⟩
