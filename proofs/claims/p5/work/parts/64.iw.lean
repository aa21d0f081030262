/-! ===== stores into arrays, products, doubles ===== -/
section IW4
variable {sc : Nat × Nat} {out : Nat × iv_H} {d mi c0 s0 pc np x v a z : Nat} {lo st : List Nat} {L : iv_H}
theorem iw_bb {c t : Bool} (h : c = true) (g : t = true) : @Bool.rec (fun _ => Bool) false t c = true := by subst h; exact g
theorem iw_fit {kd z : Nat} (hkd : kd = 1 ∨ kd = 2) (hz : z < 4294967296) (hb : kd = 2 → 2147483520 ≤ z ∧ z ≤ 2147483775) : iv_fit kd (iv_c z) = true := by
  obtain ⟨z0, z1, z2⟩ := iw_c_lt hz
  have f1 : Nat.ble (iv_c z) 18446744073709551615 = true := by rw [iv_n7]; omega
  have f3 : Nat.mod (iv_c z) 4294967296 = z := z1
  have f4 : Nat.div (iv_c z) 4294967296 = z := z2
  unfold iv_fit
  rw [f1, f3, f4]
  rcases hkd with rfl | rfl
  · rfl
  · obtain ⟨b1, b2⟩ := hb rfl
    exact iw_bb (by rw [iv_n7]; exact b1) (by rw [iv_n7]; exact b2)
theorem iw_astore (hw : iv_wd mi pc = 36 + 256 * np + 16777216 * x) (hn : np < 65536) (hc : pg_c mi ≠ 0) (h1 : 18446744073709551616 ≤ v) (h2 : v ≤ 18446744078004518912) (hx : x < lo.length) (k : iw_all sc mi d out c0 s0 np (lo.set x v) st L) : iw_all sc mi d out c0 s0 pc lo (v :: st) L := by
  refine iw_op (g := fun _ => out) iw_nil hw ⟨by decide, hn⟩ ?_
  show iv_oAstore (iw_ih sc (fun _ => out)) (d, mi, c0, s0) (pg_c mi) x np lo (v :: st) L = some out
  unfold iv_oAstore
  show (@Bool.rec (fun _ => iv_R) none _ (Nat.ble 18446744073709551616 v)) = some out
  have e : Nat.ble v 18446744078004518912 = true := by rw [iv_n7]; omega
  rw [iw_bt (by rw [iv_n7]; omega), e]
  show iv_f v (fun v => iv_set lo x v fun lo => iw_ih sc (fun _ => out) (d, mi, c0, s0) (pg_c mi) np lo st L) = some out
  rw [iv_f_eq, iw_set _ _ _ _ hx]
  exact iw_ih_of rfl hc k
theorem iw_ast {kd n r : Nat} (hw : iv_wd mi pc = (if kd = 1 then 9 else 32) + 256 * np + 16777216 * x) (hkd : kd = 1 ∨ kd = 2) (hn : np < 65536) (hc : pg_c mi ≠ 0) (hr : r ≤ 4294967296) (hk : iw_is L r kd n) (ha : a < 4294967296) (h1 : 2147483648 ≤ a) (h2 : a - 2147483648 < n) (hz : z < 4294967296) (hb : kd = 2 → 2147483520 ≤ z ∧ z ≤ 2147483775) (k : iw_all sc mi d out c0 s0 np lo st (iw_put L r (a - 2147483648) (iv_c z))) : iw_all sc mi d out c0 s0 pc lo (iv_c z :: iv_c a :: (18446744073709551616 + r) :: st) L := by
  have key : iv_oAst kd (iw_ih sc (fun _ => out)) (d, mi, c0, s0) (pg_c mi) np lo (iv_c z :: iv_c a :: (18446744073709551616 + r) :: st) L = some out := by
    obtain ⟨a0, a1, a2⟩ := iw_c_lt ha
    obtain ⟨z0, z1, z2⟩ := iw_c_lt hz
    obtain ⟨c, hk⟩ := hk
    have hfit : iv_fit kd (iv_c z) = true := iw_fit hkd hz hb
    obtain ⟨i, hi⟩ : ∃ i, a - 2147483648 = i := ⟨_, rfl⟩
    rw [hi] at h2 k
    unfold iv_oAst
    show (@Bool.rec (fun _ => iv_R) none _ (Nat.ble (iv_c a) 18446744073709551615)) = some out
    have e3 : Nat.sub (18446744073709551616 + r) 18446744073709551616 = r := Nat.add_sub_cancel_left _ _
    have f1 : Nat.mod (iv_c a) 4294967296 = a := a1
    have f2 : Nat.div (iv_c a) 4294967296 = a := a2
    have f3 : Nat.sub a 2147483648 = i := hi
    have f4 : Nat.ble (Nat.succ i) n = true := by rw [iv_n7]; exact h2
    have f5 : Nat.beq kd kd = true := by rw [iv_n8]
    rw [f1, f2, e3, f3, iw_bt (by rw [iv_n7]; exact Nat.le_of_lt_succ a0), iw_bt (by rw [iv_n7]; exact Nat.le_add_right _ _), iw_bt (by rw [iv_n7]; exact Nat.add_le_add_left hr 18446744073709551616), iw_bt (by rw [iv_n7]; exact h1), iw_bt (by rw [iv_n8]), iw_bt hfit, iw_hg hk, iw_bt f5, iw_bt f4, iv_f_eq]
    show iv_hs L r (kd, n, iv_st c i (iv_c z)) (fun L => iw_ih sc (fun _ => out) (d, mi, c0, s0) (pg_c mi) np lo st L) = some out
    rw [iw_hs hk]
    exact iw_ih_of rfl hc k
  rcases hkd with rfl | rfl
  · exact iw_op (g := fun _ => out) iw_nil hw ⟨by decide, hn⟩ key
  · exact iw_op (g := fun _ => out) iw_nil hw ⟨by decide, hn⟩ key
theorem iw_dup (hw : iv_wd mi pc = 20 + 256 * np + 16777216 * x) (hn : np < 65536) (hc : pg_c mi ≠ 0) (hv : v ≤ 73786976294838206463) (k : iw_all sc mi d out c0 s0 np lo (v :: v :: st) L) : iw_all sc mi d out c0 s0 pc lo (v :: st) L := by
  refine iw_op (g := fun _ => out) iw_nil hw ⟨by decide, hn⟩ ?_
  show (@Bool.rec (fun _ => iv_R) none (iw_ih sc (fun _ => out) (d, mi, c0, s0) (pg_c mi) np lo (v :: v :: st) L) (Nat.ble v 73786976294838206463)) = some out
  rw [iw_bt (by rw [iv_n7]; exact hv)]
  exact iw_ih_of rfl hc k
theorem iw_dup2 {v2 : Nat} (hw : iv_wd mi pc = 21 + 256 * np + 16777216 * x) (hn : np < 65536) (hc : pg_c mi ≠ 0) (hv : v ≤ 73786976294838206463) (hv2 : v2 ≤ 73786976294838206463) (k : iw_all sc mi d out c0 s0 np lo (v :: v2 :: v :: v2 :: st) L) : iw_all sc mi d out c0 s0 pc lo (v :: v2 :: st) L := by
  refine iw_op (g := fun _ => out) iw_nil hw ⟨by decide, hn⟩ ?_
  show (@Bool.rec (fun _ => iv_R) none (@Bool.rec (fun _ => iv_R) none (iw_ih sc (fun _ => out) (d, mi, c0, s0) (pg_c mi) np lo (v :: v2 :: v :: v2 :: st) L) (Nat.ble v2 73786976294838206463)) (Nat.ble v 73786976294838206463)) = some out
  rw [iw_bt (by rw [iv_n7]; exact hv), iw_bt (by rw [iv_n7]; exact hv2)]
  exact iw_ih_of rfl hc k
theorem iw_mul {a z : Nat} (ha : a < 4294967296) (hz : z < 4294967296) (h1 : 2147483648 ≤ a) (h2 : 2147483648 ≤ z) (h3 : (a - 2147483648) * (z - 2147483648) ≤ 2147483647) : iv_mul (iv_c a) (iv_c z) = iv_c ((a - 2147483648) * (z - 2147483648) + 2147483648) := by
  obtain ⟨-, a1, a2⟩ := iw_c_lt ha
  obtain ⟨-, z1, z2⟩ := iw_c_lt hz
  unfold iv_mul
  have e1 : Nat.mod (iv_c a) 4294967296 = a := a1
  have e2 : Nat.mod (iv_c z) 4294967296 = z := z1
  have e3 : Nat.div (iv_c a) 4294967296 = a := a2
  have e4 : Nat.div (iv_c z) 4294967296 = z := z2
  rw [e1, e2, e3, e4, iw_bn (by rw [iv_n7]; exact h1), iw_bn (by rw [iv_n7]; exact h2), iw_bn (by rw [iv_n7]; exact h3)]
  rfl
theorem iw_imul (hw : iv_wd mi pc = 15 + 256 * np + 16777216 * x) (hn : np < 65536) (hc : pg_c mi ≠ 0) (ha : a < 4294967296) (hz : z < 4294967296) (h1 : 2147483648 ≤ a) (h2 : 2147483648 ≤ z) (h3 : (a - 2147483648) * (z - 2147483648) ≤ 2147483647) (k : iw_all sc mi d out c0 s0 np lo (iv_c ((a - 2147483648) * (z - 2147483648) + 2147483648) :: st) L) : iw_all sc mi d out c0 s0 pc lo (iv_c z :: iv_c a :: st) L := by
  refine iw_op (g := fun _ => out) iw_nil hw ⟨by decide, hn⟩ ?_
  show (@Bool.rec (fun _ => iv_R) none (@Bool.rec (fun _ => iv_R) none (iv_f (iv_mul (iv_c a) (iv_c z)) fun v => iw_ih sc (fun _ => out) (d, mi, c0, s0) (pg_c mi) np lo (v :: st) L) (Nat.ble (iv_c z) 18446744073709551615)) (Nat.ble (iv_c a) 18446744073709551615)) = some out
  have a0 := (iw_c_lt ha).1
  have z0 := (iw_c_lt hz).1
  rw [iw_bt (by rw [iv_n7]; omega), iw_bt (by rw [iv_n7]; omega), iv_f_eq, iw_mul ha hz h1 h2 h3]
  exact iw_ih_of rfl hc k
/-- and, or, exclusive or, shifts, quotient, rest: by the machine's own -/
theorem iw_alu {k9 : Nat} {w : Int32} (hw : iv_wd mi pc = 17 + 256 * np + 16777216 * k9) (hn : np < 65536) (hc : pg_c mi ≠ 0) (ha : a < 4294967296) (hz : z < 4294967296) (hq : iv_alu k9 a z = some w) (k : iw_all sc mi d out c0 s0 np lo (iv_c (iv_bs w) :: st) L) : iw_all sc mi d out c0 s0 pc lo (iv_c z :: iv_c a :: st) L := by
  refine iw_op (g := fun _ => out) iw_nil hw ⟨by decide, hn⟩ ?_
  obtain ⟨a0, a1, a2⟩ := iw_c_lt ha
  obtain ⟨z0, z1, z2⟩ := iw_c_lt hz
  show iv_oAlu (iw_ih sc (fun _ => out)) (d, mi, c0, s0) (pg_c mi) k9 np lo (iv_c z :: iv_c a :: st) L = some out
  unfold iv_oAlu
  show (@Bool.rec (fun _ => iv_R) none _ (Nat.ble (iv_c z) 18446744073709551615)) = some out
  have f1 : Nat.mod (iv_c a) 4294967296 = a := a1
  have f2 : Nat.div (iv_c a) 4294967296 = a := a2
  have f3 : Nat.mod (iv_c z) 4294967296 = z := z1
  have f4 : Nat.div (iv_c z) 4294967296 = z := z2
  have g1 : Nat.ble (iv_c a) 18446744073709551615 = true := by rw [iv_n7]; omega
  have g2 : Nat.beq a a = true := by rw [iv_n8]
  rw [f1, f2, f3, f4, g1, g2, hq, iw_bt (by rw [iv_n7]; omega), iw_bt (by rw [iv_n8])]
  show iv_f (iv_c (iv_bs w)) (fun v => iw_ih sc (fun _ => out) (d, mi, c0, s0) (pg_c mi) np lo (v :: st) L) = some out
  rw [iv_f_eq]
  exact iw_ih_of rfl hc k
end IW4
