/-! ===== the law's own instructions: a long that was laid down, two longs compared ===== -/
section LAW3
variable {sc : Nat × Nat} {out : Nat × iv_H} {d mi c0 s0 pc np x a z v : Nat} {lo lo' st : List Nat} {L : iv_H}
theorem iw_lald {n r : Nat} (hw : iv_wd mi pc = 29 + 256 * np + 16777216 * x) (hn : np < 65536) (hc : pg_c mi ≠ 0) (hr : r ≤ 4294967296) (hk : iw_is L r 3 n) (ha : a < 4294967296) (h1 : 2147483648 ≤ a) (h2 : a - 2147483648 < n) (k : iw_all sc mi d out c0 s0 np lo (iw_get L r (a - 2147483648) :: st) L) : iw_all sc mi d out c0 s0 pc lo (iv_c a :: (18446744073709551616 + r) :: st) L := by
  refine iw_op (g := fun _ => out) iw_nil hw ⟨by decide, hn⟩ ?_
  show iv_oLald (iw_ih sc (fun _ => out)) (d, mi, c0, s0) (pg_c mi) np lo (iv_c a :: (18446744073709551616 + r) :: st) L = some out
  obtain ⟨a0, a1, a2⟩ := iw_c_lt ha
  obtain ⟨c, hk⟩ := hk
  obtain ⟨i, hi⟩ : ∃ i, a - 2147483648 = i := ⟨_, rfl⟩
  have g4 : iv_gt c i = iw_get L r (a - 2147483648) := by
    unfold iw_get
    rw [hk, hi]
    rfl
  rw [hi] at h2
  unfold iv_oLald
  show (@Bool.rec (fun _ => iv_R) none _ (Nat.ble (iv_c a) 18446744073709551615)) = some out
  have e3 : Nat.sub (18446744073709551616 + r) 18446744073709551616 = r := Nat.add_sub_cancel_left _ _
  have f1 : Nat.mod (iv_c a) 4294967296 = a := a1
  have f2 : Nat.div (iv_c a) 4294967296 = a := a2
  have f3 : Nat.sub a 2147483648 = i := hi
  have f4 : Nat.ble (Nat.succ i) n = true := by rw [iv_n7]; exact h2
  rw [f1, f2, e3, f3, iw_bt (by rw [iv_n7]; exact Nat.le_of_lt_succ a0), iw_bt (by rw [iv_n7]; exact Nat.le_add_right _ _), iw_bt (by rw [iv_n7]; exact Nat.add_le_add_left hr 18446744073709551616), iw_bt (by rw [iv_n7]; exact h1), iw_bt (by rw [iv_n8]), iw_hg hk, iw_bt (show Nat.beq 3 3 = true from rfl), iw_bt f4, iv_f_eq]
  show iw_ih sc (fun _ => out) (d, mi, c0, s0) (pg_c mi) np lo (iv_gt c i :: st) L = some out
  rw [g4]
  exact iw_ih_of rfl hc k
/-- two longs: equal, or not -/
theorem iw_lcmp (hw : iv_wd mi pc = 28 + 256 * np + 16777216 * x) (hn : np < 65536) (hc : pg_c mi ≠ 0) (ha : a < 4294967296) (hz : z < 4294967296) (k : iw_all sc mi d out c0 s0 np lo (iv_c (if a = z then 2147483648 else if a ≤ z then 2147483647 else 2147483649) :: st) L) : iw_all sc mi d out c0 s0 pc lo ((73786976294838206464 + iv_c z) :: (73786976294838206464 + iv_c a) :: st) L := by
  refine iw_op (g := fun _ => out) iw_nil hw ⟨by decide, hn⟩ ?_
  show iv_oLcmp (iw_ih sc (fun _ => out)) (d, mi, c0, s0) (pg_c mi) np lo ((73786976294838206464 + iv_c z) :: (73786976294838206464 + iv_c a) :: st) L = some out
  obtain ⟨a0, a1, a2⟩ := iw_c_lt ha
  obtain ⟨z0, z1, z2⟩ := iw_c_lt hz
  have ea : iv_c a = a + 4294967296 * a := rfl
  have ez : iv_c z = z + 4294967296 * z := rfl
  have p1 : Nat.mod (73786976294838206464 + iv_c a) 4294967296 = a := by show (73786976294838206464 + iv_c a) % 4294967296 = a; rw [ea]; omega
  have p2 : Nat.mod (73786976294838206464 + iv_c z) 4294967296 = z := by show (73786976294838206464 + iv_c z) % 4294967296 = z; rw [ez]; omega
  have p3 : Nat.mod (Nat.div (73786976294838206464 + iv_c a) 4294967296) 4294967296 = a := by show (73786976294838206464 + iv_c a) / 4294967296 % 4294967296 = a; rw [ea, show (73786976294838206464 + (a + 4294967296 * a)) / 4294967296 = 17179869184 + a by omega]; omega
  have p4 : Nat.mod (Nat.div (73786976294838206464 + iv_c z) 4294967296) 4294967296 = z := by show (73786976294838206464 + iv_c z) / 4294967296 % 4294967296 = z; rw [ez, show (73786976294838206464 + (z + 4294967296 * z)) / 4294967296 = 17179869184 + z by omega]; omega
  have p5 : Nat.div (73786976294838206464 + iv_c a) 18446744073709551616 = 4 := by show (73786976294838206464 + iv_c a) / 18446744073709551616 = 4; rw [ea]; omega
  have p6 : Nat.div (73786976294838206464 + iv_c z) 18446744073709551616 = 4 := by show (73786976294838206464 + iv_c z) / 18446744073709551616 = 4; rw [ez]; omega
  unfold iv_oLcmp
  show (@Bool.rec (fun _ => iv_R) none _ (Nat.beq (Nat.div (73786976294838206464 + iv_c a) 18446744073709551616) 4)) = some out
  rw [p1, p2, p3, p4, p5, p6, iw_bt (show Nat.beq 4 4 = true from rfl), iw_bt (by rw [iv_n8]), iw_bt (show Nat.beq 4 4 = true from rfl), iw_bt (by rw [iv_n8]), iv_f_eq]
  have key : (@Bool.rec (fun _ => Nat) (@Bool.rec (fun _ => Nat) 2147483649 2147483647 (Nat.ble a z)) 2147483648 (Nat.beq a z)) = (if a = z then 2147483648 else if a ≤ z then 2147483647 else 2147483649) := by
    by_cases e : a = z
    · rw [if_pos e, show Nat.beq a z = true by rw [iv_n8]; exact e]
    · rw [if_neg e, show Nat.beq a z = false from Bool.eq_false_iff.mpr (fun y => e (Nat.eq_of_beq_eq_true y))]
      by_cases f : a ≤ z
      · rw [if_pos f, show Nat.ble a z = true by rw [iv_n7]; exact f]
      · rw [if_neg f, show Nat.ble a z = false from Bool.eq_false_iff.mpr (fun y => f (Nat.le_of_ble_eq_true y))]
  rw [key]
  exact iw_ih_of rfl hc k
end LAW3
section LAW4
variable {sc : Nat × Nat} {mi d c0 s0 pc np x a z v : Nat} {lo lo' st : List Nat} {h : xh} {Q : Nat → xh → Prop}
theorem x_lald {r n i q : Nat} (w : wd mi pc 29 np x) (hr : r < x_nc) (hkd : x_kd r = 3) (hln : x_ln r = n) (ha : a = 2147483648 + i) (hi : i < n) (ha2 : a < 4294967296) (hq : h r i = q) (k : q < 4294967296 → X sc mi d Q c0 s0 np lo ((73786976294838206464 + iv_c q) :: st) h) : X sc mi d Q c0 s0 pc lo (iv_c a :: x_r r :: st) h := fun L hL => by
  obtain ⟨i1, i2⟩ := hL r hr
  rw [hkd, hln] at i1
  obtain ⟨p1, p2⟩ := i2 i (by rw [hln]; exact hi)
  have ety : x_ty r i = 2 := by
    unfold x_ty
    rw [hkd]
    rfl
  rw [ety, hq] at p1
  rw [hq] at p2
  obtain ⟨v, b, c, e, f, g⟩ := k p2 L hL
  have e1 : a - 2147483648 = i := by rw [ha]; exact Nat.add_sub_cancel_left _ _
  refine ⟨v, b, c, e, f, iw_lald w.1 w.2 (wd_ne w (by decide)) (x_nc_le hr) i1 ha2 (by omega) (by rw [e1]; exact hi) ?_⟩
  rw [e1, p1]
  exact g
theorem x_lcmp (w : wd mi pc 28 np x) (ha : a < 4294967296) (hz : z < 4294967296) (k1 : a = z → X sc mi d Q c0 s0 np lo (iv_c 2147483648 :: st) h) (k2 : a ≠ z → ∀ v, v < 4294967296 → v ≠ 2147483648 → X sc mi d Q c0 s0 np lo (iv_c v :: st) h) : X sc mi d Q c0 s0 pc lo ((73786976294838206464 + iv_c z) :: (73786976294838206464 + iv_c a) :: st) h := fun L hL => by
  by_cases e : a = z
  · obtain ⟨v, b, c, e9, f, g⟩ := k1 e L hL
    refine ⟨v, b, c, e9, f, iw_lcmp w.1 w.2 (wd_ne w (by decide)) ha hz ?_⟩
    rw [if_pos e]
    exact g
  · obtain ⟨v, b, c, e9, f, g⟩ := k2 e (if a ≤ z then 2147483647 else 2147483649) (by split <;> decide) (by split <;> decide) L hL
    refine ⟨v, b, c, e9, f, iw_lcmp w.1 w.2 (wd_ne w (by decide)) ha hz ?_⟩
    rw [if_neg e]
    exact g
end LAW4
/-- the law's invariant, with the tapes alike -/
def INV9 (h : xh) : Prop := INV h ∧ Ty h
theorem Ty.same {h h1 h2 : xh} {m m2 : Nat} (t : Ty h) (x : ∀ u, h1 2 u = h 2 u) (f : Fr m h h1) (gm : Nat.testBit m 29 = false) (y : ∀ u, h2 79 u = h1 79 u) (f2 : Fr m2 h1 h2) (gb : Nat.testBit m2 6 = false) : Ty h2 := fun u hu => by
  rw [f2 2 u (by rw [show x_gr 2 u = 6 from rfl]; exact gb), x u, y u, f 79 u (by rw [show x_gr 79 u = 29 from rfl]; exact gm)]
  exact t u hu
/-- custom's answers alike: k and the long o, b and what is thrown (t) -/
theorem cu_alike {B : Nat → Nat} {n k o b t : Nat} (x : (k = 2147483648 ∧ Cu B n (some o)) ∨ (k = 2147483649 ∧ Cu B n none)) (y : Cq B n b t) : k = t ∧ (k = 2147483648 → o = b) := by
  rcases x with ⟨x1, x2⟩ | ⟨x1, x2⟩ <;> rcases y with ⟨y1, y2⟩ | ⟨y1, y3, y2⟩
  · have e := x2.same y2
    injection e with e
    exact ⟨by omega, fun _ => e⟩
  · have e := x2.same y2
    cases e
  · have e := x2.same y2
    cases e
  · exact ⟨by omega, fun z => by omega⟩
