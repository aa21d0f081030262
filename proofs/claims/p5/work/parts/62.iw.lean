/-! ===== rules of numbers, arrays, ends ===== -/
theorem iw_c_lt {a : Nat} (h : a < 4294967296) : iv_c a < 18446744073709551616 ∧ iv_c a % 4294967296 = a ∧ iv_c a / 4294967296 = a := by
  have e : iv_c a = a + 4294967296 * a := rfl
  rw [e]
  omega
theorem iw_bn {c : Bool} {t e : Nat} (h : c = true) : @Bool.rec (fun _ => Nat) e t c = t := by subst h; rfl
theorem iw_add {a z : Nat} (ha : a < 4294967296) (hz : z < 4294967296) (h1 : 2147483648 ≤ a + z) (h2 : a + z ≤ 6442450943) : iv_add (iv_c a) (iv_c z) = iv_c (a + z - 2147483648) := by
  obtain ⟨-, a1, a2⟩ := iw_c_lt ha
  obtain ⟨-, z1, z2⟩ := iw_c_lt hz
  unfold iv_add
  have e1 : Nat.mod (iv_c a) 4294967296 = a := a1
  have e2 : Nat.mod (iv_c z) 4294967296 = z := z1
  have e3 : Nat.div (iv_c a) 4294967296 = a := a2
  have e4 : Nat.div (iv_c z) 4294967296 = z := z2
  rw [e1, e2, e3, e4, iw_bn (by rw [iv_n7]; exact h1), iw_bn (by rw [iv_n7]; exact h2)]
  show a + 4294967296 * a + (z + 4294967296 * z) - 9223372039002259456 = (a + z - 2147483648) + 4294967296 * (a + z - 2147483648)
  omega
theorem iw_sub {a z : Nat} (ha : a < 4294967296) (hz : z < 4294967296) (h1 : z ≤ a + 2147483648) (h2 : a + 2147483648 ≤ z + 4294967295) : iv_sub (iv_c a) (iv_c z) = iv_c (a + 2147483648 - z) := by
  obtain ⟨-, a1, a2⟩ := iw_c_lt ha
  obtain ⟨-, z1, z2⟩ := iw_c_lt hz
  unfold iv_sub
  have e1 : Nat.mod (iv_c a) 4294967296 = a := a1
  have e2 : Nat.mod (iv_c z) 4294967296 = z := z1
  have e3 : Nat.div (iv_c a) 4294967296 = a := a2
  have e4 : Nat.div (iv_c z) 4294967296 = z := z2
  rw [e1, e2, e3, e4, iw_bn (by rw [iv_n7]; exact h1), iw_bn (by rw [iv_n7]; exact h2)]
  rfl
/-- the condition's number on two ints -/
def iw_cd (k a z : Nat) : Prop := match k with | 0 => a = z | 1 => a ≠ z | 2 => a < z | 3 => z ≤ a | 4 => z < a | _ => a ≤ z
theorem iw_cmp {k a z : Nat} (hk : k ≤ 5) : (iw_cd k a z → iv_cmp k a a z z = 1) ∧ (¬ iw_cd k a z → iv_cmp k a a z z = 0) := by
  have lt1 : ∀ {y n p q : Nat}, p < q → iv_clt y n p p q q = y := fun {y n p q} h => by
    unfold iv_clt
    rw [iw_bn (by rw [iv_n7]; exact h)]
  have lt0 : ∀ {y n p q : Nat}, q ≤ p → iv_clt y n p p q q = n := fun {y n p q} h => by
    unfold iv_clt
    have e : Nat.ble (Nat.succ p) q = false := by rw [← Bool.not_eq_true, iv_n7]; show ¬ p + 1 ≤ q; omega
    rw [e]
    show @Bool.rec (fun _ => Nat) 2 n (Nat.ble q p) = n
    rw [iw_bn (by rw [iv_n7]; exact h)]
  have eq1 : ∀ {y n p : Nat}, iv_ceq y n p p p p = y := fun {y n p} => by
    unfold iv_ceq
    have e : Nat.ble (Nat.succ p) p = false := by rw [← Bool.not_eq_true, iv_n7]; show ¬ p + 1 ≤ p; omega
    have e2 : Nat.beq p p = true := by rw [iv_n8]
    rw [e, e2]
  have eq0 : ∀ {y n p q : Nat}, p ≠ q → iv_ceq y n p p q q = n := fun {y n p q} h => by
    unfold iv_ceq
    by_cases h2 : p < q
    · rw [iw_bn (by rw [iv_n7]; exact h2)]
    · have e : Nat.ble (Nat.succ p) q = false := by rw [← Bool.not_eq_true, iv_n7]; show ¬ p + 1 ≤ q; omega
      rw [e]
      show @Bool.rec (fun _ => Nat) _ n (Nat.ble (Nat.succ q) p) = n
      rw [iw_bn (by rw [iv_n7]; show q + 1 ≤ p; omega)]
  match k, hk with
  | 0, _ =>
    refine ⟨fun h => ?_, fun h => ?_⟩
    · have h : a = z := h
      subst h
      exact eq1
    · exact eq0 h
  | 1, _ =>
    refine ⟨fun h => eq0 h, fun h => ?_⟩
    have h : a = z := Classical.byContradiction h
    subst h
    exact eq1
  | 2, _ => exact ⟨fun h => lt1 h, fun h => lt0 (Nat.not_lt.mp h)⟩
  | 3, _ => exact ⟨fun h => lt0 h, fun h => lt1 (Nat.not_le.mp h)⟩
  | 4, _ => exact ⟨fun h => lt1 h, fun h => lt0 (Nat.not_lt.mp h)⟩
  | 5, _ => exact ⟨fun h => lt0 h, fun h => lt1 (Nat.not_le.mp h)⟩
  | n + 6, hk => exact absurd hk (by omega)
section IW2
variable {sc : Nat × Nat} {SM : iv_S} {out : Nat × iv_H} {d mi c0 s0 pc np x v a z : Nat} {lo st : List Nat} {L : iv_H}
theorem iw_jump {b tg : Nat} (hc : pg_c mi ≠ 0) (h : (b = 1 ∧ iw_all sc mi d out c0 s0 tg lo st L) ∨ (b = 0 ∧ iw_all sc mi d out c0 s0 np lo st L)) : iv_jump (iw_ih sc (fun _ => out)) (d, mi, c0, s0) (pg_c mi) tg np b lo st L = some out := by
  rcases h with ⟨rfl, h⟩ | ⟨rfl, h⟩
  · show iv_f tg (fun tg => iw_ih sc (fun _ => out) (d, mi, c0, s0) (pg_c mi) tg lo st L) = some out
    rw [iv_f_eq]
    exact iw_ih_of rfl hc h
  · show iw_ih sc (fun _ => out) (d, mi, c0, s0) (pg_c mi) np lo st L = some out
    exact iw_ih_of rfl hc h
theorem iw_icmp {k tg : Nat} (hw : iv_wd mi pc = 5 + 256 * np + 16777216 * (tg + 65536 * k)) (hn : np < 65536 ∧ tg < 65536 ∧ k ≤ 5) (hc : pg_c mi ≠ 0) (ha : a < 4294967296) (hz : z < 4294967296) (h1 : iw_cd k a z → iw_all sc mi d out c0 s0 tg lo st L) (h2 : ¬ iw_cd k a z → iw_all sc mi d out c0 s0 np lo st L) : iw_all sc mi d out c0 s0 pc lo (iv_c z :: iv_c a :: st) L := by
  refine iw_op (g := fun _ => out) iw_nil hw ⟨by decide, hn.1⟩ ?_
  obtain ⟨a0, a1, a2⟩ := iw_c_lt ha
  obtain ⟨z0, z1, z2⟩ := iw_c_lt hz
  show (@Bool.rec (fun _ => iv_R) none (@Bool.rec (fun _ => iv_R) none (iv_jump (iw_ih sc (fun _ => out)) (d, mi, c0, s0) (pg_c mi) ((tg + 65536 * k) % 65536) np (iv_cmp ((tg + 65536 * k) / 65536) (iv_c a % 4294967296) (iv_c a / 4294967296) (iv_c z % 4294967296) (iv_c z / 4294967296)) lo st L) (Nat.ble (iv_c z) 18446744073709551615)) (Nat.ble (iv_c a) 18446744073709551615)) = some out
  have e1 : (tg + 65536 * k) % 65536 = tg := by omega
  have e2 : (tg + 65536 * k) / 65536 = k := by omega
  rw [iw_bt (by rw [iv_n7]; omega), iw_bt (by rw [iv_n7]; omega), e1, e2, a1, a2, z1, z2]
  refine iw_jump hc ?_
  by_cases h : iw_cd k a z
  · exact Or.inl ⟨(iw_cmp hn.2.2).1 h, h1 h⟩
  · exact Or.inr ⟨(iw_cmp hn.2.2).2 h, h2 h⟩
theorem iw_ifz {k tg : Nat} (hw : iv_wd mi pc = 14 + 256 * np + 16777216 * (tg + 65536 * k)) (hn : np < 65536 ∧ tg < 65536 ∧ k ≤ 5) (hc : pg_c mi ≠ 0) (ha : a < 4294967296) (h1 : iw_cd k a 2147483648 → iw_all sc mi d out c0 s0 tg lo st L) (h2 : ¬ iw_cd k a 2147483648 → iw_all sc mi d out c0 s0 np lo st L) : iw_all sc mi d out c0 s0 pc lo (iv_c a :: st) L := by
  refine iw_op (g := fun _ => out) iw_nil hw ⟨by decide, hn.1⟩ ?_
  obtain ⟨a0, a1, a2⟩ := iw_c_lt ha
  show (@Bool.rec (fun _ => iv_R) none (iv_jump (iw_ih sc (fun _ => out)) (d, mi, c0, s0) (pg_c mi) ((tg + 65536 * k) % 65536) np (iv_cmp ((tg + 65536 * k) / 65536) (iv_c a % 4294967296) (iv_c a / 4294967296) 2147483648 2147483648) lo st L) (Nat.ble (iv_c a) 18446744073709551615)) = some out
  have e1 : (tg + 65536 * k) % 65536 = tg := by omega
  have e2 : (tg + 65536 * k) / 65536 = k := by omega
  rw [iw_bt (by rw [iv_n7]; omega), e1, e2, a1, a2]
  refine iw_jump hc ?_
  by_cases h : iw_cd k a 2147483648
  · exact Or.inl ⟨(iw_cmp hn.2.2).1 h, h1 h⟩
  · exact Or.inr ⟨(iw_cmp hn.2.2).2 h, h2 h⟩
theorem iw_iadd (hw : iv_wd mi pc = 6 + 256 * np + 16777216 * x) (hn : np < 65536) (hc : pg_c mi ≠ 0) (ha : a < 4294967296) (hz : z < 4294967296) (h1 : 2147483648 ≤ a + z) (h2 : a + z ≤ 6442450943) (k : iw_all sc mi d out c0 s0 np lo (iv_c (a + z - 2147483648) :: st) L) : iw_all sc mi d out c0 s0 pc lo (iv_c z :: iv_c a :: st) L := by
  refine iw_op (g := fun _ => out) iw_nil hw ⟨by decide, hn⟩ ?_
  show (@Bool.rec (fun _ => iv_R) none (@Bool.rec (fun _ => iv_R) none (iv_f (iv_add (iv_c a) (iv_c z)) fun v => iw_ih sc (fun _ => out) (d, mi, c0, s0) (pg_c mi) np lo (v :: st) L) (Nat.ble (iv_c z) 18446744073709551615)) (Nat.ble (iv_c a) 18446744073709551615)) = some out
  have a0 := (iw_c_lt ha).1
  have z0 := (iw_c_lt hz).1
  rw [iw_bt (by rw [iv_n7]; omega), iw_bt (by rw [iv_n7]; omega), iv_f_eq, iw_add ha hz h1 h2]
  exact iw_ih_of rfl hc k
theorem iw_isub (hw : iv_wd mi pc = 22 + 256 * np + 16777216 * x) (hn : np < 65536) (hc : pg_c mi ≠ 0) (ha : a < 4294967296) (hz : z < 4294967296) (h1 : z ≤ a + 2147483648) (h2 : a + 2147483648 ≤ z + 4294967295) (k : iw_all sc mi d out c0 s0 np lo (iv_c (a + 2147483648 - z) :: st) L) : iw_all sc mi d out c0 s0 pc lo (iv_c z :: iv_c a :: st) L := by
  refine iw_op (g := fun _ => out) iw_nil hw ⟨by decide, hn⟩ ?_
  show (@Bool.rec (fun _ => iv_R) none (@Bool.rec (fun _ => iv_R) none (iv_f (iv_sub (iv_c a) (iv_c z)) fun v => iw_ih sc (fun _ => out) (d, mi, c0, s0) (pg_c mi) np lo (v :: st) L) (Nat.ble (iv_c z) 18446744073709551615)) (Nat.ble (iv_c a) 18446744073709551615)) = some out
  have a0 := (iw_c_lt ha).1
  have z0 := (iw_c_lt hz).1
  rw [iw_bt (by rw [iv_n7]; omega), iw_bt (by rw [iv_n7]; omega), iv_f_eq, iw_sub ha hz h1 h2]
  exact iw_ih_of rfl hc k
theorem iw_iinc {i w : Nat} (hw : iv_wd mi pc = 10 + 256 * np + 16777216 * (i + 256 * iv_c w)) (hn : np < 65536 ∧ i < 256) (hc : pg_c mi ≠ 0) (hx : lo[i]? = some (iv_c a)) (ha : a < 4294967296) (hz : w < 4294967296) (h1 : 2147483648 ≤ a + w) (h2 : a + w ≤ 6442450943) (k : iw_all sc mi d out c0 s0 np (lo.set i (iv_c (a + w - 2147483648))) st L) : iw_all sc mi d out c0 s0 pc lo st L := by
  refine iw_op (g := fun _ => out) iw_nil hw ⟨by decide, hn.1⟩ ?_
  show iv_nth lo ((i + 256 * iv_c w) % 256) (fun v => (@Bool.rec (fun _ => iv_R) none (@Bool.rec (fun _ => iv_R) none (iv_f (iv_add v ((i + 256 * iv_c w) / 256)) fun w' => iv_set lo ((i + 256 * iv_c w) % 256) w' fun lo => iw_ih sc (fun _ => out) (d, mi, c0, s0) (pg_c mi) np lo st L) (Nat.ble ((i + 256 * iv_c w) / 256) 18446744073709551615)) (Nat.ble v 18446744073709551615))) = some out
  have e1 : (i + 256 * iv_c w) % 256 = i := by omega
  have e2 : (i + 256 * iv_c w) / 256 = iv_c w := by omega
  have a0 := (iw_c_lt ha).1
  have z0 := (iw_c_lt hz).1
  rw [e1, e2, iw_nth _ _ _ _ hx, iw_bt (by rw [iv_n7]; omega), iw_bt (by rw [iv_n7]; omega), iv_f_eq, iw_add ha hz h1 h2, iw_set _ _ _ _ (List.getElem?_eq_some_iff.mp hx).1]
  exact iw_ih_of rfl hc k
theorem iw_retn (hw : iv_wd mi pc = 16 + 256 * np + 16777216 * x) (hn : np < 65536) (hr : (pg_i mi).2.1 = 0) : iw_all sc mi d (147573952589676412928, L) c0 s0 pc lo [] L := by
  refine iw_op (g := fun _ => (0, L)) iw_nil hw ⟨by decide, hn⟩ ?_
  show iv_oRetn (pg_i mi).2.1 [] L = _
  rw [hr]
  rfl
theorem iw_retv (hw : iv_wd mi pc = 11 + 256 * np + 16777216 * x) (hn : np < 65536) (ha : a < 4294967296) (hr : (pg_i mi).2.1 = 1 ∨ ((pg_i mi).2.1 = 2 ∧ 2147483648 ≤ a ∧ a ≤ 2147483649)) : iw_all sc mi d (iv_c a, L) c0 s0 pc lo [iv_c a] L := by
  refine iw_op (g := fun _ => (0, L)) iw_nil hw ⟨by decide, hn⟩ ?_
  show iv_oRetv (pg_i mi).2.1 [iv_c a] L = _
  obtain ⟨a0, a1, a2⟩ := iw_c_lt ha
  unfold iv_oRetv
  show (@Bool.rec (fun _ => iv_R) none _ (Nat.ble (iv_c a) 18446744073709551615)) = some (iv_c a, L)
  rw [iw_bt (by rw [iv_n7]; omega)]
  rcases hr with hr | ⟨hr, h1, h2⟩
  · rw [hr]
    rfl
  · rw [hr]
    show (@Bool.rec (fun _ => iv_R) none (@Bool.rec (fun _ => iv_R) none (some (iv_c a, L)) (Nat.ble (iv_c a / 4294967296) 2147483649)) (Nat.ble 2147483648 (iv_c a % 4294967296))) = some (iv_c a, L)
    rw [a1, a2, iw_bt (by rw [iv_n7]; exact h1), iw_bt (by rw [iv_n7]; exact h2)]
theorem iw_ald {kd n r : Nat} (hw : iv_wd mi pc = (if kd = 1 then 8 else 31) + 256 * np + 16777216 * x) (hkd : kd = 1 ∨ kd = 2) (hn : np < 65536) (hc : pg_c mi ≠ 0) (hr : r ≤ 4294967296) (hk : iw_is L r kd n) (ha : a < 4294967296) (h1 : 2147483648 ≤ a) (h2 : a - 2147483648 < n) (k : iw_all sc mi d out c0 s0 np lo (iw_get L r (a - 2147483648) :: st) L) : iw_all sc mi d out c0 s0 pc lo (iv_c a :: (18446744073709551616 + r) :: st) L := by
  have key : iv_oAld sc kd (iw_ih sc (fun _ => out)) (d, mi, c0, s0) (pg_c mi) np lo (iv_c a :: (18446744073709551616 + r) :: st) L = some out := by
    obtain ⟨a0, a1, a2⟩ := iw_c_lt ha
    obtain ⟨c, hk⟩ := hk
    unfold iv_oAld
    show (@Bool.rec (fun _ => iv_R) none (@Bool.rec (fun _ => iv_R) _ (@Bool.rec (fun _ => iv_R) _ (iv_hg L (18446744073709551616 + r - 18446744073709551616) fun q => (@Bool.rec (fun _ => iv_R) none (iv_at q.2.2 q.2.1 (iv_c a) fun v => iw_ih sc (fun _ => out) (d, mi, c0, s0) (pg_c mi) np lo (v :: st) L) (Nat.beq q.1 kd))) (Nat.ble (18446744073709551616 + r) 18446744078004518912)) (Nat.ble 18446744073709551616 (18446744073709551616 + r))) (Nat.ble (iv_c a) 18446744073709551615)) = some out
    have e1 : Nat.ble 18446744073709551616 (18446744073709551616 + r) = true := by rw [iv_n7]; omega
    have e2 : Nat.ble (18446744073709551616 + r) 18446744078004518912 = true := by rw [iv_n7]; omega
    have e3 : 18446744073709551616 + r - 18446744073709551616 = r := by omega
    rw [iw_bt (by rw [iv_n7]; omega), e1, e2, e3, iw_hg hk]
    show (@Bool.rec (fun _ => iv_R) none (iv_at c n (iv_c a) fun v => iw_ih sc (fun _ => out) (d, mi, c0, s0) (pg_c mi) np lo (v :: st) L) (Nat.beq kd kd)) = some out
    rw [iw_bt (by rw [iv_n8])]
    unfold iv_at
    have f1 : Nat.mod (iv_c a) 4294967296 = a := a1
    have f2 : Nat.div (iv_c a) 4294967296 = a := a2
    rw [f1, f2, iw_bt (by rw [iv_n7]; exact h1), iw_bt (by rw [iv_n7]; exact Nat.le_refl _), iw_bt (by rw [iv_n7]; show a - 2147483648 + 1 ≤ n; omega), iv_f_eq]
    have f3 : Nat.sub a a = 0 := Nat.sub_self a
    rw [f3]
    have f4 : iv_rng c (Nat.sub a 2147483648) 0 = iw_get L r (a - 2147483648) := by
      unfold iw_get
      rw [hk]
      rfl
    rw [f4]
    exact iw_ih_of rfl hc k
  rcases hkd with rfl | rfl
  · exact iw_op (g := fun _ => out) iw_nil hw ⟨by decide, hn⟩ key
  · exact iw_op (g := fun _ => out) iw_nil hw ⟨by decide, hn⟩ key
end IW2
